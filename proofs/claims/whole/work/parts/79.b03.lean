noncomputable section
theorem fin64 {p q s r : Nat} (hp : p ≤ 8) (hq : q ≤ 8) (hs : s ≤ 8) (er : p + 256 * q + 65536 * s = r) : (r + r / 256 + (r + r / 256) / 65536) % 64 = p + q + s := by
  have t1 : r / 256 = q + 256 * s := by omega
  have t2 : (r + (q + 256 * s)) / 65536 = s := by omega
  rw [t1, t2]
  omega
theorem w32_nat {x : Nat} (h : x < 2147483648) : w32 (x : Int) = (x : Int) := w32_in (by omega) (by omega)
set_option maxRecDepth 100000 in
theorem zbc_eq {a b c : Nat} (ha : a < 256) (hb : b < 256) (hc : c < 256) : zbc ((a + 256 * b + 65536 * c : Nat) : Int) = ((zpc a + zpc b + zpc c : Nat) : Int) := by
  have p1 := (zpc_facts a ha).2.2.2
  have p2 := (zpc_facts b hb).2.2.2
  have p3 := (zpc_facts c hc).2.2.2
  have u1 := (byte1 a ha).2.2
  have u2 := (byte1 b hb).2.2
  have u3 := (byte1 c hc).2.2
  have v1 := (byte3 a ha).1
  have v2 := (byte3 b hb).1
  have v3 := (byte3 c hc).1
  generalize en : a + 256 * b + 65536 * c = n
  have nlt : n < 16777216 := by omega
  have s1 := stage1 ha hb hc
  have s2 := stage2 u1 u2 u3
  have s3 := stage3 ha hb hc
  rw [en] at s1
  -- the first stage
  have le1 : (n / 2) &&& 1431655765 ≤ n := Nat.le_trans Nat.and_le_left (Nat.div_le_self _ _)
  have i1 : iand (iushr (n : Int) 1) 1431655765 = (((n / 2) &&& 1431655765 : Nat) : Int) := by
    rw [iushr_nat 1 1 (by omega) (by decide)]
    exact iand_nat (x := n / 2 ^ 1) (m := 1431655765) (by omega) (by decide)
  have j1 : w32 ((n : Int) - iand (iushr (n : Int) 1) 1431655765) = ((zu1 a + 256 * zu1 b + 65536 * zu1 c : Nat) : Int) := by
    rw [i1, ← s1, w32_in (by omega) (by omega)]
    omega
  generalize em : zu1 a + 256 * zu1 b + 65536 * zu1 c = m at *
  have mlt : m < 16777216 := by omega
  have i2 : iand (m : Int) 858993459 = ((m &&& 858993459 : Nat) : Int) := iand_nat (x := m) (m := 858993459) (by omega) (by decide)
  have i3 : iand (iushr (m : Int) 2) 858993459 = (((m / 4) &&& 858993459 : Nat) : Int) := by
    rw [iushr_nat 2 2 (by omega) (by decide)]
    exact iand_nat (x := m / 2 ^ 2) (m := 858993459) (by omega) (by decide)
  have j2 : w32 (iand (m : Int) 858993459 + iand (iushr (m : Int) 2) 858993459) = ((zu2 (zu1 a) + 256 * zu2 (zu1 b) + 65536 * zu2 (zu1 c) : Nat) : Int) := by
    rw [i2, i3, ← s2]
    have : (m &&& 858993459) + ((m / 4) &&& 858993459) < 2147483648 := by rw [s2]; omega
    rw [← Int.natCast_add]
    exact w32_nat this
  generalize eq : zu2 (zu1 a) + 256 * zu2 (zu1 b) + 65536 * zu2 (zu1 c) = q at *
  have qlt : q < 16777216 := by omega
  have j3 : iand (w32 ((q : Int) + iushr (q : Int) 4)) 252645135 = ((zpc a + 256 * zpc b + 65536 * zpc c : Nat) : Int) := by
    rw [iushr_nat 4 4 (by omega) (by decide), ← Int.natCast_add, w32_nat (by omega), ← s3]
    exact iand_nat (x := q + q / 2 ^ 4) (m := 252645135) (by omega) (by decide)
  generalize er : zpc a + 256 * zpc b + 65536 * zpc c = r at *
  have rlt : r < 16777216 := by omega
  have j4 : w32 ((r : Int) + iushr (r : Int) 8) = ((r + r / 256 : Nat) : Int) := by
    rw [iushr_nat 8 8 (by omega) (by decide), ← Int.natCast_add]
    exact w32_nat (x := r + r / 2 ^ 8) (by omega)
  have j5 : w32 (((r + r / 256 : Nat) : Int) + iushr ((r + r / 256 : Nat) : Int) 16) = ((r + r / 256 + (r + r / 256) / 65536 : Nat) : Int) := by
    rw [iushr_nat 16 16 (by omega) (by decide), ← Int.natCast_add]
    exact w32_nat (x := r + r / 256 + (r + r / 256) / 2 ^ 16) (by omega)
  have j6 : iand ((r + r / 256 + (r + r / 256) / 65536 : Nat) : Int) 63 = ((zpc a + zpc b + zpc c : Nat) : Int) := by
    have := iand_nat (x := r + r / 256 + (r + r / 256) / 65536) (m := 63) (by omega) (by decide)
    rw [show ((63 : Nat) : Int) = 63 from rfl] at this
    rw [this]
    have h63 : (r + r / 256 + (r + r / 256) / 65536) &&& 63 = (r + r / 256 + (r + r / 256) / 65536) % 64 := Nat.and_two_pow_sub_one_eq_mod _ 6
    rw [h63, fin64 p1 p2 p3 er]
  show (iand (w32 ((w32 ((iand (w32 ((w32 ((iand (w32 ((n : Int) - (iand (iushr (n : Int) 1) 1431655765))) 858993459) + (iand (iushr (w32 ((n : Int) - (iand (iushr (n : Int) 1) 1431655765))) 2) 858993459))) + (iushr (w32 ((iand (w32 ((n : Int) - (iand (iushr (n : Int) 1) 1431655765))) 858993459) + (iand (iushr (w32 ((n : Int) - (iand (iushr (n : Int) 1) 1431655765))) 2) 858993459))) 4))) 252645135) + (iushr (iand (w32 ((w32 ((iand (w32 ((n : Int) - (iand (iushr (n : Int) 1) 1431655765))) 858993459) + (iand (iushr (w32 ((n : Int) - (iand (iushr (n : Int) 1) 1431655765))) 2) 858993459))) + (iushr (w32 ((iand (w32 ((n : Int) - (iand (iushr (n : Int) 1) 1431655765))) 858993459) + (iand (iushr (w32 ((n : Int) - (iand (iushr (n : Int) 1) 1431655765))) 2) 858993459))) 4))) 252645135) 8))) + (iushr (w32 ((iand (w32 ((w32 ((iand (w32 ((n : Int) - (iand (iushr (n : Int) 1) 1431655765))) 858993459) + (iand (iushr (w32 ((n : Int) - (iand (iushr (n : Int) 1) 1431655765))) 2) 858993459))) + (iushr (w32 ((iand (w32 ((n : Int) - (iand (iushr (n : Int) 1) 1431655765))) 858993459) + (iand (iushr (w32 ((n : Int) - (iand (iushr (n : Int) 1) 1431655765))) 2) 858993459))) 4))) 252645135) + (iushr (iand (w32 ((w32 ((iand (w32 ((n : Int) - (iand (iushr (n : Int) 1) 1431655765))) 858993459) + (iand (iushr (w32 ((n : Int) - (iand (iushr (n : Int) 1) 1431655765))) 2) 858993459))) + (iushr (w32 ((iand (w32 ((n : Int) - (iand (iushr (n : Int) 1) 1431655765))) 858993459) + (iand (iushr (w32 ((n : Int) - (iand (iushr (n : Int) 1) 1431655765))) 2) 858993459))) 4))) 252645135) 8))) 16))) 63) = _
  rw [j1, j2, j3, j4, j5, j6]
theorem ishr_nat {x : Nat} (k : Nat) (hx : x < 2147483648) (hk : k < 24) : ishr (x : Int) (k : Int) = ((x / 2 ^ k : Nat) : Int) := by
  unfold ishr
  have hs : ((Int32.ofInt (k : Int) &&& 31).toBitVec.smod 32).toNat = k := by
    have : ∀ j : Nat, j < 24 → ((Int32.ofInt (j : Int) &&& 31).toBitVec.smod 32).toNat = j := by decide +kernel
    exact this k hk
  rw [pk_shr (Int32.ofInt (x : Int)) (Int32.ofInt (k : Int) &&& 31) k hs, Int32.toInt_ofInt_of_le (by omega) (by omega), Int.shiftRight_eq_div_pow]
  omega
theorem nb0 {a b c : Nat} (ha : a < 256) (hb : b < 256) (hc : c < 256) : (a + 256 * b + 65536 * c) / 2 ^ 0 % 2 = a % 2 := by omega
theorem nb1 {a b c : Nat} (ha : a < 256) (hb : b < 256) (hc : c < 256) : (a + 256 * b + 65536 * c) / 2 ^ 1 % 2 = a / 2 % 2 := by omega
theorem nb2 {a b c : Nat} (ha : a < 256) (hb : b < 256) (hc : c < 256) : (a + 256 * b + 65536 * c) / 2 ^ 2 % 2 = a / 4 % 2 := by omega
theorem nb3 {a b c : Nat} (ha : a < 256) (hb : b < 256) (hc : c < 256) : (a + 256 * b + 65536 * c) / 2 ^ 3 % 2 = a / 8 % 2 := by omega
theorem nb4 {a b c : Nat} (ha : a < 256) (hb : b < 256) (hc : c < 256) : (a + 256 * b + 65536 * c) / 2 ^ 4 % 2 = a / 16 % 2 := by omega
theorem nb5 {a b c : Nat} (ha : a < 256) (hb : b < 256) (hc : c < 256) : (a + 256 * b + 65536 * c) / 2 ^ 5 % 2 = a / 32 % 2 := by omega
theorem nb6 {a b c : Nat} (ha : a < 256) (hb : b < 256) (hc : c < 256) : (a + 256 * b + 65536 * c) / 2 ^ 6 % 2 = a / 64 % 2 := by omega
theorem nb7 {a b c : Nat} (ha : a < 256) (hb : b < 256) (hc : c < 256) : (a + 256 * b + 65536 * c) / 2 ^ 7 % 2 = a / 128 % 2 := by omega
theorem nb8 {a b c : Nat} (ha : a < 256) (hb : b < 256) (hc : c < 256) : (a + 256 * b + 65536 * c) / 2 ^ 8 % 2 = b % 2 := by omega
theorem nb9 {a b c : Nat} (ha : a < 256) (hb : b < 256) (hc : c < 256) : (a + 256 * b + 65536 * c) / 2 ^ 9 % 2 = b / 2 % 2 := by omega
theorem nb10 {a b c : Nat} (ha : a < 256) (hb : b < 256) (hc : c < 256) : (a + 256 * b + 65536 * c) / 2 ^ 10 % 2 = b / 4 % 2 := by omega
theorem nb11 {a b c : Nat} (ha : a < 256) (hb : b < 256) (hc : c < 256) : (a + 256 * b + 65536 * c) / 2 ^ 11 % 2 = b / 8 % 2 := by omega
theorem nb12 {a b c : Nat} (ha : a < 256) (hb : b < 256) (hc : c < 256) : (a + 256 * b + 65536 * c) / 2 ^ 12 % 2 = b / 16 % 2 := by omega
theorem nb13 {a b c : Nat} (ha : a < 256) (hb : b < 256) (hc : c < 256) : (a + 256 * b + 65536 * c) / 2 ^ 13 % 2 = b / 32 % 2 := by omega
theorem nb14 {a b c : Nat} (ha : a < 256) (hb : b < 256) (hc : c < 256) : (a + 256 * b + 65536 * c) / 2 ^ 14 % 2 = b / 64 % 2 := by omega
theorem nb15 {a b c : Nat} (ha : a < 256) (hb : b < 256) (hc : c < 256) : (a + 256 * b + 65536 * c) / 2 ^ 15 % 2 = b / 128 % 2 := by omega
theorem nb16 {a b c : Nat} (ha : a < 256) (hb : b < 256) (hc : c < 256) : (a + 256 * b + 65536 * c) / 2 ^ 16 % 2 = c % 2 := by omega
theorem nb17 {a b c : Nat} (ha : a < 256) (hb : b < 256) (hc : c < 256) : (a + 256 * b + 65536 * c) / 2 ^ 17 % 2 = c / 2 % 2 := by omega
theorem nb18 {a b c : Nat} (ha : a < 256) (hb : b < 256) (hc : c < 256) : (a + 256 * b + 65536 * c) / 2 ^ 18 % 2 = c / 4 % 2 := by omega
theorem nb19 {a b c : Nat} (ha : a < 256) (hb : b < 256) (hc : c < 256) : (a + 256 * b + 65536 * c) / 2 ^ 19 % 2 = c / 8 % 2 := by omega
theorem nb20 {a b c : Nat} (ha : a < 256) (hb : b < 256) (hc : c < 256) : (a + 256 * b + 65536 * c) / 2 ^ 20 % 2 = c / 16 % 2 := by omega
theorem nb21 {a b c : Nat} (ha : a < 256) (hb : b < 256) (hc : c < 256) : (a + 256 * b + 65536 * c) / 2 ^ 21 % 2 = c / 32 % 2 := by omega
theorem nb22 {a b c : Nat} (ha : a < 256) (hb : b < 256) (hc : c < 256) : (a + 256 * b + 65536 * c) / 2 ^ 22 % 2 = c / 64 % 2 := by omega
theorem nb23 {a b c : Nat} (ha : a < 256) (hb : b < 256) (hc : c < 256) : (a + 256 * b + 65536 * c) / 2 ^ 23 % 2 = c / 128 % 2 := by omega
theorem zon_eq {a b c : Nat} (ha : a < 256) (hb : b < 256) (hc : c < 256) : zon ((a + 256 * b + 65536 * c : Nat) : Int) = ((zpc a + zpc b + zpc c : Nat) : Int) := by
  rw [(zpc_facts a ha).2.2.1, (zpc_facts b hb).2.2.1, (zpc_facts c hc).2.2.1]
  generalize en : a + 256 * b + 65536 * c = n
  have bit : ∀ k : Nat, k < 24 → iand (ishr (n : Int) (k : Int)) 1 = ((n / 2 ^ k % 2 : Nat) : Int) := by
    intro k hk
    rw [ishr_nat k (by omega) hk]
    have lt : n / 2 ^ k ≤ n := Nat.div_le_self _ _
    have := iand_nat (x := n / 2 ^ k) (m := 1) (by omega) (by decide)
    rw [show ((1 : Nat) : Int) = 1 from rfl] at this
    rw [this, Nat.and_one_is_mod]
  have e : zon (n : Int) = zit (fun k s => s + ((n / 2 ^ k % 2 : Nat) : Int)) 0 24 := zit_congr 24 (fun k y hk => by show y + iand (ishr (n : Int) (k : Int)) 1 = _; rw [bit k hk])
  rw [e]
  clear bit e
  simp only [zit]
  subst en
  rw [nb0 ha hb hc, nb1 ha hb hc, nb2 ha hb hc, nb3 ha hb hc, nb4 ha hb hc, nb5 ha hb hc, nb6 ha hb hc, nb7 ha hb hc, nb8 ha hb hc, nb9 ha hb hc, nb10 ha hb hc, nb11 ha hb hc, nb12 ha hb hc, nb13 ha hb hc, nb14 ha hb hc, nb15 ha hb hc, nb16 ha hb hc, nb17 ha hb hc, nb18 ha hb hc, nb19 ha hb hc, nb20 ha hb hc, nb21 ha hb hc, nb22 ha hb hc, nb23 ha hb hc]
  clear ha hb hc
  generalize a % 2 = x0
  generalize a / 2 % 2 = x1
  generalize a / 4 % 2 = x2
  generalize a / 8 % 2 = x3
  generalize a / 16 % 2 = x4
  generalize a / 32 % 2 = x5
  generalize a / 64 % 2 = x6
  generalize a / 128 % 2 = x7
  generalize b % 2 = x8
  generalize b / 2 % 2 = x9
  generalize b / 4 % 2 = x10
  generalize b / 8 % 2 = x11
  generalize b / 16 % 2 = x12
  generalize b / 32 % 2 = x13
  generalize b / 64 % 2 = x14
  generalize b / 128 % 2 = x15
  generalize c % 2 = x16
  generalize c / 2 % 2 = x17
  generalize c / 4 % 2 = x18
  generalize c / 8 % 2 = x19
  generalize c / 16 % 2 = x20
  generalize c / 32 % 2 = x21
  generalize c / 64 % 2 = x22
  generalize c / 128 % 2 = x23
  omega
end
