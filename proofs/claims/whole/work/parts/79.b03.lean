noncomputable section
theorem w32_nat {x : Nat} (h : x < 2147483648) : w32 (x : Int) = (x : Int) := w32_in (by omega) (by omega)
set_option maxRecDepth 100000 in
theorem zbc_eq {a b c : Nat} (ha : a < 256) (hb : b < 256) (hc : c < 256) : zbc ((a + 256 * b + 65536 * c : Nat) : Int) = ((zpc a + zpc b + zpc c : Nat) : Int) := by
  have p1 := (zpc_facts a ha).2.2.2
  have p2 := (zpc_facts b hb).2.2.2
  have p3 := (zpc_facts c hc).2.2.2
  have u1 := (byte1 a ha).2.2
  have u2 := (byte1 b hb).2.2
  have u3 := (byte1 c hc).2.2
  have v1 := (byte3 a ha).1
  have v2 := (byte3 b hb).1
  have v3 := (byte3 c hc).1
  generalize en : a + 256 * b + 65536 * c = n
  have nlt : n < 16777216 := by omega
  have s1 := stage1 ha hb hc
  have s2 := stage2 u1 u2 u3
  have s3 := stage3 ha hb hc
  rw [en] at s1
  -- the first stage
  have le1 : (n / 2) &&& 1431655765 ≤ n := Nat.le_trans Nat.and_le_left (Nat.div_le_self _ _)
  have i1 : iand (iushr (n : Int) 1) 1431655765 = (((n / 2) &&& 1431655765 : Nat) : Int) := by
    rw [iushr_nat 1 1 (by omega) (by decide)]
    exact iand_nat (x := n / 2 ^ 1) (m := 1431655765) (by omega) (by decide)
  have j1 : w32 ((n : Int) - iand (iushr (n : Int) 1) 1431655765) = ((zu1 a + 256 * zu1 b + 65536 * zu1 c : Nat) : Int) := by
    rw [i1, ← s1, w32_in (by omega) (by omega)]
    omega
  generalize em : zu1 a + 256 * zu1 b + 65536 * zu1 c = m at *
  have mlt : m < 16777216 := by omega
  have i2 : iand (m : Int) 858993459 = ((m &&& 858993459 : Nat) : Int) := iand_nat (x := m) (m := 858993459) (by omega) (by decide)
  have i3 : iand (iushr (m : Int) 2) 858993459 = (((m / 4) &&& 858993459 : Nat) : Int) := by
    rw [iushr_nat 2 2 (by omega) (by decide)]
    exact iand_nat (x := m / 2 ^ 2) (m := 858993459) (by omega) (by decide)
  have j2 : w32 (iand (m : Int) 858993459 + iand (iushr (m : Int) 2) 858993459) = ((zu2 (zu1 a) + 256 * zu2 (zu1 b) + 65536 * zu2 (zu1 c) : Nat) : Int) := by
    rw [i2, i3, ← s2]
    have : (m &&& 858993459) + ((m / 4) &&& 858993459) < 2147483648 := by rw [s2]; omega
    rw [← Int.natCast_add]
    exact w32_nat this
  generalize eq : zu2 (zu1 a) + 256 * zu2 (zu1 b) + 65536 * zu2 (zu1 c) = q at *
  have qlt : q < 16777216 := by omega
  have j3 : iand (w32 ((q : Int) + iushr (q : Int) 4)) 252645135 = ((zpc a + 256 * zpc b + 65536 * zpc c : Nat) : Int) := by
    rw [iushr_nat 4 4 (by omega) (by decide), ← Int.natCast_add, w32_nat (by omega), ← s3]
    exact iand_nat (x := q + q / 2 ^ 4) (m := 252645135) (by omega) (by decide)
  generalize er : zpc a + 256 * zpc b + 65536 * zpc c = r at *
  have rlt : r < 16777216 := by omega
  have j4 : w32 ((r : Int) + iushr (r : Int) 8) = ((r + r / 256 : Nat) : Int) := by
    rw [iushr_nat 8 8 (by omega) (by decide), ← Int.natCast_add]
    exact w32_nat (x := r + r / 2 ^ 8) (by omega)
  have j5 : w32 (((r + r / 256 : Nat) : Int) + iushr ((r + r / 256 : Nat) : Int) 16) = ((r + r / 256 + (r + r / 256) / 65536 : Nat) : Int) := by
    rw [iushr_nat 16 16 (by omega) (by decide), ← Int.natCast_add]
    exact w32_nat (x := r + r / 256 + (r + r / 256) / 2 ^ 16) (by omega)
  have j6 : iand ((r + r / 256 + (r + r / 256) / 65536 : Nat) : Int) 63 = ((zpc a + zpc b + zpc c : Nat) : Int) := by
    have := iand_nat (x := r + r / 256 + (r + r / 256) / 65536) (m := 63) (by omega) (by decide)
    rw [show ((63 : Nat) : Int) = 63 from rfl] at this
    rw [this]
    have h63 : (r + r / 256 + (r + r / 256) / 65536) &&& 63 = (r + r / 256 + (r + r / 256) / 65536) % 64 := Nat.and_two_pow_sub_one_eq_mod _ 6
    rw [h63]
    congr 1
    omega
  show (iand (w32 ((w32 ((iand (w32 ((w32 ((iand (w32 ((n : Int) - (iand (iushr (n : Int) 1) 1431655765))) 858993459) + (iand (iushr (w32 ((n : Int) - (iand (iushr (n : Int) 1) 1431655765))) 2) 858993459))) + (iushr (w32 ((iand (w32 ((n : Int) - (iand (iushr (n : Int) 1) 1431655765))) 858993459) + (iand (iushr (w32 ((n : Int) - (iand (iushr (n : Int) 1) 1431655765))) 2) 858993459))) 4))) 252645135) + (iushr (iand (w32 ((w32 ((iand (w32 ((n : Int) - (iand (iushr (n : Int) 1) 1431655765))) 858993459) + (iand (iushr (w32 ((n : Int) - (iand (iushr (n : Int) 1) 1431655765))) 2) 858993459))) + (iushr (w32 ((iand (w32 ((n : Int) - (iand (iushr (n : Int) 1) 1431655765))) 858993459) + (iand (iushr (w32 ((n : Int) - (iand (iushr (n : Int) 1) 1431655765))) 2) 858993459))) 4))) 252645135) 8))) + (iushr (w32 ((iand (w32 ((w32 ((iand (w32 ((n : Int) - (iand (iushr (n : Int) 1) 1431655765))) 858993459) + (iand (iushr (w32 ((n : Int) - (iand (iushr (n : Int) 1) 1431655765))) 2) 858993459))) + (iushr (w32 ((iand (w32 ((n : Int) - (iand (iushr (n : Int) 1) 1431655765))) 858993459) + (iand (iushr (w32 ((n : Int) - (iand (iushr (n : Int) 1) 1431655765))) 2) 858993459))) 4))) 252645135) + (iushr (iand (w32 ((w32 ((iand (w32 ((n : Int) - (iand (iushr (n : Int) 1) 1431655765))) 858993459) + (iand (iushr (w32 ((n : Int) - (iand (iushr (n : Int) 1) 1431655765))) 2) 858993459))) + (iushr (w32 ((iand (w32 ((n : Int) - (iand (iushr (n : Int) 1) 1431655765))) 858993459) + (iand (iushr (w32 ((n : Int) - (iand (iushr (n : Int) 1) 1431655765))) 2) 858993459))) 4))) 252645135) 8))) 16))) 63) = _
  rw [j1, j2, j3, j4, j5, j6]
end
