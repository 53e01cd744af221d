noncomputable section
theorem zbc_zon {x : Int} (h0 : 0 ≤ x) (h1 : x < 16777216) : zbc x = zon x := by
  have e : x = ((x.toNat % 256 + 256 * (x.toNat / 256 % 256) + 65536 * (x.toNat / 65536) : Nat) : Int) := by omega
  have ha : x.toNat % 256 < 256 := by omega
  have hb : x.toNat / 256 % 256 < 256 := by omega
  have hc : x.toNat / 65536 < 256 := by omega
  generalize x.toNat % 256 = a at *
  generalize x.toNat / 256 % 256 = b at *
  generalize x.toNat / 65536 = c at *
  rw [e, zbc_eq ha hb hc, zon_eq ha hb hc]
theorem ior_24 {x y : Int} (h0 : 0 ≤ x) (h1 : x < 16777216) (g0 : 0 ≤ y) (g1 : y < 16777216) : 0 ≤ ior x y ∧ ior x y < 16777216 := by
  have ex : x = (x.toNat : Int) := by omega
  have ey : y = (y.toNat : Int) := by omega
  have hx : x.toNat < 2 ^ 24 := by omega
  have hy : y.toNat < 2 ^ 24 := by omega
  rw [ex, ey]
  generalize x.toNat = m at *
  generalize y.toNat = n at *
  unfold ior
  have h : (Int32.ofInt (m : Int) ||| Int32.ofInt (n : Int)).toBitVec.toNat = m ||| n := by
    rw [Int32.toBitVec_or, BitVec.toNat_or, i32_nat (by omega) (by omega), i32_nat (by omega) (by omega)]
    have e1 : ((m : Int) % 4294967296).toNat = m := by omega
    have e2 : ((n : Int) % 4294967296).toNat = n := by omega
    rw [e1, e2]
  have lt : m ||| n < 2 ^ 24 := Nat.or_lt_two_pow hx hy
  generalize Int32.ofInt (m : Int) ||| Int32.ofInt (n : Int) = z at h ⊢
  show 0 ≤ z.toBitVec.toInt ∧ z.toBitVec.toInt < 16777216
  rw [BitVec.toInt_eq_toNat_of_lt (by omega), h]
  omega
theorem ishl_24 : ∀ k : Nat, k < 24 → 0 ≤ ishl 1 (k : Int) ∧ ishl 1 (k : Int) < 16777216 := by decide +kernel
theorem zT_rng (D : Int → (Int → Int) → Int) (A : Int → Int) (tall p : Int) : 0 ≤ zT D A tall p ∧ zT D A tall p < 16777216 := by
  have key : ∀ n : Nat, n ≤ 24 → 0 ≤ zit (fun h x => zit (zAhG D A h tall (ishl 1 h) p) x 201) 0 n ∧ zit (fun h x => zit (zAhG D A h tall (ishl 1 h) p) x 201) 0 n < 16777216 := by
    intro n
    induction n with
    | zero => intro _; exact ⟨Int.le_refl 0, by show (0 : Int) < 16777216; decide⟩
    | succ n ih =>
      intro hn
      have i1 := ih (by omega)
      show 0 ≤ zit (zAhG D A n tall (ishl 1 n) p) (zit (fun h x => zit (zAhG D A h tall (ishl 1 h) p) x 201) 0 n) 201 ∧ zit (zAhG D A n tall (ishl 1 n) p) (zit (fun h x => zit (zAhG D A h tall (ishl 1 h) p) x 201) 0 n) 201 < 16777216
      generalize zit (fun h x => zit (zAhG D A h tall (ishl 1 h) p) x 201) 0 n = y at *
      rw [zAh_any]
      have s := ishl_24 n (by omega)
      split
      · exact ior_24 i1.1 i1.2 s.1 s.2
      · exact i1
  exact key 24 (Nat.le_refl _)
theorem zbc_T (D : Int → (Int → Int) → Int) (A : Int → Int) (tall p : Int) : zbc (zT D A tall p) = zon (zT D A tall p) := zbc_zon (zT_rng D A tall p).1 (zT_rng D A tall p).2
theorem aMk_eq (D : Int → (Int → Int) → Int) (A : Int → Int) (tall : Int) : aMk D A zbc tall = aMk D A zon tall := by
  unfold aMk
  refine zit_congr _ ?_
  intro k y _
  unfold zMoG
  rw [zbc_T, zbc_T]
/-- both answer alike -/
theorem aMark_eq (D : Int → (Int → Int) → Int) (A : Int → Int) (tall w : Int) : aMark D A zbc tall w = aMark D A zon tall w := by
  unfold aMark
  rw [aMk_eq, zbc_T]
end
