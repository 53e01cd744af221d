/-! numbers: the small machine's Int beside the machine's Int32, Int64 -/
def rgI (x : Int) : Prop := -2147483648 ≤ x ∧ x < 2147483648
def rgL (x : Int) : Prop := -9223372036854775808 ≤ x ∧ x < 9223372036854775808
theorem rgI_w32 (x : Int) : rgI (w32 x) := by unfold rgI w32; omega
theorem rgL_w64 (x : Int) : rgL (w64 x) := by unfold rgL w64; omega
theorem w32_id {x : Int} (h : rgI x) : w32 x = x := by unfold rgI at h; unfold w32; omega
theorem w64_id {x : Int} (h : rgL x) : w64 x = x := by unfold rgL at h; unfold w64; omega
theorem rgI_L {x : Int} (h : rgI x) : rgL x := by unfold rgI at h; unfold rgL; omega
theorem w32_bmod (x : Int) : w32 x = x.bmod 4294967296 := by
  unfold w32 Int.bmod
  dsimp only
  split <;> omega
theorem w64_bmod (x : Int) : w64 x = x.bmod 18446744073709551616 := by
  unfold w64 Int.bmod
  dsimp only
  split <;> omega
theorem w8_bmod (x : Int) : w8 x = x.bmod 256 := by
  unfold w8 Int.bmod
  dsimp only
  split <;> omega
theorem i32_w (x : Int) : (Int32.ofInt x).toInt = w32 x := by rw [w32_bmod]; exact Int32.toInt_ofInt
theorem i64_w (x : Int) : (Int64.ofInt x).toInt = w64 x := by rw [w64_bmod]; exact Int64.toInt_ofInt
theorem i32_id {x : Int} (h : rgI x) : (Int32.ofInt x).toInt = x := by rw [i32_w, w32_id h]
theorem i64_id {x : Int} (h : rgL x) : (Int64.ofInt x).toInt = x := by rw [i64_w, w64_id h]
theorem i32_rg (x : Int32) : rgI x.toInt := ⟨Int32.le_toInt x, Int32.toInt_lt x⟩
theorem i64_rg (x : Int64) : rgL x.toInt := ⟨Int64.le_toInt x, Int64.toInt_lt x⟩
theorem i32_back (x : Int32) : Int32.ofInt x.toInt = x := Int32.ofInt_toInt x
theorem i64_back (x : Int64) : Int64.ofInt x.toInt = x := Int64.ofInt_toInt x
theorem i32_cw (x : Int) : Int32.ofInt (w32 x) = Int32.ofInt x := Int32.toInt_inj.mp (by rw [i32_w, i32_w, w32_id (rgI_w32 x)])
theorem i64_cw (x : Int) : Int64.ofInt (w64 x) = Int64.ofInt x := Int64.toInt_inj.mp (by rw [i64_w, i64_w, w64_id (rgL_w64 x)])
theorem i32_add (x y : Int) : Int32.ofInt x + Int32.ofInt y = Int32.ofInt (w32 (x + y)) := by rw [i32_cw, Int32.ofInt_add]
theorem i32_sub (x y : Int) : Int32.ofInt x - Int32.ofInt y = Int32.ofInt (w32 (x - y)) := by rw [i32_cw, Int32.ofInt_sub]
theorem i32_mul (x y : Int) : Int32.ofInt x * Int32.ofInt y = Int32.ofInt (w32 (x * y)) := by rw [i32_cw, Int32.ofInt_mul]
theorem i32_neg (x : Int) : -Int32.ofInt x = Int32.ofInt (w32 (-x)) := by rw [i32_cw, Int32.ofInt_neg]
theorem i64_add (x y : Int) : Int64.ofInt x + Int64.ofInt y = Int64.ofInt (w64 (x + y)) := by rw [i64_cw, Int64.ofInt_add]
theorem i64_sub (x y : Int) : Int64.ofInt x - Int64.ofInt y = Int64.ofInt (w64 (x - y)) := by rw [i64_cw, Int64.ofInt_sub]
theorem i64_mul (x y : Int) : Int64.ofInt x * Int64.ofInt y = Int64.ofInt (w64 (x * y)) := by rw [i64_cw, Int64.ofInt_mul]
theorem i32_div {x y : Int} (hx : rgI x) (hy : rgI y) : Int32.ofInt x / Int32.ofInt y = Int32.ofInt (w32 (Int.tdiv x y)) := by
  apply Int32.toInt_inj.mp
  rw [Int32.toInt_div, i32_id hx, i32_id hy, i32_w, w32_id (rgI_w32 _), w32_bmod]
theorem i64_div {x y : Int} (hx : rgL x) (hy : rgL y) : Int64.ofInt x / Int64.ofInt y = Int64.ofInt (w64 (Int.tdiv x y)) := by
  apply Int64.toInt_inj.mp
  rw [Int64.toInt_div, i64_id hx, i64_id hy, i64_w, w64_id (rgL_w64 _), w64_bmod]
theorem i32_rem {x y : Int} (hx : rgI x) (hy : rgI y) : Int32.ofInt x - Int32.ofInt x / Int32.ofInt y * Int32.ofInt y = Int32.ofInt (Int.tmod x y) := by
  rw [i32_div hx hy, i32_cw, ← Int32.ofInt_mul, ← Int32.ofInt_sub, Int.tmod_def, Int.mul_comm]
theorem i64_rem {x y : Int} (hx : rgL x) (hy : rgL y) : Int64.ofInt x - Int64.ofInt x / Int64.ofInt y * Int64.ofInt y = Int64.ofInt (Int.tmod x y) := by
  rw [i64_div hx hy, i64_cw, ← Int64.ofInt_mul, ← Int64.ofInt_sub, Int.tmod_def, Int.mul_comm]
theorem tmod_rg {x y : Int} (hy : y ≠ 0) : (0 ≤ x → 0 ≤ x.tmod y ∧ x.tmod y ≤ x) ∧ (x ≤ 0 → x ≤ x.tmod y ∧ x.tmod y ≤ 0) := by
  constructor
  · intro h
    exact ⟨Int.tmod_nonneg y h, by
      have h1 := Int.natAbs_tmod x y
      have h2 : x.natAbs % y.natAbs ≤ x.natAbs := Nat.mod_le _ _
      have h3 := Int.tmod_nonneg y h
      omega⟩
  · intro h
    have h0 : 0 ≤ (-x).tmod y := Int.tmod_nonneg y (by omega)
    have h1 := Int.natAbs_tmod (-x) y
    have h2 : (-x).natAbs % y.natAbs ≤ (-x).natAbs := Nat.mod_le _ _
    rw [Int.neg_tmod] at h0 h1
    omega
theorem rgI_tmod {x y : Int} (hx : rgI x) (hy : y ≠ 0) : rgI (x.tmod y) := by
  obtain ⟨h1, h2⟩ := tmod_rg (x := x) hy
  unfold rgI at *
  rcases Int.le_total 0 x with h | h
  · have := h1 h; omega
  · have := h2 h; omega
theorem rgL_tmod {x y : Int} (hx : rgL x) (hy : y ≠ 0) : rgL (x.tmod y) := by
  obtain ⟨h1, h2⟩ := tmod_rg (x := x) hy
  unfold rgL at *
  rcases Int.le_total 0 x with h | h
  · have := h1 h; omega
  · have := h2 h; omega
theorem i32_eq {x y : Int} (hx : rgI x) (hy : rgI y) : Int32.ofInt x = Int32.ofInt y ↔ x = y := by
  constructor
  · intro h
    have := congrArg Int32.toInt h
    rwa [i32_id hx, i32_id hy] at this
  · intro h; rw [h]
theorem i32_lt {x y : Int} (hx : rgI x) (hy : rgI y) : Int32.ofInt x < Int32.ofInt y ↔ x < y := by
  rw [Int32.lt_iff_toInt_lt, i32_id hx, i32_id hy]
theorem i32_le {x y : Int} (hx : rgI x) (hy : rgI y) : Int32.ofInt x ≤ Int32.ofInt y ↔ x ≤ y := by
  rw [Int32.le_iff_toInt_le, i32_id hx, i32_id hy]
theorem i64_lt {x y : Int} (hx : rgL x) (hy : rgL y) : Int64.ofInt x < Int64.ofInt y ↔ x < y := by
  rw [Int64.lt_iff_toInt_lt, i64_id hx, i64_id hy]
theorem i64_eq {x y : Int} (hx : rgL x) (hy : rgL y) : Int64.ofInt x = Int64.ofInt y ↔ x = y := by
  constructor
  · intro h
    have := congrArg Int64.toInt h
    rwa [i64_id hx, i64_id hy] at this
  · intro h; rw [h]
theorem i32_0 : Int32.ofInt 0 = 0 := rfl
theorem i32_clamp {x : Int} (hx : rgI x) : (Int32.ofInt x).toNatClampNeg = x.toNat := by
  show (Int32.ofInt x).toInt.toNat = x.toNat
  rw [i32_id hx]
theorem i32_in {x : Int} {n : Nat} (hx : rgI x) (h0 : 0 ≤ x) (h1 : x < n) : vp_in (Int32.ofInt x) n := by
  rw [vp_in_iff, i32_id hx]
  exact ⟨h0, h1⟩
theorem i32_nneg {x : Int} (hx : rgI x) (h0 : 0 ≤ x) : ¬ Int32.ofInt x < 0 := by
  rw [← i32_0, i32_lt hx (by unfold rgI; omega)]
  omega
theorem i32_64 {x : Int} (hx : rgI x) : (Int32.ofInt x).toInt64 = Int64.ofInt x := by
  apply Int64.toInt_inj.mp
  rw [Int32.toInt_toInt64, i32_id hx, i64_id (rgI_L hx)]
theorem i64_32 (x : Int) (hx : rgL x) : (Int64.ofInt x).toInt32 = Int32.ofInt (w32 x) := by
  apply Int32.toInt_inj.mp
  rw [Int64.toInt_toInt32, i64_id hx, i32_id (rgI_w32 x), w32_bmod]
theorem i32_8 (x : Int) (hx : rgI x) : (Int32.ofInt x).toInt8.toInt32 = Int32.ofInt (w8 x) := by
  apply Int32.toInt_inj.mp
  rw [Int8.toInt_toInt32, Int32.toInt_toInt8, i32_id hx, i32_id (by unfold rgI w8; omega), w8_bmod]
theorem i64_cmp {x y : Int} (hx : rgL x) (hy : rgL y) : lg_cmp (Int64.ofInt x) (Int64.ofInt y) = Int32.ofInt (lcp x y) := by
  unfold lg_cmp lcp
  by_cases h1 : x < y
  · have h2 := (i64_lt hx hy).mpr h1
    have h3 : ¬ Int64.ofInt x = Int64.ofInt y := fun q => by have := (i64_eq hx hy).mp q; omega
    have h4 : ¬ Int64.ofInt y < Int64.ofInt x := fun q => by have := (i64_lt hy hx).mp q; omega
    simp [h1, h2, h3, h4]
    try rfl
  · by_cases h5 : x = y
    · subst h5
      have h2 : ¬ Int64.ofInt x < Int64.ofInt x := fun q => by have := (i64_lt hx hx).mp q; omega
      simp [h2]
      try rfl
    · have h2 : ¬ Int64.ofInt x < Int64.ofInt y := fun q => h1 ((i64_lt hx hy).mp q)
      have h3 : ¬ Int64.ofInt x = Int64.ofInt y := fun q => h5 ((i64_eq hx hy).mp q)
      have h4 : Int64.ofInt y < Int64.ofInt x := (i64_lt hy hx).mpr (by omega)
      simp [h1, h2, h3, h4, h5]
      try rfl
theorem i32_nar_b (x : Int) (hx : rgI x) : vp_nar .byte (Int32.ofInt x) = Int32.ofInt (mnar 101 x) := by
  rw [vp_nar_byte, i32_8 x hx]
  rfl
