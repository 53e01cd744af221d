/-! every instruction, by the kernel: written by gen/checks.py -/
def mokk (k : Nat) : Bool := mokL k 0 (mProg k).1
theorem mokL_split {k : Nat} : ∀ (n o : Nat) (cd : List mI), mokL k o (cd.take n) = true → mokL k (o + n) (cd.drop n) = true → mokL k o cd = true
  | 0, o, cd, _, h => h
  | n + 1, o, [], _, _ => rfl
  | n + 1, o, x :: r, h, h' => by
    rw [List.take_succ_cons] at h
    rw [List.drop_succ_cons] at h'
    obtain ⟨a, b⟩ := Bool.and_eq_true_iff.mp h
    exact Bool.and_eq_true_iff.mpr ⟨a, mokL_split n (o + 1) r b (by rwa [show o + 1 + n = o + (n + 1) by omega])⟩
set_option maxRecDepth 100000 in
theorem mok_g0 : [0, 1, 2, 3].all mokk = true := by decide +kernel
set_option maxRecDepth 100000 in
theorem mok_g1 : [4, 5, 6, 7, 8, 9, 10].all mokk = true := by decide +kernel
set_option maxRecDepth 100000 in
theorem mok_g2 : [11, 12, 13, 14, 15, 16, 17, 18].all mokk = true := by decide +kernel
set_option maxRecDepth 100000 in
theorem mok_g3 : [19, 20, 21, 22, 23, 24, 25].all mokk = true := by decide +kernel
set_option maxRecDepth 100000 in
theorem mok_g4 : [26, 27, 28, 29, 30].all mokk = true := by decide +kernel
set_option maxRecDepth 100000 in
theorem mok_g5 : [31, 32, 33, 34, 35, 36, 37].all mokk = true := by decide +kernel
set_option maxRecDepth 100000 in
theorem mok_g6 : [38, 39, 40, 41, 42].all mokk = true := by decide +kernel
set_option maxRecDepth 100000 in
theorem mok_g7 : [43, 44, 45, 46, 47, 48, 49, 50, 51, 52, 53, 54, 55, 56, 58, 59].all mokk = true := by decide +kernel
set_option maxRecDepth 100000 in
theorem mok_g8 : [60, 61, 62, 63, 64, 65, 66, 67, 68, 69, 70].all mokk = true := by decide +kernel
set_option maxRecDepth 100000 in
theorem mok_g9 : [71, 72, 73, 74, 75, 76, 77].all mokk = true := by decide +kernel
set_option maxRecDepth 100000 in
theorem mok_g10 : [78, 79, 80, 81].all mokk = true := by decide +kernel
set_option maxRecDepth 100000 in
theorem mok_g11 : [82, 83, 84, 85, 86, 87, 88, 89, 90, 91, 92, 93].all mokk = true := by decide +kernel
set_option maxRecDepth 100000 in
theorem mok_g12 : [94, 95, 96, 97, 98, 99].all mokk = true := by decide +kernel
set_option maxRecDepth 100000 in
theorem mok_g13 : [100, 101, 102, 103, 104].all mokk = true := by decide +kernel
set_option maxRecDepth 100000 in
theorem mok_g14 : [105, 106, 107, 108].all mokk = true := by decide +kernel
set_option maxRecDepth 100000 in
theorem mok_g15 : [109, 110, 111].all mokk = true := by decide +kernel
set_option maxRecDepth 100000 in
theorem mok_g16 : [112, 113, 114, 115].all mokk = true := by decide +kernel
set_option maxRecDepth 100000 in
theorem mok_g17 : [116, 117].all mokk = true := by decide +kernel
set_option maxRecDepth 100000 in
theorem mok_g18 : [118, 119, 120, 121, 122, 123, 124, 125, 126].all mokk = true := by decide +kernel
set_option maxRecDepth 100000 in
theorem mok_g19 : [127, 128].all mokk = true := by decide +kernel
