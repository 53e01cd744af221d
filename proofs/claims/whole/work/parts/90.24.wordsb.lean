/-! the words, further: written by gen/checks.py -/
set_option maxRecDepth 100000 in
theorem mfs_ok_0 : [47, 48, 49, 50, 51, 52, 55, 56, 60, 61, 62, 63].all mfs = true := by decide +kernel
set_option maxRecDepth 100000 in
theorem mfs_ok_1 : [78, 79, 87, 114, 139, 186, 201, 204, 205, 206, 238, 239].all mfs = true := by decide +kernel
set_option maxRecDepth 100000 in
theorem mfs_ok_2 : [240, 241].all mfs = true := by decide +kernel
set_option maxRecDepth 100000 in
theorem mfs_ok : ∀ k ∈ mSt, mfs k = true := by
  intro k hk
  have h : k ∈ ([47, 48, 49, 50, 51, 52, 55, 56, 60, 61, 62, 63] : List Nat) ++ (([78, 79, 87, 114, 139, 186, 201, 204, 205, 206, 238, 239] : List Nat) ++ (([240, 241] : List Nat))) := hk
  rcases List.mem_append.mp h with h | h
  · exact List.all_eq_true.mp mfs_ok_0 k h
  rcases List.mem_append.mp h with h | h
  · exact List.all_eq_true.mp mfs_ok_1 k h
  exact List.all_eq_true.mp mfs_ok_2 k h
set_option maxRecDepth 100000 in
theorem mfv_ok_0 : [0, 1, 2, 3, 4, 5, 6, 7, 8, 9, 10, 11].all mfv = true := by decide +kernel
set_option maxRecDepth 100000 in
theorem mfv_ok_1 : [12, 13, 14, 15, 16, 17, 18, 19, 20, 21, 22, 23].all mfv = true := by decide +kernel
set_option maxRecDepth 100000 in
theorem mfv_ok_2 : [24, 25, 26, 27, 28, 29, 30, 31, 32, 33, 34, 35].all mfv = true := by decide +kernel
set_option maxRecDepth 100000 in
theorem mfv_ok_3 : [36, 37, 38, 39, 40, 41, 42, 43, 44, 45, 46, 53].all mfv = true := by decide +kernel
set_option maxRecDepth 100000 in
theorem mfv_ok_4 : [54, 57, 58, 59, 64, 65, 66, 67, 68, 69, 70, 71].all mfv = true := by decide +kernel
set_option maxRecDepth 100000 in
theorem mfv_ok_5 : [72, 73, 74, 75, 76, 77, 80, 81, 82, 83, 84, 85].all mfv = true := by decide +kernel
set_option maxRecDepth 100000 in
theorem mfv_ok_6 : [86, 88, 89, 90, 91, 92, 93, 94, 95, 96, 97, 98].all mfv = true := by decide +kernel
set_option maxRecDepth 100000 in
theorem mfv_ok_7 : [99, 100, 101, 102, 103, 104, 105, 106, 107, 108, 109, 110].all mfv = true := by decide +kernel
set_option maxRecDepth 100000 in
theorem mfv_ok_8 : [111, 112, 113, 115, 116, 117, 118, 119, 120, 121, 122, 123].all mfv = true := by decide +kernel
set_option maxRecDepth 100000 in
theorem mfv_ok_9 : [124, 125, 126, 127, 128, 129, 130, 131, 132, 133, 134, 135].all mfv = true := by decide +kernel
set_option maxRecDepth 100000 in
theorem mfv_ok_10 : [136, 137, 138, 140, 141, 142, 143, 144, 145, 146, 147, 148].all mfv = true := by decide +kernel
set_option maxRecDepth 100000 in
theorem mfv_ok_11 : [149, 150, 151, 152, 153, 154, 155, 156, 157, 158, 159, 160].all mfv = true := by decide +kernel
set_option maxRecDepth 100000 in
theorem mfv_ok_12 : [161, 162, 163, 164, 165, 166, 167, 168, 169, 170, 171, 172].all mfv = true := by decide +kernel
set_option maxRecDepth 100000 in
theorem mfv_ok_13 : [173, 174, 175, 176, 177, 178, 179, 180, 181, 182, 183, 184].all mfv = true := by decide +kernel
set_option maxRecDepth 100000 in
theorem mfv_ok_14 : [185, 187, 188, 189, 190, 191, 192, 193, 194, 195, 196, 197].all mfv = true := by decide +kernel
set_option maxRecDepth 100000 in
theorem mfv_ok_15 : [198, 199, 200, 202, 203, 207, 208, 209, 210, 211, 212, 213].all mfv = true := by decide +kernel
set_option maxRecDepth 100000 in
theorem mfv_ok_16 : [214, 215, 216, 217, 218, 219, 220, 221, 222, 223, 224, 225].all mfv = true := by decide +kernel
set_option maxRecDepth 100000 in
theorem mfv_ok_17 : [226, 227, 228, 229, 230, 231, 232, 233, 234, 235, 236].all mfv = true := by decide +kernel
set_option maxRecDepth 100000 in
theorem mfv_ok : ∀ k ∈ mVi, mfv k = true := by
  intro k hk
  have h : k ∈ ([0, 1, 2, 3, 4, 5, 6, 7, 8, 9, 10, 11] : List Nat) ++ (([12, 13, 14, 15, 16, 17, 18, 19, 20, 21, 22, 23] : List Nat) ++ (([24, 25, 26, 27, 28, 29, 30, 31, 32, 33, 34, 35] : List Nat) ++ (([36, 37, 38, 39, 40, 41, 42, 43, 44, 45, 46, 53] : List Nat) ++ (([54, 57, 58, 59, 64, 65, 66, 67, 68, 69, 70, 71] : List Nat) ++ (([72, 73, 74, 75, 76, 77, 80, 81, 82, 83, 84, 85] : List Nat) ++ (([86, 88, 89, 90, 91, 92, 93, 94, 95, 96, 97, 98] : List Nat) ++ (([99, 100, 101, 102, 103, 104, 105, 106, 107, 108, 109, 110] : List Nat) ++ (([111, 112, 113, 115, 116, 117, 118, 119, 120, 121, 122, 123] : List Nat) ++ (([124, 125, 126, 127, 128, 129, 130, 131, 132, 133, 134, 135] : List Nat) ++ (([136, 137, 138, 140, 141, 142, 143, 144, 145, 146, 147, 148] : List Nat) ++ (([149, 150, 151, 152, 153, 154, 155, 156, 157, 158, 159, 160] : List Nat) ++ (([161, 162, 163, 164, 165, 166, 167, 168, 169, 170, 171, 172] : List Nat) ++ (([173, 174, 175, 176, 177, 178, 179, 180, 181, 182, 183, 184] : List Nat) ++ (([185, 187, 188, 189, 190, 191, 192, 193, 194, 195, 196, 197] : List Nat) ++ (([198, 199, 200, 202, 203, 207, 208, 209, 210, 211, 212, 213] : List Nat) ++ (([214, 215, 216, 217, 218, 219, 220, 221, 222, 223, 224, 225] : List Nat) ++ (([226, 227, 228, 229, 230, 231, 232, 233, 234, 235, 236] : List Nat)))))))))))))))))) := hk
  rcases List.mem_append.mp h with h | h
  · exact List.all_eq_true.mp mfv_ok_0 k h
  rcases List.mem_append.mp h with h | h
  · exact List.all_eq_true.mp mfv_ok_1 k h
  rcases List.mem_append.mp h with h | h
  · exact List.all_eq_true.mp mfv_ok_2 k h
  rcases List.mem_append.mp h with h | h
  · exact List.all_eq_true.mp mfv_ok_3 k h
  rcases List.mem_append.mp h with h | h
  · exact List.all_eq_true.mp mfv_ok_4 k h
  rcases List.mem_append.mp h with h | h
  · exact List.all_eq_true.mp mfv_ok_5 k h
  rcases List.mem_append.mp h with h | h
  · exact List.all_eq_true.mp mfv_ok_6 k h
  rcases List.mem_append.mp h with h | h
  · exact List.all_eq_true.mp mfv_ok_7 k h
  rcases List.mem_append.mp h with h | h
  · exact List.all_eq_true.mp mfv_ok_8 k h
  rcases List.mem_append.mp h with h | h
  · exact List.all_eq_true.mp mfv_ok_9 k h
  rcases List.mem_append.mp h with h | h
  · exact List.all_eq_true.mp mfv_ok_10 k h
  rcases List.mem_append.mp h with h | h
  · exact List.all_eq_true.mp mfv_ok_11 k h
  rcases List.mem_append.mp h with h | h
  · exact List.all_eq_true.mp mfv_ok_12 k h
  rcases List.mem_append.mp h with h | h
  · exact List.all_eq_true.mp mfv_ok_13 k h
  rcases List.mem_append.mp h with h | h
  · exact List.all_eq_true.mp mfv_ok_14 k h
  rcases List.mem_append.mp h with h | h
  · exact List.all_eq_true.mp mfv_ok_15 k h
  rcases List.mem_append.mp h with h | h
  · exact List.all_eq_true.mp mfv_ok_16 k h
  exact List.all_eq_true.mp mfv_ok_17 k h
