/-! every instruction, the long methods, and all together -/
set_option maxRecDepth 100000 in
theorem mok_b57_0 : mokL 57 0 (((mProg 57).1.drop 0).take 120) = true := by decide +kernel
set_option maxRecDepth 100000 in
theorem mok_b57_120 : mokL 57 120 (((mProg 57).1.drop 120).take 120) = true := by decide +kernel
set_option maxRecDepth 100000 in
theorem mok_b57_240 : mokL 57 240 (((mProg 57).1.drop 240).take 120) = true := by decide +kernel
theorem mok_d57_360 : mokL 57 360 ((mProg 57).1.drop 360) = true := by decide +kernel
theorem mok_d57_240 : mokL 57 240 ((mProg 57).1.drop 240) = true := mokL_split 120 240 _ mok_b57_240 (by rw [List.drop_drop]; exact mok_d57_360)
theorem mok_d57_120 : mokL 57 120 ((mProg 57).1.drop 120) = true := mokL_split 120 120 _ mok_b57_120 (by rw [List.drop_drop]; exact mok_d57_240)
theorem mok_d57_0 : mokL 57 0 ((mProg 57).1.drop 0) = true := mokL_split 120 0 _ mok_b57_0 (by rw [List.drop_drop]; exact mok_d57_120)
theorem mok_g_57 : [57].all mokk = true := by
  rw [List.all_cons, List.all_nil, Bool.and_true]
  exact mok_d57_0
set_option maxRecDepth 100000 in
theorem mok_b237_0 : mokL 237 0 (((mProg 237).1.drop 0).take 120) = true := by decide +kernel
set_option maxRecDepth 100000 in
theorem mok_b237_120 : mokL 237 120 (((mProg 237).1.drop 120).take 120) = true := by decide +kernel
set_option maxRecDepth 100000 in
theorem mok_b237_240 : mokL 237 240 (((mProg 237).1.drop 240).take 120) = true := by decide +kernel
set_option maxRecDepth 100000 in
theorem mok_b237_360 : mokL 237 360 (((mProg 237).1.drop 360).take 120) = true := by decide +kernel
set_option maxRecDepth 100000 in
theorem mok_b237_480 : mokL 237 480 (((mProg 237).1.drop 480).take 120) = true := by decide +kernel
set_option maxRecDepth 100000 in
theorem mok_b237_600 : mokL 237 600 (((mProg 237).1.drop 600).take 120) = true := by decide +kernel
set_option maxRecDepth 100000 in
theorem mok_b237_720 : mokL 237 720 (((mProg 237).1.drop 720).take 120) = true := by decide +kernel
set_option maxRecDepth 100000 in
theorem mok_b237_840 : mokL 237 840 (((mProg 237).1.drop 840).take 120) = true := by decide +kernel
set_option maxRecDepth 100000 in
theorem mok_b237_960 : mokL 237 960 (((mProg 237).1.drop 960).take 120) = true := by decide +kernel
theorem mok_d237_1080 : mokL 237 1080 ((mProg 237).1.drop 1080) = true := by decide +kernel
theorem mok_d237_960 : mokL 237 960 ((mProg 237).1.drop 960) = true := mokL_split 120 960 _ mok_b237_960 (by rw [List.drop_drop]; exact mok_d237_1080)
theorem mok_d237_840 : mokL 237 840 ((mProg 237).1.drop 840) = true := mokL_split 120 840 _ mok_b237_840 (by rw [List.drop_drop]; exact mok_d237_960)
theorem mok_d237_720 : mokL 237 720 ((mProg 237).1.drop 720) = true := mokL_split 120 720 _ mok_b237_720 (by rw [List.drop_drop]; exact mok_d237_840)
theorem mok_d237_600 : mokL 237 600 ((mProg 237).1.drop 600) = true := mokL_split 120 600 _ mok_b237_600 (by rw [List.drop_drop]; exact mok_d237_720)
theorem mok_d237_480 : mokL 237 480 ((mProg 237).1.drop 480) = true := mokL_split 120 480 _ mok_b237_480 (by rw [List.drop_drop]; exact mok_d237_600)
theorem mok_d237_360 : mokL 237 360 ((mProg 237).1.drop 360) = true := mokL_split 120 360 _ mok_b237_360 (by rw [List.drop_drop]; exact mok_d237_480)
theorem mok_d237_240 : mokL 237 240 ((mProg 237).1.drop 240) = true := mokL_split 120 240 _ mok_b237_240 (by rw [List.drop_drop]; exact mok_d237_360)
theorem mok_d237_120 : mokL 237 120 ((mProg 237).1.drop 120) = true := mokL_split 120 120 _ mok_b237_120 (by rw [List.drop_drop]; exact mok_d237_240)
theorem mok_d237_0 : mokL 237 0 ((mProg 237).1.drop 0) = true := mokL_split 120 0 _ mok_b237_0 (by rw [List.drop_drop]; exact mok_d237_120)
theorem mok_g_237 : [237].all mokk = true := by
  rw [List.all_cons, List.all_nil, Bool.and_true]
  exact mok_d237_0
set_option maxRecDepth 100000 in
theorem mok_ok : ∀ k ∈ [0, 1, 2, 3, 4, 5, 6, 7, 8, 9, 10, 11, 12, 13, 14, 15, 16, 17, 18, 19, 20, 21, 22, 23, 24, 25, 26, 27, 28, 29, 30, 31, 32, 33, 34, 35, 36, 37, 38, 39, 40, 41, 42, 43, 44, 45, 46, 47, 48, 49, 50, 51, 52, 53, 54, 55, 56, 57, 58, 59, 60, 61, 62, 63, 64, 65, 66, 67, 68, 69, 70, 71, 72, 73, 74, 75, 76, 77, 78, 79, 80, 81, 82, 83, 84, 85, 86, 87, 88, 89, 90, 91, 92, 93, 94, 95, 96, 97, 98, 99, 100, 101, 102, 103, 104, 105, 106, 107, 108, 109, 110, 111, 112, 113, 114, 115, 116, 117, 118, 119, 120, 121, 122, 123, 124, 125, 126, 127, 128, 129, 130, 131, 132, 133, 134, 135, 136, 137, 138, 139, 140, 141, 142, 143, 144, 145, 146, 147, 148, 149, 150, 151, 152, 153, 154, 155, 156, 157, 158, 159, 160, 161, 162, 163, 164, 165, 166, 167, 168, 169, 170, 171, 172, 173, 174, 175, 176, 177, 178, 179, 180, 181, 182, 183, 184, 185, 186, 187, 188, 189, 190, 191, 192, 193, 194, 195, 196, 197, 198, 199, 200, 201, 202, 203, 204, 205, 206, 207, 208, 209, 210, 211, 212, 213, 214, 215, 216, 217, 218, 219, 220, 221, 222, 223, 224, 225, 226, 227, 228, 229, 230, 231, 232, 233, 234, 235, 236, 237, 238, 239, 240, 241], mokk k = true := by
  intro k hk
  have hl : ([0, 1, 2, 3, 4, 5, 6, 7, 8, 9, 10, 11, 12, 13, 14, 15, 16, 17, 18, 19, 20, 21, 22, 23, 24, 25, 26, 27, 28, 29, 30, 31, 32, 33, 34, 35, 36, 37, 38, 39, 40, 41, 42, 43, 44, 45, 46, 47, 48, 49, 50, 51, 52, 53, 54, 55, 56, 57, 58, 59, 60, 61, 62, 63, 64, 65, 66, 67, 68, 69, 70, 71, 72, 73, 74, 75, 76, 77, 78, 79, 80, 81, 82, 83, 84, 85, 86, 87, 88, 89, 90, 91, 92, 93, 94, 95, 96, 97, 98, 99, 100, 101, 102, 103, 104, 105, 106, 107, 108, 109, 110, 111, 112, 113, 114, 115, 116, 117, 118, 119, 120, 121, 122, 123, 124, 125, 126, 127, 128, 129, 130, 131, 132, 133, 134, 135, 136, 137, 138, 139, 140, 141, 142, 143, 144, 145, 146, 147, 148, 149, 150, 151, 152, 153, 154, 155, 156, 157, 158, 159, 160, 161, 162, 163, 164, 165, 166, 167, 168, 169, 170, 171, 172, 173, 174, 175, 176, 177, 178, 179, 180, 181, 182, 183, 184, 185, 186, 187, 188, 189, 190, 191, 192, 193, 194, 195, 196, 197, 198, 199, 200, 201, 202, 203, 204, 205, 206, 207, 208, 209, 210, 211, 212, 213, 214, 215, 216, 217, 218, 219, 220, 221, 222, 223, 224, 225, 226, 227, 228, 229, 230, 231, 232, 233, 234, 235, 236, 237, 238, 239, 240, 241] : List Nat).all (fun k => [[0, 1, 2, 3], [4, 5, 6, 7, 8, 9, 10], [11, 12, 13, 14, 15, 16, 17, 18], [19, 20, 21, 22, 23, 24, 25], [26, 27, 28, 29, 30], [31, 32, 33, 34, 35, 36, 37], [38, 39, 40, 41, 42], [43, 44, 45, 46, 47, 48, 49, 50, 51, 52, 53, 54, 55, 56, 58, 59], [60, 61, 62, 63, 64, 65, 66, 67, 68, 69, 70], [71, 72, 73, 74, 75, 76, 77], [78, 79, 80, 81], [82, 83, 84, 85, 86, 87, 88, 89, 90, 91, 92, 93], [94, 95, 96, 97, 98, 99], [100, 101, 102, 103, 104], [105, 106, 107, 108], [109, 110, 111], [112, 113, 114, 115], [116, 117], [118, 119, 120, 121, 122, 123, 124, 125, 126], [127, 128], [129, 130, 131, 132, 133, 134], [135, 136, 137], [138, 139, 140, 141, 142], [143, 144], [145, 146, 147, 148, 149], [150, 151, 152, 153, 154, 155], [156, 157, 158, 159, 160, 161, 162, 163, 164, 165], [166, 167, 168, 169, 170, 171, 172, 173], [174, 175, 176, 177, 178, 179, 180, 181, 182, 183], [184, 185], [186, 187, 188, 189], [190, 191, 192, 193], [194, 195, 196, 197, 198, 199], [200, 201, 202, 203, 204], [205, 206, 207, 208, 209, 210, 211, 212], [213, 214, 215, 216, 217, 218], [219, 220], [221, 222, 223, 224, 225, 226], [227, 228, 229, 230, 231, 232, 233], [234, 235, 236, 238, 239, 240, 241], [57], [237]].any (fun g => g.contains k)) = true := by decide +kernel
  have h := List.all_eq_true.mp hl k hk
  simp only [List.any_cons, List.any_nil, Bool.or_false, Bool.or_eq_true, List.contains_iff_mem] at h
  rcases h with h | h | h | h | h | h | h | h | h | h | h | h | h | h | h | h | h | h | h | h | h | h | h | h | h | h | h | h | h | h | h | h | h | h | h | h | h | h | h | h | h | h
  · exact List.all_eq_true.mp mok_g0 k h
  · exact List.all_eq_true.mp mok_g1 k h
  · exact List.all_eq_true.mp mok_g2 k h
  · exact List.all_eq_true.mp mok_g3 k h
  · exact List.all_eq_true.mp mok_g4 k h
  · exact List.all_eq_true.mp mok_g5 k h
  · exact List.all_eq_true.mp mok_g6 k h
  · exact List.all_eq_true.mp mok_g7 k h
  · exact List.all_eq_true.mp mok_g8 k h
  · exact List.all_eq_true.mp mok_g9 k h
  · exact List.all_eq_true.mp mok_g10 k h
  · exact List.all_eq_true.mp mok_g11 k h
  · exact List.all_eq_true.mp mok_g12 k h
  · exact List.all_eq_true.mp mok_g13 k h
  · exact List.all_eq_true.mp mok_g14 k h
  · exact List.all_eq_true.mp mok_g15 k h
  · exact List.all_eq_true.mp mok_g16 k h
  · exact List.all_eq_true.mp mok_g17 k h
  · exact List.all_eq_true.mp mok_g18 k h
  · exact List.all_eq_true.mp mok_g19 k h
  · exact List.all_eq_true.mp mok_g20 k h
  · exact List.all_eq_true.mp mok_g21 k h
  · exact List.all_eq_true.mp mok_g22 k h
  · exact List.all_eq_true.mp mok_g23 k h
  · exact List.all_eq_true.mp mok_g24 k h
  · exact List.all_eq_true.mp mok_g25 k h
  · exact List.all_eq_true.mp mok_g26 k h
  · exact List.all_eq_true.mp mok_g27 k h
  · exact List.all_eq_true.mp mok_g28 k h
  · exact List.all_eq_true.mp mok_g29 k h
  · exact List.all_eq_true.mp mok_g30 k h
  · exact List.all_eq_true.mp mok_g31 k h
  · exact List.all_eq_true.mp mok_g32 k h
  · exact List.all_eq_true.mp mok_g33 k h
  · exact List.all_eq_true.mp mok_g34 k h
  · exact List.all_eq_true.mp mok_g35 k h
  · exact List.all_eq_true.mp mok_g36 k h
  · exact List.all_eq_true.mp mok_g37 k h
  · exact List.all_eq_true.mp mok_g38 k h
  · exact List.all_eq_true.mp mok_g39 k h
  · exact List.all_eq_true.mp mok_g_57 k h
  · exact List.all_eq_true.mp mok_g_237 k h
