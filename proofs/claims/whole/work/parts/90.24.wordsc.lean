/-! the words, further still: written by gen/checks.py -/
/-- all that mfn asks, but the bytes of the word of its code: those are held against each other by rfl -/
def mfn1 (k : Nat) : Bool := plainName (mYn k).cls && decide ((mYn k).cls ≠ "java/lang/invoke/MethodHandle") && decide ((mYn k).cls ≠ "java/lang/invoke/VarHandle") && goodWord (.code (mYn k) (mBy k) (mMx k) (mRt k)) && mw (mW0 k).2.1 (.initialized (mYn k).cls) && decide (mO (mI0 k).1 = (mYn k).cls) && (mMx k).ble 40 && decide ((parseMethodDescriptor (mYn k).desc).map (fun d => d.parameters.length) = some (mparN k)) && decide ((mProg k).2 = mMx k)
theorem mfn_of {k : Nat} (h1 : mfn1 k = true) (h2 : lw_tbl[(mW0 k).1]? = some (.code (mYn k) (mBy k) (mMx k) (mRt k))) : mfn k = true := by
  unfold mfn1 at h1
  unfold mfn
  simp only [Bool.and_eq_true] at h1 ⊢
  obtain ⟨⟨⟨⟨⟨⟨⟨⟨a1, a2⟩, a3⟩, a4⟩, a5⟩, a6⟩, a7⟩, a8⟩, a9⟩ := h1
  refine ⟨⟨⟨⟨⟨⟨⟨⟨a1, a2⟩, a3⟩, ?_⟩, a5⟩, a6⟩, a7⟩, a8⟩, a9⟩
  unfold mw
  rw [a4, decide_eq_true h2]
  rfl
set_option maxRecDepth 100000 in
theorem mfn1_0 : [0, 1, 2, 3, 4, 5, 6, 7, 8, 9, 10, 11].all mfn1 = true := by decide +kernel
set_option maxRecDepth 100000 in
theorem mfnw_0 : ([0, 1, 2, 3, 4, 5, 6, 7, 8, 9, 10, 11] : List Nat).map (fun k => lw_tbl[(mW0 k).1]?) = ([0, 1, 2, 3, 4, 5, 6, 7, 8, 9, 10, 11] : List Nat).map (fun k => some (.code (mYn k) (mBy k) (mMx k) (mRt k))) := rfl
set_option maxRecDepth 100000 in
theorem mfn1_1 : [12, 13, 14, 15, 16, 17, 18, 19, 20, 21, 22, 23].all mfn1 = true := by decide +kernel
set_option maxRecDepth 100000 in
theorem mfnw_1 : ([12, 13, 14, 15, 16, 17, 18, 19, 20, 21, 22, 23] : List Nat).map (fun k => lw_tbl[(mW0 k).1]?) = ([12, 13, 14, 15, 16, 17, 18, 19, 20, 21, 22, 23] : List Nat).map (fun k => some (.code (mYn k) (mBy k) (mMx k) (mRt k))) := rfl
set_option maxRecDepth 100000 in
theorem mfn1_2 : [24, 25, 26, 27, 28, 29, 30, 31, 32, 33, 34, 35].all mfn1 = true := by decide +kernel
set_option maxRecDepth 100000 in
theorem mfnw_2 : ([24, 25, 26, 27, 28, 29, 30, 31, 32, 33, 34, 35] : List Nat).map (fun k => lw_tbl[(mW0 k).1]?) = ([24, 25, 26, 27, 28, 29, 30, 31, 32, 33, 34, 35] : List Nat).map (fun k => some (.code (mYn k) (mBy k) (mMx k) (mRt k))) := rfl
set_option maxRecDepth 100000 in
theorem mfn1_3 : [36, 37, 38, 39, 40, 41, 42, 43, 44, 45, 46, 47].all mfn1 = true := by decide +kernel
set_option maxRecDepth 100000 in
theorem mfnw_3 : ([36, 37, 38, 39, 40, 41, 42, 43, 44, 45, 46, 47] : List Nat).map (fun k => lw_tbl[(mW0 k).1]?) = ([36, 37, 38, 39, 40, 41, 42, 43, 44, 45, 46, 47] : List Nat).map (fun k => some (.code (mYn k) (mBy k) (mMx k) (mRt k))) := rfl
set_option maxRecDepth 100000 in
theorem mfn1_4 : [48, 49, 50, 51, 52, 53, 54, 55, 56, 57, 58, 59].all mfn1 = true := by decide +kernel
set_option maxRecDepth 100000 in
theorem mfnw_4 : ([48, 49, 50, 51, 52, 53, 54, 55, 56, 57, 58, 59] : List Nat).map (fun k => lw_tbl[(mW0 k).1]?) = ([48, 49, 50, 51, 52, 53, 54, 55, 56, 57, 58, 59] : List Nat).map (fun k => some (.code (mYn k) (mBy k) (mMx k) (mRt k))) := rfl
set_option maxRecDepth 100000 in
theorem mfn1_5 : [60, 61, 62, 63, 64, 65, 66, 67, 68, 69, 70, 71].all mfn1 = true := by decide +kernel
set_option maxRecDepth 100000 in
theorem mfnw_5 : ([60, 61, 62, 63, 64, 65, 66, 67, 68, 69, 70, 71] : List Nat).map (fun k => lw_tbl[(mW0 k).1]?) = ([60, 61, 62, 63, 64, 65, 66, 67, 68, 69, 70, 71] : List Nat).map (fun k => some (.code (mYn k) (mBy k) (mMx k) (mRt k))) := rfl
set_option maxRecDepth 100000 in
theorem mfn1_6 : [72, 73, 74, 75, 76, 77, 78, 79, 80, 81, 82, 83].all mfn1 = true := by decide +kernel
set_option maxRecDepth 100000 in
theorem mfnw_6 : ([72, 73, 74, 75, 76, 77, 78, 79, 80, 81, 82, 83] : List Nat).map (fun k => lw_tbl[(mW0 k).1]?) = ([72, 73, 74, 75, 76, 77, 78, 79, 80, 81, 82, 83] : List Nat).map (fun k => some (.code (mYn k) (mBy k) (mMx k) (mRt k))) := rfl
set_option maxRecDepth 100000 in
theorem mfn1_7 : [84, 85, 86, 87, 88, 89, 90, 91, 92, 93, 94, 95].all mfn1 = true := by decide +kernel
set_option maxRecDepth 100000 in
theorem mfnw_7 : ([84, 85, 86, 87, 88, 89, 90, 91, 92, 93, 94, 95] : List Nat).map (fun k => lw_tbl[(mW0 k).1]?) = ([84, 85, 86, 87, 88, 89, 90, 91, 92, 93, 94, 95] : List Nat).map (fun k => some (.code (mYn k) (mBy k) (mMx k) (mRt k))) := rfl
set_option maxRecDepth 100000 in
theorem mfn1_8 : [96, 97, 98, 99, 100, 101, 102, 103, 104, 105, 106, 107].all mfn1 = true := by decide +kernel
set_option maxRecDepth 100000 in
theorem mfnw_8 : ([96, 97, 98, 99, 100, 101, 102, 103, 104, 105, 106, 107] : List Nat).map (fun k => lw_tbl[(mW0 k).1]?) = ([96, 97, 98, 99, 100, 101, 102, 103, 104, 105, 106, 107] : List Nat).map (fun k => some (.code (mYn k) (mBy k) (mMx k) (mRt k))) := rfl
set_option maxRecDepth 100000 in
theorem mfn1_9 : [108, 109, 110, 111, 112, 113, 114, 115, 116, 117, 118, 119].all mfn1 = true := by decide +kernel
set_option maxRecDepth 100000 in
theorem mfnw_9 : ([108, 109, 110, 111, 112, 113, 114, 115, 116, 117, 118, 119] : List Nat).map (fun k => lw_tbl[(mW0 k).1]?) = ([108, 109, 110, 111, 112, 113, 114, 115, 116, 117, 118, 119] : List Nat).map (fun k => some (.code (mYn k) (mBy k) (mMx k) (mRt k))) := rfl
set_option maxRecDepth 100000 in
theorem mfn1_10 : [120, 121, 122, 123, 124, 125, 126, 127, 128, 129, 130, 131].all mfn1 = true := by decide +kernel
set_option maxRecDepth 100000 in
theorem mfnw_10 : ([120, 121, 122, 123, 124, 125, 126, 127, 128, 129, 130, 131] : List Nat).map (fun k => lw_tbl[(mW0 k).1]?) = ([120, 121, 122, 123, 124, 125, 126, 127, 128, 129, 130, 131] : List Nat).map (fun k => some (.code (mYn k) (mBy k) (mMx k) (mRt k))) := rfl
set_option maxRecDepth 100000 in
theorem mfn1_11 : [132, 133, 134, 135, 136, 137, 138, 139, 140, 141, 142, 143].all mfn1 = true := by decide +kernel
set_option maxRecDepth 100000 in
theorem mfnw_11 : ([132, 133, 134, 135, 136, 137, 138, 139, 140, 141, 142, 143] : List Nat).map (fun k => lw_tbl[(mW0 k).1]?) = ([132, 133, 134, 135, 136, 137, 138, 139, 140, 141, 142, 143] : List Nat).map (fun k => some (.code (mYn k) (mBy k) (mMx k) (mRt k))) := rfl
set_option maxRecDepth 100000 in
theorem mfn1_12 : [144, 145, 146, 147, 148, 149, 150, 151, 152, 153, 154, 155].all mfn1 = true := by decide +kernel
set_option maxRecDepth 100000 in
theorem mfnw_12 : ([144, 145, 146, 147, 148, 149, 150, 151, 152, 153, 154, 155] : List Nat).map (fun k => lw_tbl[(mW0 k).1]?) = ([144, 145, 146, 147, 148, 149, 150, 151, 152, 153, 154, 155] : List Nat).map (fun k => some (.code (mYn k) (mBy k) (mMx k) (mRt k))) := rfl
set_option maxRecDepth 100000 in
theorem mfn1_13 : [156, 157, 158, 159, 160, 161, 162, 163, 164, 165, 166, 167].all mfn1 = true := by decide +kernel
set_option maxRecDepth 100000 in
theorem mfnw_13 : ([156, 157, 158, 159, 160, 161, 162, 163, 164, 165, 166, 167] : List Nat).map (fun k => lw_tbl[(mW0 k).1]?) = ([156, 157, 158, 159, 160, 161, 162, 163, 164, 165, 166, 167] : List Nat).map (fun k => some (.code (mYn k) (mBy k) (mMx k) (mRt k))) := rfl
set_option maxRecDepth 100000 in
theorem mfn1_14 : [168, 169, 170, 171, 172, 173, 174, 175, 176, 177, 178, 179].all mfn1 = true := by decide +kernel
set_option maxRecDepth 100000 in
theorem mfnw_14 : ([168, 169, 170, 171, 172, 173, 174, 175, 176, 177, 178, 179] : List Nat).map (fun k => lw_tbl[(mW0 k).1]?) = ([168, 169, 170, 171, 172, 173, 174, 175, 176, 177, 178, 179] : List Nat).map (fun k => some (.code (mYn k) (mBy k) (mMx k) (mRt k))) := rfl
set_option maxRecDepth 100000 in
theorem mfn1_15 : [180, 181, 182, 183, 184, 185, 186, 187, 188, 189, 190, 191].all mfn1 = true := by decide +kernel
set_option maxRecDepth 100000 in
theorem mfnw_15 : ([180, 181, 182, 183, 184, 185, 186, 187, 188, 189, 190, 191] : List Nat).map (fun k => lw_tbl[(mW0 k).1]?) = ([180, 181, 182, 183, 184, 185, 186, 187, 188, 189, 190, 191] : List Nat).map (fun k => some (.code (mYn k) (mBy k) (mMx k) (mRt k))) := rfl
set_option maxRecDepth 100000 in
theorem mfn1_16 : [192, 193, 194, 195, 196, 197, 198, 199, 200, 201, 202, 203].all mfn1 = true := by decide +kernel
set_option maxRecDepth 100000 in
theorem mfnw_16 : ([192, 193, 194, 195, 196, 197, 198, 199, 200, 201, 202, 203] : List Nat).map (fun k => lw_tbl[(mW0 k).1]?) = ([192, 193, 194, 195, 196, 197, 198, 199, 200, 201, 202, 203] : List Nat).map (fun k => some (.code (mYn k) (mBy k) (mMx k) (mRt k))) := rfl
set_option maxRecDepth 100000 in
theorem mfn1_17 : [204, 205, 206, 207, 208, 209, 210, 211, 212, 213, 214, 215].all mfn1 = true := by decide +kernel
set_option maxRecDepth 100000 in
theorem mfnw_17 : ([204, 205, 206, 207, 208, 209, 210, 211, 212, 213, 214, 215] : List Nat).map (fun k => lw_tbl[(mW0 k).1]?) = ([204, 205, 206, 207, 208, 209, 210, 211, 212, 213, 214, 215] : List Nat).map (fun k => some (.code (mYn k) (mBy k) (mMx k) (mRt k))) := rfl
set_option maxRecDepth 100000 in
theorem mfn1_18 : [216, 217, 218, 219, 220, 221, 222, 223, 224, 225, 226, 227].all mfn1 = true := by decide +kernel
set_option maxRecDepth 100000 in
theorem mfnw_18 : ([216, 217, 218, 219, 220, 221, 222, 223, 224, 225, 226, 227] : List Nat).map (fun k => lw_tbl[(mW0 k).1]?) = ([216, 217, 218, 219, 220, 221, 222, 223, 224, 225, 226, 227] : List Nat).map (fun k => some (.code (mYn k) (mBy k) (mMx k) (mRt k))) := rfl
set_option maxRecDepth 100000 in
theorem mfn1_19 : [228, 229, 230, 231, 232, 233, 234, 235, 236, 238, 239, 240].all mfn1 = true := by decide +kernel
set_option maxRecDepth 100000 in
theorem mfnw_19 : ([228, 229, 230, 231, 232, 233, 234, 235, 236, 238, 239, 240] : List Nat).map (fun k => lw_tbl[(mW0 k).1]?) = ([228, 229, 230, 231, 232, 233, 234, 235, 236, 238, 239, 240] : List Nat).map (fun k => some (.code (mYn k) (mBy k) (mMx k) (mRt k))) := rfl
set_option maxRecDepth 100000 in
theorem mfn1_20 : [241].all mfn1 = true := by decide +kernel
set_option maxRecDepth 100000 in
theorem mfnw_20 : ([241] : List Nat).map (fun k => lw_tbl[(mW0 k).1]?) = ([241] : List Nat).map (fun k => some (.code (mYn k) (mBy k) (mMx k) (mRt k))) := rfl
theorem mfn_ok_0 : [0, 1, 2, 3, 4, 5, 6, 7, 8, 9, 10, 11].all mfn = true := List.all_eq_true.mpr (fun k hk => mfn_of (List.all_eq_true.mp mfn1_0 k hk) (List.map_inj_left.mp mfnw_0 k hk))
theorem mfn_ok_1 : [12, 13, 14, 15, 16, 17, 18, 19, 20, 21, 22, 23].all mfn = true := List.all_eq_true.mpr (fun k hk => mfn_of (List.all_eq_true.mp mfn1_1 k hk) (List.map_inj_left.mp mfnw_1 k hk))
theorem mfn_ok_2 : [24, 25, 26, 27, 28, 29, 30, 31, 32, 33, 34, 35].all mfn = true := List.all_eq_true.mpr (fun k hk => mfn_of (List.all_eq_true.mp mfn1_2 k hk) (List.map_inj_left.mp mfnw_2 k hk))
theorem mfn_ok_3 : [36, 37, 38, 39, 40, 41, 42, 43, 44, 45, 46, 47].all mfn = true := List.all_eq_true.mpr (fun k hk => mfn_of (List.all_eq_true.mp mfn1_3 k hk) (List.map_inj_left.mp mfnw_3 k hk))
theorem mfn_ok_4 : [48, 49, 50, 51, 52, 53, 54, 55, 56, 57, 58, 59].all mfn = true := List.all_eq_true.mpr (fun k hk => mfn_of (List.all_eq_true.mp mfn1_4 k hk) (List.map_inj_left.mp mfnw_4 k hk))
theorem mfn_ok_5 : [60, 61, 62, 63, 64, 65, 66, 67, 68, 69, 70, 71].all mfn = true := List.all_eq_true.mpr (fun k hk => mfn_of (List.all_eq_true.mp mfn1_5 k hk) (List.map_inj_left.mp mfnw_5 k hk))
theorem mfn_ok_6 : [72, 73, 74, 75, 76, 77, 78, 79, 80, 81, 82, 83].all mfn = true := List.all_eq_true.mpr (fun k hk => mfn_of (List.all_eq_true.mp mfn1_6 k hk) (List.map_inj_left.mp mfnw_6 k hk))
theorem mfn_ok_7 : [84, 85, 86, 87, 88, 89, 90, 91, 92, 93, 94, 95].all mfn = true := List.all_eq_true.mpr (fun k hk => mfn_of (List.all_eq_true.mp mfn1_7 k hk) (List.map_inj_left.mp mfnw_7 k hk))
theorem mfn_ok_8 : [96, 97, 98, 99, 100, 101, 102, 103, 104, 105, 106, 107].all mfn = true := List.all_eq_true.mpr (fun k hk => mfn_of (List.all_eq_true.mp mfn1_8 k hk) (List.map_inj_left.mp mfnw_8 k hk))
theorem mfn_ok_9 : [108, 109, 110, 111, 112, 113, 114, 115, 116, 117, 118, 119].all mfn = true := List.all_eq_true.mpr (fun k hk => mfn_of (List.all_eq_true.mp mfn1_9 k hk) (List.map_inj_left.mp mfnw_9 k hk))
theorem mfn_ok_10 : [120, 121, 122, 123, 124, 125, 126, 127, 128, 129, 130, 131].all mfn = true := List.all_eq_true.mpr (fun k hk => mfn_of (List.all_eq_true.mp mfn1_10 k hk) (List.map_inj_left.mp mfnw_10 k hk))
theorem mfn_ok_11 : [132, 133, 134, 135, 136, 137, 138, 139, 140, 141, 142, 143].all mfn = true := List.all_eq_true.mpr (fun k hk => mfn_of (List.all_eq_true.mp mfn1_11 k hk) (List.map_inj_left.mp mfnw_11 k hk))
theorem mfn_ok_12 : [144, 145, 146, 147, 148, 149, 150, 151, 152, 153, 154, 155].all mfn = true := List.all_eq_true.mpr (fun k hk => mfn_of (List.all_eq_true.mp mfn1_12 k hk) (List.map_inj_left.mp mfnw_12 k hk))
theorem mfn_ok_13 : [156, 157, 158, 159, 160, 161, 162, 163, 164, 165, 166, 167].all mfn = true := List.all_eq_true.mpr (fun k hk => mfn_of (List.all_eq_true.mp mfn1_13 k hk) (List.map_inj_left.mp mfnw_13 k hk))
theorem mfn_ok_14 : [168, 169, 170, 171, 172, 173, 174, 175, 176, 177, 178, 179].all mfn = true := List.all_eq_true.mpr (fun k hk => mfn_of (List.all_eq_true.mp mfn1_14 k hk) (List.map_inj_left.mp mfnw_14 k hk))
theorem mfn_ok_15 : [180, 181, 182, 183, 184, 185, 186, 187, 188, 189, 190, 191].all mfn = true := List.all_eq_true.mpr (fun k hk => mfn_of (List.all_eq_true.mp mfn1_15 k hk) (List.map_inj_left.mp mfnw_15 k hk))
theorem mfn_ok_16 : [192, 193, 194, 195, 196, 197, 198, 199, 200, 201, 202, 203].all mfn = true := List.all_eq_true.mpr (fun k hk => mfn_of (List.all_eq_true.mp mfn1_16 k hk) (List.map_inj_left.mp mfnw_16 k hk))
theorem mfn_ok_17 : [204, 205, 206, 207, 208, 209, 210, 211, 212, 213, 214, 215].all mfn = true := List.all_eq_true.mpr (fun k hk => mfn_of (List.all_eq_true.mp mfn1_17 k hk) (List.map_inj_left.mp mfnw_17 k hk))
theorem mfn_ok_18 : [216, 217, 218, 219, 220, 221, 222, 223, 224, 225, 226, 227].all mfn = true := List.all_eq_true.mpr (fun k hk => mfn_of (List.all_eq_true.mp mfn1_18 k hk) (List.map_inj_left.mp mfnw_18 k hk))
theorem mfn_ok_19 : [228, 229, 230, 231, 232, 233, 234, 235, 236, 238, 239, 240].all mfn = true := List.all_eq_true.mpr (fun k hk => mfn_of (List.all_eq_true.mp mfn1_19 k hk) (List.map_inj_left.mp mfnw_19 k hk))
theorem mfn_ok_20 : [241].all mfn = true := List.all_eq_true.mpr (fun k hk => mfn_of (List.all_eq_true.mp mfn1_20 k hk) (List.map_inj_left.mp mfnw_20 k hk))
set_option maxRecDepth 100000 in
theorem mfn_ok : ∀ k ∈ [0, 1, 2, 3, 4, 5, 6, 7, 8, 9, 10, 11, 12, 13, 14, 15, 16, 17, 18, 19, 20, 21, 22, 23, 24, 25, 26, 27, 28, 29, 30, 31, 32, 33, 34, 35, 36, 37, 38, 39, 40, 41, 42, 43, 44, 45, 46, 47, 48, 49, 50, 51, 52, 53, 54, 55, 56, 57, 58, 59, 60, 61, 62, 63, 64, 65, 66, 67, 68, 69, 70, 71, 72, 73, 74, 75, 76, 77, 78, 79, 80, 81, 82, 83, 84, 85, 86, 87, 88, 89, 90, 91, 92, 93, 94, 95, 96, 97, 98, 99, 100, 101, 102, 103, 104, 105, 106, 107, 108, 109, 110, 111, 112, 113, 114, 115, 116, 117, 118, 119, 120, 121, 122, 123, 124, 125, 126, 127, 128, 129, 130, 131, 132, 133, 134, 135, 136, 137, 138, 139, 140, 141, 142, 143, 144, 145, 146, 147, 148, 149, 150, 151, 152, 153, 154, 155, 156, 157, 158, 159, 160, 161, 162, 163, 164, 165, 166, 167, 168, 169, 170, 171, 172, 173, 174, 175, 176, 177, 178, 179, 180, 181, 182, 183, 184, 185, 186, 187, 188, 189, 190, 191, 192, 193, 194, 195, 196, 197, 198, 199, 200, 201, 202, 203, 204, 205, 206, 207, 208, 209, 210, 211, 212, 213, 214, 215, 216, 217, 218, 219, 220, 221, 222, 223, 224, 225, 226, 227, 228, 229, 230, 231, 232, 233, 234, 235, 236, 238, 239, 240, 241], mfn k = true := by
  intro k hk
  have h : k ∈ ([0, 1, 2, 3, 4, 5, 6, 7, 8, 9, 10, 11] : List Nat) ++ (([12, 13, 14, 15, 16, 17, 18, 19, 20, 21, 22, 23] : List Nat) ++ (([24, 25, 26, 27, 28, 29, 30, 31, 32, 33, 34, 35] : List Nat) ++ (([36, 37, 38, 39, 40, 41, 42, 43, 44, 45, 46, 47] : List Nat) ++ (([48, 49, 50, 51, 52, 53, 54, 55, 56, 57, 58, 59] : List Nat) ++ (([60, 61, 62, 63, 64, 65, 66, 67, 68, 69, 70, 71] : List Nat) ++ (([72, 73, 74, 75, 76, 77, 78, 79, 80, 81, 82, 83] : List Nat) ++ (([84, 85, 86, 87, 88, 89, 90, 91, 92, 93, 94, 95] : List Nat) ++ (([96, 97, 98, 99, 100, 101, 102, 103, 104, 105, 106, 107] : List Nat) ++ (([108, 109, 110, 111, 112, 113, 114, 115, 116, 117, 118, 119] : List Nat) ++ (([120, 121, 122, 123, 124, 125, 126, 127, 128, 129, 130, 131] : List Nat) ++ (([132, 133, 134, 135, 136, 137, 138, 139, 140, 141, 142, 143] : List Nat) ++ (([144, 145, 146, 147, 148, 149, 150, 151, 152, 153, 154, 155] : List Nat) ++ (([156, 157, 158, 159, 160, 161, 162, 163, 164, 165, 166, 167] : List Nat) ++ (([168, 169, 170, 171, 172, 173, 174, 175, 176, 177, 178, 179] : List Nat) ++ (([180, 181, 182, 183, 184, 185, 186, 187, 188, 189, 190, 191] : List Nat) ++ (([192, 193, 194, 195, 196, 197, 198, 199, 200, 201, 202, 203] : List Nat) ++ (([204, 205, 206, 207, 208, 209, 210, 211, 212, 213, 214, 215] : List Nat) ++ (([216, 217, 218, 219, 220, 221, 222, 223, 224, 225, 226, 227] : List Nat) ++ (([228, 229, 230, 231, 232, 233, 234, 235, 236, 238, 239, 240] : List Nat) ++ (([241] : List Nat))))))))))))))))))))) := hk
  rcases List.mem_append.mp h with h | h
  · exact List.all_eq_true.mp mfn_ok_0 k h
  rcases List.mem_append.mp h with h | h
  · exact List.all_eq_true.mp mfn_ok_1 k h
  rcases List.mem_append.mp h with h | h
  · exact List.all_eq_true.mp mfn_ok_2 k h
  rcases List.mem_append.mp h with h | h
  · exact List.all_eq_true.mp mfn_ok_3 k h
  rcases List.mem_append.mp h with h | h
  · exact List.all_eq_true.mp mfn_ok_4 k h
  rcases List.mem_append.mp h with h | h
  · exact List.all_eq_true.mp mfn_ok_5 k h
  rcases List.mem_append.mp h with h | h
  · exact List.all_eq_true.mp mfn_ok_6 k h
  rcases List.mem_append.mp h with h | h
  · exact List.all_eq_true.mp mfn_ok_7 k h
  rcases List.mem_append.mp h with h | h
  · exact List.all_eq_true.mp mfn_ok_8 k h
  rcases List.mem_append.mp h with h | h
  · exact List.all_eq_true.mp mfn_ok_9 k h
  rcases List.mem_append.mp h with h | h
  · exact List.all_eq_true.mp mfn_ok_10 k h
  rcases List.mem_append.mp h with h | h
  · exact List.all_eq_true.mp mfn_ok_11 k h
  rcases List.mem_append.mp h with h | h
  · exact List.all_eq_true.mp mfn_ok_12 k h
  rcases List.mem_append.mp h with h | h
  · exact List.all_eq_true.mp mfn_ok_13 k h
  rcases List.mem_append.mp h with h | h
  · exact List.all_eq_true.mp mfn_ok_14 k h
  rcases List.mem_append.mp h with h | h
  · exact List.all_eq_true.mp mfn_ok_15 k h
  rcases List.mem_append.mp h with h | h
  · exact List.all_eq_true.mp mfn_ok_16 k h
  rcases List.mem_append.mp h with h | h
  · exact List.all_eq_true.mp mfn_ok_17 k h
  rcases List.mem_append.mp h with h | h
  · exact List.all_eq_true.mp mfn_ok_18 k h
  rcases List.mem_append.mp h with h | h
  · exact List.all_eq_true.mp mfn_ok_19 k h
  exact List.all_eq_true.mp mfn_ok_20 k h
