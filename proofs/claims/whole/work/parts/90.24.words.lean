/-! the words, by the kernel: written by gen/checks.py -/
set_option maxRecDepth 100000 in
theorem mFl_ok0 : (mFl 0).all (mFlb 0) = true := by decide +kernel
set_option maxRecDepth 100000 in
theorem mFl_ok1 : (mFl 1).all (mFlb 1) = true := by decide +kernel
set_option maxRecDepth 100000 in
theorem mFl_ok2 : (mFl 2).all (mFlb 2) = true := by decide +kernel
set_option maxRecDepth 100000 in
theorem mFl_ok3 : (mFl 3).all (mFlb 3) = true := by decide +kernel
set_option maxRecDepth 100000 in
theorem mFl_ok4 : (mFl 4).all (mFlb 4) = true := by decide +kernel
set_option maxRecDepth 100000 in
theorem mFl_ok5 : (mFl 5).all (mFlb 5) = true := by decide +kernel
set_option maxRecDepth 100000 in
theorem mFl_ok6 : (mFl 6).all (mFlb 6) = true := by decide +kernel
set_option maxRecDepth 100000 in
theorem mFl_ok7 : (mFl 7).all (mFlb 7) = true := by decide +kernel
set_option maxRecDepth 100000 in
theorem mFl_ok8 : (mFl 8).all (mFlb 8) = true := by decide +kernel
set_option maxRecDepth 100000 in
theorem mFl_ok9 : (mFl 9).all (mFlb 9) = true := by decide +kernel
set_option maxRecDepth 100000 in
theorem mFl_ok10 : (mFl 10).all (mFlb 10) = true := by decide +kernel
set_option maxRecDepth 100000 in
theorem mFl_ok11 : (mFl 11).all (mFlb 11) = true := by decide +kernel
set_option maxRecDepth 100000 in
theorem mFl_ok12 : (mFl 12).all (mFlb 12) = true := by decide +kernel
set_option maxRecDepth 100000 in
theorem mFl_ok13 : (mFl 13).all (mFlb 13) = true := by decide +kernel
theorem mFl_ok : ∀ o, ∀ q ∈ mFl o, mFlb o q = true := by
  intro o q hq
  match o, hq with
  | 0, hq => exact List.all_eq_true.mp mFl_ok0 q hq
  | 1, hq => exact List.all_eq_true.mp mFl_ok1 q hq
  | 2, hq => exact List.all_eq_true.mp mFl_ok2 q hq
  | 3, hq => exact List.all_eq_true.mp mFl_ok3 q hq
  | 4, hq => exact List.all_eq_true.mp mFl_ok4 q hq
  | 5, hq => exact List.all_eq_true.mp mFl_ok5 q hq
  | 6, hq => exact List.all_eq_true.mp mFl_ok6 q hq
  | 7, hq => exact List.all_eq_true.mp mFl_ok7 q hq
  | 8, hq => exact List.all_eq_true.mp mFl_ok8 q hq
  | 9, hq => exact List.all_eq_true.mp mFl_ok9 q hq
  | 10, hq => exact List.all_eq_true.mp mFl_ok10 q hq
  | 11, hq => exact List.all_eq_true.mp mFl_ok11 q hq
  | 12, hq => exact List.all_eq_true.mp mFl_ok12 q hq
  | 13, hq => exact List.all_eq_true.mp mFl_ok13 q hq
  | o + 14, hq => simp [mFl] at hq
set_option maxRecDepth 100000 in
theorem mMl_ok0 : (mMl 0).all (mMlb 0) = true := by decide +kernel
set_option maxRecDepth 100000 in
theorem mMl_ok1 : (mMl 1).all (mMlb 1) = true := by decide +kernel
set_option maxRecDepth 100000 in
theorem mMl_ok2 : (mMl 2).all (mMlb 2) = true := by decide +kernel
set_option maxRecDepth 100000 in
theorem mMl_ok3 : (mMl 3).all (mMlb 3) = true := by decide +kernel
set_option maxRecDepth 100000 in
theorem mMl_ok4 : (mMl 4).all (mMlb 4) = true := by decide +kernel
set_option maxRecDepth 100000 in
theorem mMl_ok5 : (mMl 5).all (mMlb 5) = true := by decide +kernel
set_option maxRecDepth 100000 in
theorem mMl_ok6 : (mMl 6).all (mMlb 6) = true := by decide +kernel
set_option maxRecDepth 100000 in
theorem mMl_ok7 : (mMl 7).all (mMlb 7) = true := by decide +kernel
set_option maxRecDepth 100000 in
theorem mMl_ok8 : (mMl 8).all (mMlb 8) = true := by decide +kernel
set_option maxRecDepth 100000 in
theorem mMl_ok9 : (mMl 9).all (mMlb 9) = true := by decide +kernel
set_option maxRecDepth 100000 in
theorem mMl_ok10 : (mMl 10).all (mMlb 10) = true := by decide +kernel
set_option maxRecDepth 100000 in
theorem mMl_ok11 : (mMl 11).all (mMlb 11) = true := by decide +kernel
set_option maxRecDepth 100000 in
theorem mMl_ok12 : (mMl 12).all (mMlb 12) = true := by decide +kernel
set_option maxRecDepth 100000 in
theorem mMl_ok13 : (mMl 13).all (mMlb 13) = true := by decide +kernel
theorem mMl_ok : ∀ o, ∀ q ∈ mMl o, mMlb o q = true := by
  intro o q hq
  match o, hq with
  | 0, hq => exact List.all_eq_true.mp mMl_ok0 q hq
  | 1, hq => exact List.all_eq_true.mp mMl_ok1 q hq
  | 2, hq => exact List.all_eq_true.mp mMl_ok2 q hq
  | 3, hq => exact List.all_eq_true.mp mMl_ok3 q hq
  | 4, hq => exact List.all_eq_true.mp mMl_ok4 q hq
  | 5, hq => exact List.all_eq_true.mp mMl_ok5 q hq
  | 6, hq => exact List.all_eq_true.mp mMl_ok6 q hq
  | 7, hq => exact List.all_eq_true.mp mMl_ok7 q hq
  | 8, hq => exact List.all_eq_true.mp mMl_ok8 q hq
  | 9, hq => exact List.all_eq_true.mp mMl_ok9 q hq
  | 10, hq => exact List.all_eq_true.mp mMl_ok10 q hq
  | 11, hq => exact List.all_eq_true.mp mMl_ok11 q hq
  | 12, hq => exact List.all_eq_true.mp mMl_ok12 q hq
  | 13, hq => exact List.all_eq_true.mp mMl_ok13 q hq
  | o + 14, hq => simp [mMl] at hq
set_option maxRecDepth 100000 in
theorem mKl_ok0 : (mKl 0).all (mKlb 0) = true := by decide +kernel
set_option maxRecDepth 100000 in
theorem mKl_ok1 : (mKl 1).all (mKlb 1) = true := by decide +kernel
set_option maxRecDepth 100000 in
theorem mKl_ok2 : (mKl 2).all (mKlb 2) = true := by decide +kernel
set_option maxRecDepth 100000 in
theorem mKl_ok3 : (mKl 3).all (mKlb 3) = true := by decide +kernel
set_option maxRecDepth 100000 in
theorem mKl_ok4 : (mKl 4).all (mKlb 4) = true := by decide +kernel
set_option maxRecDepth 100000 in
theorem mKl_ok5 : (mKl 5).all (mKlb 5) = true := by decide +kernel
set_option maxRecDepth 100000 in
theorem mKl_ok6 : (mKl 6).all (mKlb 6) = true := by decide +kernel
set_option maxRecDepth 100000 in
theorem mKl_ok7 : (mKl 7).all (mKlb 7) = true := by decide +kernel
set_option maxRecDepth 100000 in
theorem mKl_ok8 : (mKl 8).all (mKlb 8) = true := by decide +kernel
set_option maxRecDepth 100000 in
theorem mKl_ok9 : (mKl 9).all (mKlb 9) = true := by decide +kernel
set_option maxRecDepth 100000 in
theorem mKl_ok10 : (mKl 10).all (mKlb 10) = true := by decide +kernel
set_option maxRecDepth 100000 in
theorem mKl_ok11 : (mKl 11).all (mKlb 11) = true := by decide +kernel
set_option maxRecDepth 100000 in
theorem mKl_ok12 : (mKl 12).all (mKlb 12) = true := by decide +kernel
set_option maxRecDepth 100000 in
theorem mKl_ok13 : (mKl 13).all (mKlb 13) = true := by decide +kernel
theorem mKl_ok : ∀ o, ∀ q ∈ mKl o, mKlb o q = true := by
  intro o q hq
  match o, hq with
  | 0, hq => exact List.all_eq_true.mp mKl_ok0 q hq
  | 1, hq => exact List.all_eq_true.mp mKl_ok1 q hq
  | 2, hq => exact List.all_eq_true.mp mKl_ok2 q hq
  | 3, hq => exact List.all_eq_true.mp mKl_ok3 q hq
  | 4, hq => exact List.all_eq_true.mp mKl_ok4 q hq
  | 5, hq => exact List.all_eq_true.mp mKl_ok5 q hq
  | 6, hq => exact List.all_eq_true.mp mKl_ok6 q hq
  | 7, hq => exact List.all_eq_true.mp mKl_ok7 q hq
  | 8, hq => exact List.all_eq_true.mp mKl_ok8 q hq
  | 9, hq => exact List.all_eq_true.mp mKl_ok9 q hq
  | 10, hq => exact List.all_eq_true.mp mKl_ok10 q hq
  | 11, hq => exact List.all_eq_true.mp mKl_ok11 q hq
  | 12, hq => exact List.all_eq_true.mp mKl_ok12 q hq
  | 13, hq => exact List.all_eq_true.mp mKl_ok13 q hq
  | o + 14, hq => simp [mKl] at hq
set_option maxRecDepth 100000 in
theorem mLl_ok0 : (mLl 0).all (mLlb 0) = true := by decide +kernel
set_option maxRecDepth 100000 in
theorem mLl_ok1 : (mLl 1).all (mLlb 1) = true := by decide +kernel
set_option maxRecDepth 100000 in
theorem mLl_ok2 : (mLl 2).all (mLlb 2) = true := by decide +kernel
set_option maxRecDepth 100000 in
theorem mLl_ok3 : (mLl 3).all (mLlb 3) = true := by decide +kernel
set_option maxRecDepth 100000 in
theorem mLl_ok4 : (mLl 4).all (mLlb 4) = true := by decide +kernel
set_option maxRecDepth 100000 in
theorem mLl_ok5 : (mLl 5).all (mLlb 5) = true := by decide +kernel
set_option maxRecDepth 100000 in
theorem mLl_ok6 : (mLl 6).all (mLlb 6) = true := by decide +kernel
set_option maxRecDepth 100000 in
theorem mLl_ok7 : (mLl 7).all (mLlb 7) = true := by decide +kernel
set_option maxRecDepth 100000 in
theorem mLl_ok8 : (mLl 8).all (mLlb 8) = true := by decide +kernel
set_option maxRecDepth 100000 in
theorem mLl_ok9 : (mLl 9).all (mLlb 9) = true := by decide +kernel
set_option maxRecDepth 100000 in
theorem mLl_ok10 : (mLl 10).all (mLlb 10) = true := by decide +kernel
set_option maxRecDepth 100000 in
theorem mLl_ok11 : (mLl 11).all (mLlb 11) = true := by decide +kernel
set_option maxRecDepth 100000 in
theorem mLl_ok12 : (mLl 12).all (mLlb 12) = true := by decide +kernel
set_option maxRecDepth 100000 in
theorem mLl_ok13 : (mLl 13).all (mLlb 13) = true := by decide +kernel
theorem mLl_ok : ∀ o, ∀ q ∈ mLl o, mLlb o q = true := by
  intro o q hq
  match o, hq with
  | 0, hq => exact List.all_eq_true.mp mLl_ok0 q hq
  | 1, hq => exact List.all_eq_true.mp mLl_ok1 q hq
  | 2, hq => exact List.all_eq_true.mp mLl_ok2 q hq
  | 3, hq => exact List.all_eq_true.mp mLl_ok3 q hq
  | 4, hq => exact List.all_eq_true.mp mLl_ok4 q hq
  | 5, hq => exact List.all_eq_true.mp mLl_ok5 q hq
  | 6, hq => exact List.all_eq_true.mp mLl_ok6 q hq
  | 7, hq => exact List.all_eq_true.mp mLl_ok7 q hq
  | 8, hq => exact List.all_eq_true.mp mLl_ok8 q hq
  | 9, hq => exact List.all_eq_true.mp mLl_ok9 q hq
  | 10, hq => exact List.all_eq_true.mp mLl_ok10 q hq
  | 11, hq => exact List.all_eq_true.mp mLl_ok11 q hq
  | 12, hq => exact List.all_eq_true.mp mLl_ok12 q hq
  | 13, hq => exact List.all_eq_true.mp mLl_ok13 q hq
  | o + 14, hq => simp [mLl] at hq
set_option maxRecDepth 100000 in
theorem mAl_ok0 : (mAl 0).all (mAlb 0) = true := by decide +kernel
set_option maxRecDepth 100000 in
theorem mAl_ok1 : (mAl 1).all (mAlb 1) = true := by decide +kernel
set_option maxRecDepth 100000 in
theorem mAl_ok2 : (mAl 2).all (mAlb 2) = true := by decide +kernel
set_option maxRecDepth 100000 in
theorem mAl_ok3 : (mAl 3).all (mAlb 3) = true := by decide +kernel
set_option maxRecDepth 100000 in
theorem mAl_ok4 : (mAl 4).all (mAlb 4) = true := by decide +kernel
set_option maxRecDepth 100000 in
theorem mAl_ok5 : (mAl 5).all (mAlb 5) = true := by decide +kernel
set_option maxRecDepth 100000 in
theorem mAl_ok6 : (mAl 6).all (mAlb 6) = true := by decide +kernel
set_option maxRecDepth 100000 in
theorem mAl_ok7 : (mAl 7).all (mAlb 7) = true := by decide +kernel
set_option maxRecDepth 100000 in
theorem mAl_ok8 : (mAl 8).all (mAlb 8) = true := by decide +kernel
set_option maxRecDepth 100000 in
theorem mAl_ok9 : (mAl 9).all (mAlb 9) = true := by decide +kernel
set_option maxRecDepth 100000 in
theorem mAl_ok10 : (mAl 10).all (mAlb 10) = true := by decide +kernel
set_option maxRecDepth 100000 in
theorem mAl_ok11 : (mAl 11).all (mAlb 11) = true := by decide +kernel
set_option maxRecDepth 100000 in
theorem mAl_ok12 : (mAl 12).all (mAlb 12) = true := by decide +kernel
set_option maxRecDepth 100000 in
theorem mAl_ok13 : (mAl 13).all (mAlb 13) = true := by decide +kernel
theorem mAl_ok : ∀ o, ∀ q ∈ mAl o, mAlb o q = true := by
  intro o q hq
  match o, hq with
  | 0, hq => exact List.all_eq_true.mp mAl_ok0 q hq
  | 1, hq => exact List.all_eq_true.mp mAl_ok1 q hq
  | 2, hq => exact List.all_eq_true.mp mAl_ok2 q hq
  | 3, hq => exact List.all_eq_true.mp mAl_ok3 q hq
  | 4, hq => exact List.all_eq_true.mp mAl_ok4 q hq
  | 5, hq => exact List.all_eq_true.mp mAl_ok5 q hq
  | 6, hq => exact List.all_eq_true.mp mAl_ok6 q hq
  | 7, hq => exact List.all_eq_true.mp mAl_ok7 q hq
  | 8, hq => exact List.all_eq_true.mp mAl_ok8 q hq
  | 9, hq => exact List.all_eq_true.mp mAl_ok9 q hq
  | 10, hq => exact List.all_eq_true.mp mAl_ok10 q hq
  | 11, hq => exact List.all_eq_true.mp mAl_ok11 q hq
  | 12, hq => exact List.all_eq_true.mp mAl_ok12 q hq
  | 13, hq => exact List.all_eq_true.mp mAl_ok13 q hq
  | o + 14, hq => simp [mAl] at hq
set_option maxRecDepth 100000 in
theorem mOl_ok0 : (mOl 0).all (mOlb 0) = true := by decide +kernel
set_option maxRecDepth 100000 in
theorem mOl_ok1 : (mOl 1).all (mOlb 1) = true := by decide +kernel
set_option maxRecDepth 100000 in
theorem mOl_ok2 : (mOl 2).all (mOlb 2) = true := by decide +kernel
set_option maxRecDepth 100000 in
theorem mOl_ok3 : (mOl 3).all (mOlb 3) = true := by decide +kernel
set_option maxRecDepth 100000 in
theorem mOl_ok4 : (mOl 4).all (mOlb 4) = true := by decide +kernel
set_option maxRecDepth 100000 in
theorem mOl_ok5 : (mOl 5).all (mOlb 5) = true := by decide +kernel
set_option maxRecDepth 100000 in
theorem mOl_ok6 : (mOl 6).all (mOlb 6) = true := by decide +kernel
set_option maxRecDepth 100000 in
theorem mOl_ok7 : (mOl 7).all (mOlb 7) = true := by decide +kernel
set_option maxRecDepth 100000 in
theorem mOl_ok8 : (mOl 8).all (mOlb 8) = true := by decide +kernel
set_option maxRecDepth 100000 in
theorem mOl_ok9 : (mOl 9).all (mOlb 9) = true := by decide +kernel
set_option maxRecDepth 100000 in
theorem mOl_ok10 : (mOl 10).all (mOlb 10) = true := by decide +kernel
set_option maxRecDepth 100000 in
theorem mOl_ok11 : (mOl 11).all (mOlb 11) = true := by decide +kernel
set_option maxRecDepth 100000 in
theorem mOl_ok12 : (mOl 12).all (mOlb 12) = true := by decide +kernel
set_option maxRecDepth 100000 in
theorem mOl_ok13 : (mOl 13).all (mOlb 13) = true := by decide +kernel
theorem mOl_ok : ∀ o, ∀ q ∈ mOl o, mOlb o q = true := by
  intro o q hq
  match o, hq with
  | 0, hq => exact List.all_eq_true.mp mOl_ok0 q hq
  | 1, hq => exact List.all_eq_true.mp mOl_ok1 q hq
  | 2, hq => exact List.all_eq_true.mp mOl_ok2 q hq
  | 3, hq => exact List.all_eq_true.mp mOl_ok3 q hq
  | 4, hq => exact List.all_eq_true.mp mOl_ok4 q hq
  | 5, hq => exact List.all_eq_true.mp mOl_ok5 q hq
  | 6, hq => exact List.all_eq_true.mp mOl_ok6 q hq
  | 7, hq => exact List.all_eq_true.mp mOl_ok7 q hq
  | 8, hq => exact List.all_eq_true.mp mOl_ok8 q hq
  | 9, hq => exact List.all_eq_true.mp mOl_ok9 q hq
  | 10, hq => exact List.all_eq_true.mp mOl_ok10 q hq
  | 11, hq => exact List.all_eq_true.mp mOl_ok11 q hq
  | 12, hq => exact List.all_eq_true.mp mOl_ok12 q hq
  | 13, hq => exact List.all_eq_true.mp mOl_ok13 q hq
  | o + 14, hq => simp [mOl] at hq
set_option maxRecDepth 100000 in
theorem mYl_ok0 : (mYl 0).all (mYlb 0) = true := by decide +kernel
set_option maxRecDepth 100000 in
theorem mYl_ok1 : (mYl 1).all (mYlb 1) = true := by decide +kernel
set_option maxRecDepth 100000 in
theorem mYl_ok2 : (mYl 2).all (mYlb 2) = true := by decide +kernel
set_option maxRecDepth 100000 in
theorem mYl_ok3 : (mYl 3).all (mYlb 3) = true := by decide +kernel
set_option maxRecDepth 100000 in
theorem mYl_ok4 : (mYl 4).all (mYlb 4) = true := by decide +kernel
set_option maxRecDepth 100000 in
theorem mYl_ok5 : (mYl 5).all (mYlb 5) = true := by decide +kernel
set_option maxRecDepth 100000 in
theorem mYl_ok6 : (mYl 6).all (mYlb 6) = true := by decide +kernel
set_option maxRecDepth 100000 in
theorem mYl_ok7 : (mYl 7).all (mYlb 7) = true := by decide +kernel
set_option maxRecDepth 100000 in
theorem mYl_ok8 : (mYl 8).all (mYlb 8) = true := by decide +kernel
set_option maxRecDepth 100000 in
theorem mYl_ok9 : (mYl 9).all (mYlb 9) = true := by decide +kernel
set_option maxRecDepth 100000 in
theorem mYl_ok10 : (mYl 10).all (mYlb 10) = true := by decide +kernel
set_option maxRecDepth 100000 in
theorem mYl_ok11 : (mYl 11).all (mYlb 11) = true := by decide +kernel
set_option maxRecDepth 100000 in
theorem mYl_ok12 : (mYl 12).all (mYlb 12) = true := by decide +kernel
set_option maxRecDepth 100000 in
theorem mYl_ok13 : (mYl 13).all (mYlb 13) = true := by decide +kernel
theorem mYl_ok : ∀ o, ∀ q ∈ mYl o, mYlb o q = true := by
  intro o q hq
  match o, hq with
  | 0, hq => exact List.all_eq_true.mp mYl_ok0 q hq
  | 1, hq => exact List.all_eq_true.mp mYl_ok1 q hq
  | 2, hq => exact List.all_eq_true.mp mYl_ok2 q hq
  | 3, hq => exact List.all_eq_true.mp mYl_ok3 q hq
  | 4, hq => exact List.all_eq_true.mp mYl_ok4 q hq
  | 5, hq => exact List.all_eq_true.mp mYl_ok5 q hq
  | 6, hq => exact List.all_eq_true.mp mYl_ok6 q hq
  | 7, hq => exact List.all_eq_true.mp mYl_ok7 q hq
  | 8, hq => exact List.all_eq_true.mp mYl_ok8 q hq
  | 9, hq => exact List.all_eq_true.mp mYl_ok9 q hq
  | 10, hq => exact List.all_eq_true.mp mYl_ok10 q hq
  | 11, hq => exact List.all_eq_true.mp mYl_ok11 q hq
  | 12, hq => exact List.all_eq_true.mp mYl_ok12 q hq
  | 13, hq => exact List.all_eq_true.mp mYl_ok13 q hq
  | o + 14, hq => simp [mYl] at hq
set_option maxRecDepth 100000 in
theorem mNl_ok0 : (mNl 0).all (mNlb 0) = true := by decide +kernel
set_option maxRecDepth 100000 in
theorem mNl_ok1 : (mNl 1).all (mNlb 1) = true := by decide +kernel
set_option maxRecDepth 100000 in
theorem mNl_ok2 : (mNl 2).all (mNlb 2) = true := by decide +kernel
set_option maxRecDepth 100000 in
theorem mNl_ok3 : (mNl 3).all (mNlb 3) = true := by decide +kernel
set_option maxRecDepth 100000 in
theorem mNl_ok4 : (mNl 4).all (mNlb 4) = true := by decide +kernel
set_option maxRecDepth 100000 in
theorem mNl_ok5 : (mNl 5).all (mNlb 5) = true := by decide +kernel
set_option maxRecDepth 100000 in
theorem mNl_ok6 : (mNl 6).all (mNlb 6) = true := by decide +kernel
set_option maxRecDepth 100000 in
theorem mNl_ok7 : (mNl 7).all (mNlb 7) = true := by decide +kernel
set_option maxRecDepth 100000 in
theorem mNl_ok8 : (mNl 8).all (mNlb 8) = true := by decide +kernel
set_option maxRecDepth 100000 in
theorem mNl_ok9 : (mNl 9).all (mNlb 9) = true := by decide +kernel
set_option maxRecDepth 100000 in
theorem mNl_ok10 : (mNl 10).all (mNlb 10) = true := by decide +kernel
set_option maxRecDepth 100000 in
theorem mNl_ok11 : (mNl 11).all (mNlb 11) = true := by decide +kernel
set_option maxRecDepth 100000 in
theorem mNl_ok12 : (mNl 12).all (mNlb 12) = true := by decide +kernel
set_option maxRecDepth 100000 in
theorem mNl_ok13 : (mNl 13).all (mNlb 13) = true := by decide +kernel
theorem mNl_ok : ∀ o, ∀ q ∈ mNl o, mNlb o q = true := by
  intro o q hq
  match o, hq with
  | 0, hq => exact List.all_eq_true.mp mNl_ok0 q hq
  | 1, hq => exact List.all_eq_true.mp mNl_ok1 q hq
  | 2, hq => exact List.all_eq_true.mp mNl_ok2 q hq
  | 3, hq => exact List.all_eq_true.mp mNl_ok3 q hq
  | 4, hq => exact List.all_eq_true.mp mNl_ok4 q hq
  | 5, hq => exact List.all_eq_true.mp mNl_ok5 q hq
  | 6, hq => exact List.all_eq_true.mp mNl_ok6 q hq
  | 7, hq => exact List.all_eq_true.mp mNl_ok7 q hq
  | 8, hq => exact List.all_eq_true.mp mNl_ok8 q hq
  | 9, hq => exact List.all_eq_true.mp mNl_ok9 q hq
  | 10, hq => exact List.all_eq_true.mp mNl_ok10 q hq
  | 11, hq => exact List.all_eq_true.mp mNl_ok11 q hq
  | 12, hq => exact List.all_eq_true.mp mNl_ok12 q hq
  | 13, hq => exact List.all_eq_true.mp mNl_ok13 q hq
  | o + 14, hq => simp [mNl] at hq
set_option maxRecDepth 100000 in
theorem mQl_ok0 : (mQl 0).all (mQlb 0) = true := by decide +kernel
set_option maxRecDepth 100000 in
theorem mQl_ok1 : (mQl 1).all (mQlb 1) = true := by decide +kernel
set_option maxRecDepth 100000 in
theorem mQl_ok2 : (mQl 2).all (mQlb 2) = true := by decide +kernel
set_option maxRecDepth 100000 in
theorem mQl_ok3 : (mQl 3).all (mQlb 3) = true := by decide +kernel
set_option maxRecDepth 100000 in
theorem mQl_ok4 : (mQl 4).all (mQlb 4) = true := by decide +kernel
set_option maxRecDepth 100000 in
theorem mQl_ok5 : (mQl 5).all (mQlb 5) = true := by decide +kernel
set_option maxRecDepth 100000 in
theorem mQl_ok6 : (mQl 6).all (mQlb 6) = true := by decide +kernel
set_option maxRecDepth 100000 in
theorem mQl_ok7 : (mQl 7).all (mQlb 7) = true := by decide +kernel
set_option maxRecDepth 100000 in
theorem mQl_ok8 : (mQl 8).all (mQlb 8) = true := by decide +kernel
set_option maxRecDepth 100000 in
theorem mQl_ok9 : (mQl 9).all (mQlb 9) = true := by decide +kernel
set_option maxRecDepth 100000 in
theorem mQl_ok10 : (mQl 10).all (mQlb 10) = true := by decide +kernel
set_option maxRecDepth 100000 in
theorem mQl_ok11 : (mQl 11).all (mQlb 11) = true := by decide +kernel
set_option maxRecDepth 100000 in
theorem mQl_ok12 : (mQl 12).all (mQlb 12) = true := by decide +kernel
set_option maxRecDepth 100000 in
theorem mQl_ok13 : (mQl 13).all (mQlb 13) = true := by decide +kernel
theorem mQl_ok : ∀ o, ∀ q ∈ mQl o, mQlb o q = true := by
  intro o q hq
  match o, hq with
  | 0, hq => exact List.all_eq_true.mp mQl_ok0 q hq
  | 1, hq => exact List.all_eq_true.mp mQl_ok1 q hq
  | 2, hq => exact List.all_eq_true.mp mQl_ok2 q hq
  | 3, hq => exact List.all_eq_true.mp mQl_ok3 q hq
  | 4, hq => exact List.all_eq_true.mp mQl_ok4 q hq
  | 5, hq => exact List.all_eq_true.mp mQl_ok5 q hq
  | 6, hq => exact List.all_eq_true.mp mQl_ok6 q hq
  | 7, hq => exact List.all_eq_true.mp mQl_ok7 q hq
  | 8, hq => exact List.all_eq_true.mp mQl_ok8 q hq
  | 9, hq => exact List.all_eq_true.mp mQl_ok9 q hq
  | 10, hq => exact List.all_eq_true.mp mQl_ok10 q hq
  | 11, hq => exact List.all_eq_true.mp mQl_ok11 q hq
  | 12, hq => exact List.all_eq_true.mp mQl_ok12 q hq
  | 13, hq => exact List.all_eq_true.mp mQl_ok13 q hq
  | o + 14, hq => simp [mQl] at hq
set_option maxRecDepth 100000 in
theorem mCll_ok0 : (mCll 0).all (mClb 0) = true := by decide +kernel
set_option maxRecDepth 100000 in
theorem mCll_ok1 : (mCll 1).all (mClb 1) = true := by decide +kernel
set_option maxRecDepth 100000 in
theorem mCll_ok2 : (mCll 2).all (mClb 2) = true := by decide +kernel
set_option maxRecDepth 100000 in
theorem mCll_ok3 : (mCll 3).all (mClb 3) = true := by decide +kernel
set_option maxRecDepth 100000 in
theorem mCll_ok4 : (mCll 4).all (mClb 4) = true := by decide +kernel
set_option maxRecDepth 100000 in
theorem mCll_ok5 : (mCll 5).all (mClb 5) = true := by decide +kernel
set_option maxRecDepth 100000 in
theorem mCll_ok6 : (mCll 6).all (mClb 6) = true := by decide +kernel
set_option maxRecDepth 100000 in
theorem mCll_ok7 : (mCll 7).all (mClb 7) = true := by decide +kernel
set_option maxRecDepth 100000 in
theorem mCll_ok8 : (mCll 8).all (mClb 8) = true := by decide +kernel
set_option maxRecDepth 100000 in
theorem mCll_ok9 : (mCll 9).all (mClb 9) = true := by decide +kernel
set_option maxRecDepth 100000 in
theorem mCll_ok10 : (mCll 10).all (mClb 10) = true := by decide +kernel
set_option maxRecDepth 100000 in
theorem mCll_ok11 : (mCll 11).all (mClb 11) = true := by decide +kernel
set_option maxRecDepth 100000 in
theorem mCll_ok12 : (mCll 12).all (mClb 12) = true := by decide +kernel
set_option maxRecDepth 100000 in
theorem mCll_ok13 : (mCll 13).all (mClb 13) = true := by decide +kernel
theorem mCll_ok : ∀ o, ∀ q ∈ mCll o, mClb o q = true := by
  intro o q hq
  match o, hq with
  | 0, hq => exact List.all_eq_true.mp mCll_ok0 q hq
  | 1, hq => exact List.all_eq_true.mp mCll_ok1 q hq
  | 2, hq => exact List.all_eq_true.mp mCll_ok2 q hq
  | 3, hq => exact List.all_eq_true.mp mCll_ok3 q hq
  | 4, hq => exact List.all_eq_true.mp mCll_ok4 q hq
  | 5, hq => exact List.all_eq_true.mp mCll_ok5 q hq
  | 6, hq => exact List.all_eq_true.mp mCll_ok6 q hq
  | 7, hq => exact List.all_eq_true.mp mCll_ok7 q hq
  | 8, hq => exact List.all_eq_true.mp mCll_ok8 q hq
  | 9, hq => exact List.all_eq_true.mp mCll_ok9 q hq
  | 10, hq => exact List.all_eq_true.mp mCll_ok10 q hq
  | 11, hq => exact List.all_eq_true.mp mCll_ok11 q hq
  | 12, hq => exact List.all_eq_true.mp mCll_ok12 q hq
  | 13, hq => exact List.all_eq_true.mp mCll_ok13 q hq
  | o + 14, hq => simp [mCll] at hq
