/-! THE REFERENCE's split -/
def zvr (a v : Int) : Prop := (0 ≤ a ∧ a ≤ 20000000) ∧ ((a = v ∧ v ≤ 1000) ∨ (1000 < a ∧ 1000 < v))
def zTm (x : zTs) (σ : mS) : Prop := σ.1 68 15 = (x.1 : Int) ∧ ∀ j : Nat, j < x.1 → σ.1 76 j = zphi (x.2.1 j) ∧ σ.1 78 j = x.2.2.1 j ∧ zvr (σ.1 77 j) (x.2.2.2 j)
def zFz (σ σ' : mS) : Prop := σ'.2 = σ.2 ∧ zB σ' ∧ (∀ r, r ≠ 68 → r ≠ 76 → r ≠ 77 → r ≠ 78 → σ'.1 r = σ.1 r) ∧ ∀ i, i ≠ 15 → σ'.1 68 i = σ.1 68 i
theorem zFz.rfl' {σ : mS} (h : zB σ) : zFz σ σ := ⟨rfl, h, fun _ _ _ _ _ => rfl, fun _ _ => rfl⟩
theorem zFz.trans {σ σ' σ'' : mS} (h : zFz σ σ') (h' : zFz σ' σ'') : zFz σ σ'' := ⟨h'.1.trans h.1, h'.2.1, fun r a b c d => (h'.2.2.1 r a b c d).trans (h.2.2.1 r a b c d), fun i a => (h'.2.2.2 i a).trans (h.2.2.2 i a)⟩
theorem zFz_arr {σ : mS} {r i v : Int} (h : zB σ) (hr : r = 76 ∨ r = 77 ∨ r = 78) : zFz σ (mup σ.1 r i v, σ.2) := by
  refine ⟨rfl, zB_mup h ?_, fun r' _ b c d => mup_fun (by rcases hr with e | e | e <;> rw [e] <;> assumption), fun j _ => ?_⟩
  · rcases hr with e | e | e <;> subst e <;> exact zokr_arr (by decide +kernel)
  · show mup σ.1 r i v 68 j = σ.1 68 j
    exact mup_cell (by rcases hr with e | e | e <;> rw [e] <;> decide)
theorem zFz_15 {σ : mS} {v : Int} (h : zB σ) : zFz σ (mup σ.1 68 15 v, σ.2) := ⟨rfl, zB_mup h (by decide +kernel), fun r a _ _ _ => mup_fun a, fun j a => by show mup σ.1 68 15 v 68 j = σ.1 68 j; exact mup_slot a⟩
/-- a token under way: the c-th, its code, place and value -/
def zTw (x : zTs) (kd s a : Int) (σ : mS) : Prop := zTm x σ ∧ σ.1 76 (x.1 : Int) = kd ∧ σ.1 78 (x.1 : Int) = s ∧ σ.1 77 (x.1 : Int) = a
theorem r_127 {x y : zTs} {σ : mS} {n to kd s a : Int} (hB : zB σ) (hx : x.1 ≤ 400) (h : zTw x kd s a σ) (hy : y.1 = x.1 + 1) (hj : ∀ j : Nat, j < x.1 → y.2.1 j = x.2.1 j ∧ y.2.2.1 j = x.2.2.1 j ∧ y.2.2.2 j = x.2.2.2 j) (hc : zphi (y.2.1 x.1) = kd ∧ y.2.2.1 x.1 = s ∧ zvr a (y.2.2.2 x.1)) :
    wpo (M_Mo_splits_127 68 n to σ) (fun z => ∃ σ2, z = Sum.inl (to, σ2) ∧ zFz σ σ2 ∧ zTm y σ2) := by
  obtain ⟨⟨h1, h2⟩, h3, h4, h5⟩ := h
  have w : ∀ u : Int, u = (x.1 : Int) → w32 (u + 1) = ((x.1 + 1 : Nat) : Int) := fun u hu => by rw [hu]; exact w32_nat1 (by omega)
  generalize hQ : (fun z : (Int × mS) ⊕ (Int × mS) => ∃ σ2, z = Sum.inl (to, σ2) ∧ zFz σ σ2 ∧ zTm y σ2) = Q
  unfold M_Mo_splits_127
  simp (maxSteps := 5000000) (disch := first | assumption | omega) only [wpo_bind, wpo_some, wpo_gf, wpo_gk, wpo_ld, wpo_pf, wpo_pz, wpo_sd, wpo_sr, wpo_ln, wpo_idv, wpo_irm, wpo_lrm, wpo_ldv, wpo_cpy, mlet, mnar_int, mup_same, mup_cell, mup_slot, ite_true, ite_false, true_and, and_true, eq_self, or_true, true_or, and_self, Int.reduceLT, Int.reduceLE, Int.reduceEq, Int.reduceNe, Int.reduceAdd, Int.reduceSub, Int.reduceMul, Int.reduceNeg, ne_eq, not_false_eq_true, not_true_eq_false, false_or, or_false, zor_inl, zor_inr, Bool.false_eq_true, false_and, and_false, zk1, zk2, zk3, zk4, zk5, zk6, zk7, zk8, zk9, zk10, zk11, zk12, zk13, zk14, zk15, zk16, zk17, zk18, zk19, zk20, zk21, zk22, zk23, zk24, zk25, zk26, zk27, zk28, zk29, zk30, zk31, zk32, zk33, zk34, zk35, zk36, zk37, zk38, zk39, zk40, zk41, zk42, zk43, zk44, zk45, zk46, zk47, zk48, zk49, zk50, zk51, zk52, zk53, zk54, zk55, zk56, zk57, zk58, zk59, zk60, zk61, zk62, zk63, zk64, zk65, zk66, zk67, zk68, zk69, zk70, zk71, zk72, zk73, zk74, zk75, zk76, zk77, zk78, zk79, zk80, zk81, zk82, zk83, zk84, zk85, zk86, zk87, zk88, zk89, zk90, zr2_0, zr2_1, zr2_2, zr2_3, zr2_4, zr2_6, zr2_7, zr2_10, zr2_11, zr2_12, zr1_0, zr1_1, zr14_0, zr14_1, zr14_2, zr14_3, zr14_4, zr14_6, zr14_7, zr14_10, zr14_11, zr14_12, zr13_0, zr25_0, zr25_1, zr25_2, zr25_3, zr25_4, zr25_6, zr25_7, zr25_10, zr25_11, zr25_12, zr13_1, zr1_2, zr37_0, zr1_3, zr39_0, zr39_1, zr39_2, zr39_5, zr39_7, zr39_8, zr1_4, zr46_1, zr46_2, zr46_3, zr46_4, zr46_0, zr1_5, zr51_2, zr51_10, zr51_0, zr51_1, zr54_1, zr54_2, zr54_3, zr1_6, zr58_1, zr58_2, zr58_3, zr58_0, zr1_7, zr62_2, zr62_3, zr62_0, zr62_1, zr1_8, zr1_9, zr1_10, zr1_15, zr68_2, zr68_3, zr68_4, zr68_5, zr68_7, zr68_8, zr68_9, zr68_12, zr68_13, zr68_14, zr68_22, zr68_23, zr68_24, zr68_26, zr68_35, zr68_36, zr68_37, zr68_38, zr68_39, zr68_40, zr68_41, zr68_42, h1, w]
  rw [← hQ]
  refine ⟨_, rfl, zFz_15 hB, ?_, fun j hj' => ?_⟩
  · show mup σ.1 68 15 ((x.1 + 1 : Nat) : Int) 68 15 = _
    rw [mup_same, hy]
  · show mup σ.1 68 15 ((x.1 + 1 : Nat) : Int) 76 j = _ ∧ mup σ.1 68 15 ((x.1 + 1 : Nat) : Int) 78 j = _ ∧ zvr (mup σ.1 68 15 ((x.1 + 1 : Nat) : Int) 77 j) _
    rw [mup_cell (by decide), mup_cell (by decide), mup_cell (by decide)]
    by_cases c : j = x.1
    · subst c
      rw [h3, h4, h5]
      exact ⟨hc.1.symm, hc.2.1.symm, hc.2.2⟩
    · obtain ⟨g1, g2, g3⟩ := hj j (by omega)
      rw [g1, g2, g3]
      exact h2 j (by omega)
/-- first marks of a token -/
theorem r_mark {x : zTs} {σ : mS} {s kd : Int} (hB : zB σ) (h : zTm x σ) : zFz σ (mup (mup (mup σ.1 78 (x.1 : Int) s) 77 (x.1 : Int) 0) 76 (x.1 : Int) kd, σ.2) ∧ zTw x kd s 0 (mup (mup (mup σ.1 78 (x.1 : Int) s) 77 (x.1 : Int) 0) 76 (x.1 : Int) kd, σ.2) := by
  have f1 := zFz_arr (r := 78) (i := (x.1 : Int)) (v := s) hB (by decide)
  have f2 := zFz_arr (r := 77) (i := (x.1 : Int)) (v := 0) f1.2.1 (by decide)
  have f3 := zFz_arr (r := 76) (i := (x.1 : Int)) (v := kd) f2.2.1 (by decide)
  refine ⟨(f1.trans f2).trans f3, ⟨?_, fun j hj => ?_⟩, ?_, ?_, ?_⟩
  · show mup (mup (mup σ.1 78 (x.1 : Int) s) 77 (x.1 : Int) 0) 76 (x.1 : Int) kd 68 15 = _
    rw [mup_cell (by decide), mup_cell (by decide), mup_cell (by decide)]; exact h.1
  · show mup (mup (mup σ.1 78 (x.1 : Int) s) 77 (x.1 : Int) 0) 76 (x.1 : Int) kd 76 j = _ ∧ mup (mup (mup σ.1 78 (x.1 : Int) s) 77 (x.1 : Int) 0) 76 (x.1 : Int) kd 78 j = _ ∧ zvr (mup (mup (mup σ.1 78 (x.1 : Int) s) 77 (x.1 : Int) 0) 76 (x.1 : Int) kd 77 j) _
    rw [mup_slot (by omega), mup_cell (by decide), mup_cell (by decide), mup_cell (by decide), mup_cell (by decide), mup_slot (by omega), mup_cell (by decide), mup_slot (by omega), mup_cell (by decide)]
    exact h.2 j hj
  · show mup (mup (mup σ.1 78 (x.1 : Int) s) 77 (x.1 : Int) 0) 76 (x.1 : Int) kd 76 (x.1 : Int) = _
    exact mup_same
  · show mup (mup (mup σ.1 78 (x.1 : Int) s) 77 (x.1 : Int) 0) 76 (x.1 : Int) kd 78 (x.1 : Int) = _
    rw [mup_cell (by decide), mup_cell (by decide), mup_same]
  · show mup (mup (mup σ.1 78 (x.1 : Int) s) 77 (x.1 : Int) 0) 76 (x.1 : Int) kd 77 (x.1 : Int) = _
    rw [mup_cell (by decide), mup_same]
/-- the value's loop, where there are no digits -/
theorem r_87n {x y : zTs} {σ : mS} {n to l5 b kd s a : Int} (hB : zB σ) (hx : x.1 ≤ 400) (hb : ¬ (48 ≤ b ∧ b ≤ 57)) (h : zTw x kd s a σ) (hy : y.1 = x.1 + 1) (hj : ∀ j : Nat, j < x.1 → y.2.1 j = x.2.1 j ∧ y.2.2.1 j = x.2.2.1 j ∧ y.2.2.2 j = x.2.2.2 j) (hc : zphi (y.2.1 x.1) = kd ∧ y.2.2.1 x.1 = s ∧ zvr a (y.2.2.2 x.1)) :
    wpo (M_Mo_splits_87 68 n b to l5 σ) (fun z => ∃ σ2, z = Sum.inl (to, σ2) ∧ zFz σ σ2 ∧ zTm y σ2) := by
  have e := r_127 (n := n) (to := to) hB hx h hy hj hc
  unfold M_Mo_splits_87
  refine miter_mN (fun _ y => y = (l5, σ)) ?_ 0 _ (by decide) rfl
  intro m y hy
  subst hy
  show wpo (B_Mo_splits_87 68 n b to l5 σ) _
  unfold B_Mo_splits_87
  by_cases c : l5 < to
  · rw [if_pos c, r_digit, if_neg hb]
    refine wpo_bind.mpr (wpo_some.mpr ?_)
    rw [if_pos rfl]
    exact wpo_call e (fun z hz => wpo_some.mpr hz)
  · rw [if_neg c]
    exact wpo_call e (fun z hz => wpo_some.mpr hz)
theorem zvr_step {a v d : Int} (h : zvr a v) (hd : 48 ≤ d ∧ d ≤ 57) (hv : 0 ≤ v) : zvr (if 1000000 < a then a else 10 * a + d - 48) (zvs v d) := by
  obtain ⟨h1, h2⟩ := h
  unfold zvr zvs
  by_cases c1 : 1000000 < a
  · rw [if_pos c1]
    by_cases c2 : 1000 < v
    · rw [if_pos c2]; omega
    · omega
  · rw [if_neg c1]
    by_cases c2 : 1000 < v
    · rw [if_pos c2]; omega
    · rw [if_neg c2]; omega
theorem zTw_val {x : zTs} {σ : mS} {kd s a a' : Int} (hB : zB σ) (h : zTw x kd s a σ) : zFz σ (mup σ.1 77 (x.1 : Int) a', σ.2) ∧ zTw x kd s a' (mup σ.1 77 (x.1 : Int) a', σ.2) := by
  obtain ⟨⟨h1, h2⟩, h3, h4, h5⟩ := h
  refine ⟨zFz_arr hB (by decide), ⟨?_, fun j hj => ?_⟩, ?_, ?_, ?_⟩
  · show mup σ.1 77 (x.1 : Int) a' 68 15 = _; rw [mup_cell (by decide)]; exact h1
  · show mup σ.1 77 (x.1 : Int) a' 76 j = _ ∧ mup σ.1 77 (x.1 : Int) a' 78 j = _ ∧ zvr (mup σ.1 77 (x.1 : Int) a' 77 j) _
    rw [mup_cell (by decide), mup_cell (by decide), mup_slot (by omega)]; exact h2 j hj
  · show mup σ.1 77 (x.1 : Int) a' 76 (x.1 : Int) = _; rw [mup_cell (by decide)]; exact h3
  · show mup σ.1 77 (x.1 : Int) a' 78 (x.1 : Int) = _; rw [mup_cell (by decide)]; exact h4
  · show mup σ.1 77 (x.1 : Int) a' 77 (x.1 : Int) = _; exact mup_same
set_option maxHeartbeats 4000000 in
theorem r_87step {x : zTs} {σ : mS} {n to b kd s a d : Int} {m : Nat} (hB : zB σ) (hx : x.1 ≤ 400) (hb : 48 ≤ b ∧ b ≤ 57) (h : zTw x kd s a σ) (ha : 0 ≤ a ∧ a ≤ 20000000) (hm : (m : Int) < to) (hm4 : m < 400) (hd : 48 ≤ d ∧ d ≤ 57) (ht : σ.1 74 m = d) :
    wpo (B_Mo_splits_87 68 n b to m σ) (fun z => ∃ σ2, z = Sum.inl (((m + 1 : Nat) : Int), σ2) ∧ zFz σ σ2 ∧ zTw x kd s (if 1000000 < a then a else 10 * a + d - 48) σ2) := by
  have h0 := h
  obtain ⟨⟨h1, h2⟩, h3, h4, h5⟩ := h
  have dg := r_digit b σ
  rw [if_pos hb] at dg
  have n10 : ¬ (1 : Int) = 0 := by decide
  have c0 : 0 ≤ (x.1 : Int) := by omega
  have c1 : (x.1 : Int) < 401 := by omega
  have c2 : 0 ≤ (m : Int) := by omega
  have c3 : (m : Int) < 400 := by omega
  have wm : ∀ u : Int, u = (m : Int) → w32 (u + 1) = ((m + 1 : Nat) : Int) := fun u hu => by rw [hu]; exact w32_nat1 (by omega)
  generalize hQ : (fun z : (Int × mS) ⊕ ((Int × mS) ⊕ (Int × mS)) => ∃ σ2, z = Sum.inl (((m + 1 : Nat) : Int), σ2) ∧ zFz σ σ2 ∧ zTw x kd s (if 1000000 < a then a else 10 * a + d - 48) σ2) = Q
  unfold B_Mo_splits_87
  by_cases c : 1000000 < a
  · have tv := zTw_val (a' := a) hB h0
    simp (maxSteps := 5000000) (disch := first | assumption | omega) only [wpo_bind, wpo_some, wpo_gf, wpo_gk, wpo_ld, wpo_pf, wpo_pz, wpo_sd, wpo_sr, wpo_ln, wpo_idv, wpo_irm, wpo_lrm, wpo_ldv, wpo_cpy, mlet, mnar_int, mup_same, mup_cell, mup_slot, ite_true, ite_false, true_and, and_true, eq_self, or_true, true_or, and_self, Int.reduceLT, Int.reduceLE, Int.reduceEq, Int.reduceNe, Int.reduceAdd, Int.reduceSub, Int.reduceMul, Int.reduceNeg, ne_eq, not_false_eq_true, not_true_eq_false, false_or, or_false, zor_inl, zor_inr, Bool.false_eq_true, false_and, and_false, zk1, zk2, zk3, zk4, zk5, zk6, zk7, zk8, zk9, zk10, zk11, zk12, zk13, zk14, zk15, zk16, zk17, zk18, zk19, zk20, zk21, zk22, zk23, zk24, zk25, zk26, zk27, zk28, zk29, zk30, zk31, zk32, zk33, zk34, zk35, zk36, zk37, zk38, zk39, zk40, zk41, zk42, zk43, zk44, zk45, zk46, zk47, zk48, zk49, zk50, zk51, zk52, zk53, zk54, zk55, zk56, zk57, zk58, zk59, zk60, zk61, zk62, zk63, zk64, zk65, zk66, zk67, zk68, zk69, zk70, zk71, zk72, zk73, zk74, zk75, zk76, zk77, zk78, zk79, zk80, zk81, zk82, zk83, zk84, zk85, zk86, zk87, zk88, zk89, zk90, zr2_0, zr2_1, zr2_2, zr2_3, zr2_4, zr2_6, zr2_7, zr2_10, zr2_11, zr2_12, zr1_0, zr1_1, zr14_0, zr14_1, zr14_2, zr14_3, zr14_4, zr14_6, zr14_7, zr14_10, zr14_11, zr14_12, zr13_0, zr25_0, zr25_1, zr25_2, zr25_3, zr25_4, zr25_6, zr25_7, zr25_10, zr25_11, zr25_12, zr13_1, zr1_2, zr37_0, zr1_3, zr39_0, zr39_1, zr39_2, zr39_5, zr39_7, zr39_8, zr1_4, zr46_1, zr46_2, zr46_3, zr46_4, zr46_0, zr1_5, zr51_2, zr51_10, zr51_0, zr51_1, zr54_1, zr54_2, zr54_3, zr1_6, zr58_1, zr58_2, zr58_3, zr58_0, zr1_7, zr62_2, zr62_3, zr62_0, zr62_1, zr1_8, zr1_9, zr1_10, zr1_15, zr68_2, zr68_3, zr68_4, zr68_5, zr68_7, zr68_8, zr68_9, zr68_12, zr68_13, zr68_14, zr68_22, zr68_23, zr68_24, zr68_26, zr68_35, zr68_36, zr68_37, zr68_38, zr68_39, zr68_40, zr68_41, zr68_42, hm, dg, n10, h1, c0, c1, h5, c, wm]
    rw [← hQ, if_pos c]
    exact ⟨_, rfl, tv⟩
  · have w2 : ∀ u : Int, u = a → w32 (10 * u) = 10 * a := fun u hu => by rw [w32_in (by omega) (by omega)]; omega
    have w3 : ∀ u : Int, u = 10 * a → w32 (u + d) = 10 * a + d := fun u hu => by rw [w32_in (by omega) (by omega)]; omega
    have w4 : ∀ u : Int, u = 10 * a + d → w32 (u - 48) = 10 * a + d - 48 := fun u hu => by rw [w32_in (by omega) (by omega)]; omega
    have tv := zTw_val (a' := 10 * a + d - 48) hB h0
    simp (maxSteps := 5000000) (disch := first | assumption | omega) only [wpo_bind, wpo_some, wpo_gf, wpo_gk, wpo_ld, wpo_pf, wpo_pz, wpo_sd, wpo_sr, wpo_ln, wpo_idv, wpo_irm, wpo_lrm, wpo_ldv, wpo_cpy, mlet, mnar_int, mup_same, mup_cell, mup_slot, ite_true, ite_false, true_and, and_true, eq_self, or_true, true_or, and_self, Int.reduceLT, Int.reduceLE, Int.reduceEq, Int.reduceNe, Int.reduceAdd, Int.reduceSub, Int.reduceMul, Int.reduceNeg, ne_eq, not_false_eq_true, not_true_eq_false, false_or, or_false, zor_inl, zor_inr, Bool.false_eq_true, false_and, and_false, zk1, zk2, zk3, zk4, zk5, zk6, zk7, zk8, zk9, zk10, zk11, zk12, zk13, zk14, zk15, zk16, zk17, zk18, zk19, zk20, zk21, zk22, zk23, zk24, zk25, zk26, zk27, zk28, zk29, zk30, zk31, zk32, zk33, zk34, zk35, zk36, zk37, zk38, zk39, zk40, zk41, zk42, zk43, zk44, zk45, zk46, zk47, zk48, zk49, zk50, zk51, zk52, zk53, zk54, zk55, zk56, zk57, zk58, zk59, zk60, zk61, zk62, zk63, zk64, zk65, zk66, zk67, zk68, zk69, zk70, zk71, zk72, zk73, zk74, zk75, zk76, zk77, zk78, zk79, zk80, zk81, zk82, zk83, zk84, zk85, zk86, zk87, zk88, zk89, zk90, zr2_0, zr2_1, zr2_2, zr2_3, zr2_4, zr2_6, zr2_7, zr2_10, zr2_11, zr2_12, zr1_0, zr1_1, zr14_0, zr14_1, zr14_2, zr14_3, zr14_4, zr14_6, zr14_7, zr14_10, zr14_11, zr14_12, zr13_0, zr25_0, zr25_1, zr25_2, zr25_3, zr25_4, zr25_6, zr25_7, zr25_10, zr25_11, zr25_12, zr13_1, zr1_2, zr37_0, zr1_3, zr39_0, zr39_1, zr39_2, zr39_5, zr39_7, zr39_8, zr1_4, zr46_1, zr46_2, zr46_3, zr46_4, zr46_0, zr1_5, zr51_2, zr51_10, zr51_0, zr51_1, zr54_1, zr54_2, zr54_3, zr1_6, zr58_1, zr58_2, zr58_3, zr58_0, zr1_7, zr62_2, zr62_3, zr62_0, zr62_1, zr1_8, zr1_9, zr1_10, zr1_15, zr68_2, zr68_3, zr68_4, zr68_5, zr68_7, zr68_8, zr68_9, zr68_12, zr68_13, zr68_14, zr68_22, zr68_23, zr68_24, zr68_26, zr68_35, zr68_36, zr68_37, zr68_38, zr68_39, zr68_40, zr68_41, zr68_42, hm, dg, n10, h1, c0, c1, h5, c, wm, ht, c2, c3, w2, w3, w4]
    rw [← hQ, if_neg c]
    exact ⟨_, rfl, tv⟩
/-- a run of digits, or of letters -/
theorem zfo_dig {T : Int → Int} {n k : Nat} (hk : zsrt (T k) = 257) (hb : zah T k ≠ 257) : ∀ m : Nat, k < m → (∀ i : Nat, k ≤ i → i < m → zsrt (T i) = 257) → (zfo T n m).1 = (zfo T n k).1 + 1 ∧ (zfo T n m).2.1 = zud (zfo T n k).2.1 (zfo T n k).1 257 ∧ (zfo T n m).2.2.1 = zud (zfo T n k).2.2.1 (zfo T n k).1 k ∧ ∀ j : Nat, j ≠ (zfo T n k).1 → (zfo T n m).2.2.2 j = (zfo T n k).2.2.2 j := by
  intro m
  induction m with
  | zero => intro h; omega
  | succ m ih =>
    intro hkm hr
    show (zsp T n m (zfo T n m)).1 = _ ∧ (zsp T n m (zfo T n m)).2.1 = _ ∧ (zsp T n m (zfo T n m)).2.2.1 = _ ∧ ∀ j : Nat, j ≠ (zfo T n k).1 → (zsp T n m (zfo T n m)).2.2.2 j = _
    unfold zsp
    rw [if_pos (hr m (by omega) (by omega))]
    by_cases c : m = k
    · subst c
      rw [if_neg hb]
      exact ⟨rfl, rfl, rfl, fun j hj => zud_ne hj⟩
    · obtain ⟨i1, i2, i3, i4⟩ := ih (by omega) (fun i a b => hr i a (by omega))
      have za : zah T m = 257 := by
        obtain ⟨q, rfl⟩ : ∃ q, m = q + 1 := ⟨m - 1, by omega⟩
        rw [zah_succ]; exact hr q (by omega) (by omega)
      rw [if_pos za]
      refine ⟨i1, i2, i3, fun j hj => ?_⟩
      show zud (zfo T n m).2.2.2 ((zfo T n m).1 - 1) _ j = _
      rw [zud_ne (by omega)]
      exact i4 j hj
theorem zfo_dval {T : Int → Int} {n k m : Nat} (hk : zsrt (T k) = 257) (hb : zah T k ≠ 257) (hkm : k < m) (hr : ∀ i : Nat, k ≤ i → i ≤ m → zsrt (T i) = 257) : (zfo T n (m + 1)).2.2.2 (zfo T n k).1 = zvs ((zfo T n m).2.2.2 (zfo T n k).1) (T m) := by
  obtain ⟨i1, _⟩ := zfo_dig (n := n) hk hb m hkm (fun i a b => hr i a (by omega))
  show (zsp T n m (zfo T n m)).2.2.2 _ = _
  unfold zsp
  have za : zah T m = 257 := by
    obtain ⟨q, rfl⟩ : ∃ q, m = q + 1 := ⟨m - 1, by omega⟩
    rw [zah_succ]; exact hr q (by omega) (by omega)
  rw [if_pos (hr m (by omega) (by omega)), if_pos za]
  show zud (zfo T n m).2.2.2 ((zfo T n m).1 - 1) (zvs ((zfo T n m).2.2.2 ((zfo T n m).1 - 1)) (T m)) _ = _
  have e : (zfo T n m).1 - 1 = (zfo T n k).1 := by omega
  rw [e, zud_same]
theorem zfo_let {T : Int → Int} {n k : Nat} (hk : zsrt (T k) = 258) (hb : zah T k ≠ 258) : ∀ m : Nat, k < m → (∀ i : Nat, k ≤ i → i < m → zsrt (T i) = 258) → zfo T n m = zad (zfo T n k) (zwk T k (zwe T n 401 k)) k 0 := by
  intro m
  induction m with
  | zero => intro h; omega
  | succ m ih =>
    intro hkm hr
    show zsp T n m (zfo T n m) = _
    unfold zsp
    rw [if_neg (by rw [hr m (by omega) (by omega)]; decide), if_pos (hr m (by omega) (by omega))]
    by_cases c : m = k
    · subst c
      rw [if_neg hb]
    · have za : zah T m = 258 := by
        obtain ⟨q, rfl⟩ : ∃ q, m = q + 1 := ⟨m - 1, by omega⟩
        rw [zah_succ]; exact hr q (by omega) (by omega)
      rw [if_pos za]
      exact ih (by omega) (fun i a b => hr i a (by omega))
