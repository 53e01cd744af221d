/-! TERMS -/
theorem zWF_term {A : Int → Int} {w v : Int} (h : zWF A) (hw : 0 ≤ w ∧ w ≤ 3) (hv : 0 ≤ v ∧ ((w = 0 ∧ v ≤ 23) ∨ (w = 1 ∧ v ≤ 9) ∨ (w = 2 ∧ v ≤ 63) ∨ (w = 3 ∧ v ≤ 31))) : zWF (zset A (180 + w) v) := by
  obtain ⟨w1, w2, w3, w4, w5, w6, w7, w8, w9⟩ := h
  have cg : ∀ j, j ≠ 180 + w → zset A (180 + w) v j = A j := fun j hj => zset_ne hj
  have tm : ∀ j, 0 ≤ j → j ≤ 3 → zset A (180 + w) v (180 + j) = if j = w then v else A (180 + j) := by
    intro j _ _
    by_cases c : j = w
    · rw [c, zset_same, if_pos rfl]
    · rw [cg _ (by omega), if_neg c]
  have e184 := cg 184 (by omega)
  refine ⟨fun j j0 j1 => by rw [cg j (by omega), cg (64 + j) (by omega)]; exact w1 j j0 j1, by rw [e184]; exact w2, fun t t0 t1 => ?_, fun t u t0 t1 u0 u1 e => ?_, ?_, by rw [cg 185 (by omega)]; exact w6, fun j j0 j1 => ?_, by rw [cg 186 (by omega)]; exact w8, by rw [cg 186 (by omega), cg 187 (by omega)]; exact w9⟩
  · rw [cg _ (by omega), cg (136 + t) (by omega)]; rw [e184] at t1; exact w3 t t0 t1
  · rw [e184] at t1 u1
    rw [cg _ (by omega), cg (128 + u) (by omega)] at e
    exact w4 t u t0 t1 u0 u1 e
  · have a0 := tm 0 (by decide) (by decide)
    have a1 := tm 1 (by decide) (by decide)
    have a2 := tm 2 (by decide) (by decide)
    have a3 := tm 3 (by decide) (by decide)
    have a0 : zset A (180 + w) v 180 = if 0 = w then v else A 180 := a0
    have a1 : zset A (180 + w) v 181 = if 1 = w then v else A 181 := a1
    have a2 : zset A (180 + w) v 182 = if 2 = w then v else A 182 := a2
    have a3 : zset A (180 + w) v 183 = if 3 = w then v else A 183 := a3
    rw [a0, a1, a2, a3]
    refine ⟨?_, ?_, ?_, ?_⟩ <;> split <;> omega
  · rw [cg 185 (by omega)] at j1
    rw [cg _ (by omega), cg (145 + 3 * j) (by omega), cg (146 + 3 * j) (by omega), e184]
    exact w7 j j0 j1
set_option maxHeartbeats 4000000 in
theorem s_terms0 (k : Nat) (hk : k ≤ 1000) (v : Int) : zStp k (M_RW_terms 1 0 v) (M_Mo_terms 68 0 v) := by
  intro D A σ hI
  have hI0 := hI
  obtain ⟨q1, q2, q3, q4, q5, q6⟩ := hI
  have hB := q1.1.1
  have hW := q1.1.2.1
  have hR := q1.1.2.2.1
  have h70 := q2.2.2.2.1
  have n10 : ¬ (1 : Int) = 0 := by decide
  have k3 : σ.2.1 (-3) = (100, 4) := hB.2.2.2.2.2.1.1
  have v3 : σ.1 (-3) 0 = 23 := hB.2.2.2.2.2.1.2.1
  by_cases c : 0 ≤ v ∧ v ≤ 23
  · have vk := q2.2.2.2.2.2.1
    have e8 : σ.1 8 0 = A (180 + 0) := hR.2.2.2.1 0 (by decide) (by decide)
    have e8' : σ.1 8 0 = A 180 := e8
    have b1 := zB_mup (r := 8) (i := 0) (v := v) hB (zokr_arr (by decide +kernel))
    obtain ⟨gB, gX, g1, g58, gY⟩ := zAcc_dev (σ := σ) (Y := (mup σ.1 8 0 v, σ.2)) b1 rfl (fun u a _ => mup_fun (by omega))
    have dev : wpo (M_RW_terms 1 0 v σ) (fun q => q = (A 180, (mup (mup (mup σ.1 8 0 v) 1 14 0) 58 4 0, σ.2))) := by
      have ac := e_accept (v := A 180) b1
      unfold M_RW_terms
      simp (maxSteps := 5000000) (disch := first | assumption | omega) only [wpo_bind, wpo_some, wpo_gf, wpo_gk, wpo_ld, wpo_pf, wpo_pz, wpo_sd, wpo_sr, wpo_ln, wpo_idv, wpo_irm, wpo_lrm, wpo_ldv, wpo_cpy, mlet, mnar_int, mup_same, mup_cell, mup_slot, ite_true, ite_false, true_and, and_true, eq_self, or_true, true_or, and_self, Int.reduceLT, Int.reduceLE, Int.reduceEq, Int.reduceNe, Int.reduceAdd, Int.reduceSub, Int.reduceMul, Int.reduceNeg, ne_eq, not_false_eq_true, not_true_eq_false, false_or, or_false, zor_inl, zor_inr, Bool.false_eq_true, false_and, and_false, zk1, zk2, zk3, zk4, zk5, zk6, zk7, zk8, zk9, zk10, zk11, zk12, zk13, zk14, zk15, zk16, zk17, zk18, zk19, zk20, zk21, zk22, zk23, zk24, zk25, zk26, zk27, zk28, zk29, zk30, zk31, zk32, zk33, zk34, zk35, zk36, zk37, zk38, zk39, zk40, zk41, zk42, zk43, zk44, zk45, zk46, zk47, zk48, zk49, zk50, zk51, zk52, zk53, zk54, zk55, zk56, zk57, zk58, zk59, zk60, zk61, zk62, zk63, zk64, zk65, zk66, zk67, zk68, zk69, zk70, zk71, zk72, zk73, zk74, zk75, zk76, zk77, zk78, zk79, zk80, zk81, zk82, zk83, zk84, zk85, zk86, zk87, zk88, zk89, zk90, zr2_0, zr2_1, zr2_2, zr2_3, zr2_4, zr2_6, zr2_7, zr2_10, zr2_11, zr2_12, zr1_0, zr1_1, zr14_0, zr14_1, zr14_2, zr14_3, zr14_4, zr14_6, zr14_7, zr14_10, zr14_11, zr14_12, zr13_0, zr25_0, zr25_1, zr25_2, zr25_3, zr25_4, zr25_6, zr25_7, zr25_10, zr25_11, zr25_12, zr13_1, zr1_2, zr37_0, zr1_3, zr39_0, zr39_1, zr39_2, zr39_5, zr39_7, zr39_8, zr1_4, zr46_1, zr46_2, zr46_3, zr46_4, zr46_0, zr1_5, zr51_2, zr51_10, zr51_0, zr51_1, zr54_1, zr54_2, zr54_3, zr1_6, zr58_1, zr58_2, zr58_3, zr58_0, zr1_7, zr62_2, zr62_3, zr62_0, zr62_1, zr1_8, zr1_9, zr1_10, zr1_15, zr68_2, zr68_3, zr68_4, zr68_5, zr68_7, zr68_8, zr68_9, zr68_12, zr68_13, zr68_14, zr68_22, zr68_23, zr68_24, zr68_26, zr68_35, zr68_36, zr68_37, zr68_38, zr68_39, zr68_40, zr68_41, zr68_42, e_within, n10, k3, v3, c, e8', ac]
    refine wpo_mono dev ?_
    intro q hq
    subst hq
    have x8 : ((mup (mup (mup σ.1 8 0 v) 1 14 0) 58 4 0, σ.2) : mS).1 8 = zset (σ.1 8) 0 v := by rw [gY 8 (by decide) (by decide)]; show mup σ.1 8 0 v 8 = _; exact mup_zset
    have g2 : ((mup (mup (mup σ.1 8 0 v) 1 14 0) 58 4 0, σ.2) : mS).2 = σ.2 := rfl
    have gc : ∀ u, u ≠ 1 → u ≠ 8 → u ≠ 58 → ((mup (mup (mup σ.1 8 0 v) 1 14 0) 58 4 0, σ.2) : mS).1 u = σ.1 u := fun u a b d => (gY u a d).trans (mup_fun b)
    generalize eX : ((mup (mup (mup σ.1 8 0 v) 1 14 0) 58 4 0, σ.2) : mS) = X at *
    have h70x : X.1 70 = A := (gc 70 (by decide) (by decide) (by decide)).trans h70
    have v68 : X.1 68 = σ.1 68 := gc 68 (by decide) (by decide) (by decide)
    have d1 := zB_mup (r := 70) (i := 180) (v := v) gB (zokr_arr (by decide +kernel))
    obtain ⟨zb, zx, z70, z68⟩ := zAcc_ref (σ := σ) (X := X) (Y := (mup X.1 70 180 v, X.2)) d1 rfl (fun u a => mup_fun a) v68
    have h70k : ∀ j, X.1 70 j = A j := fun j => by rw [h70x]
    have ref : wpo (M_Mo_terms 68 0 v X) (fun z => z = (A 180, (mup (mup (mup X.1 70 180 v) 68 0 0) 68 1 (σ.1 68 1 + 1), X.2))) := by
      have w1 : ∀ u : Int, u = 180 → w32 u = 180 := fun u hu => by rw [w32_in (by omega) (by omega)]; omega
      have e1 : ((mup X.1 70 180 v, X.2) : mS).1 68 1 = σ.1 68 1 := by show mup X.1 70 180 v 68 1 = _; rw [mup_cell (by decide), v68]
      have gd := f_good (v := A 180) d1 (by rw [e1]; exact vk)
      rw [e1] at gd
      unfold M_Mo_terms M_Mo_terms_22
      simp (maxSteps := 5000000) (disch := first | assumption | omega) only [wpo_bind, wpo_some, wpo_gf, wpo_gk, wpo_ld, wpo_pf, wpo_pz, wpo_sd, wpo_sr, wpo_ln, wpo_idv, wpo_irm, wpo_lrm, wpo_ldv, wpo_cpy, mlet, mnar_int, mup_same, mup_cell, mup_slot, ite_true, ite_false, true_and, and_true, eq_self, or_true, true_or, and_self, Int.reduceLT, Int.reduceLE, Int.reduceEq, Int.reduceNe, Int.reduceAdd, Int.reduceSub, Int.reduceMul, Int.reduceNeg, ne_eq, not_false_eq_true, not_true_eq_false, false_or, or_false, zor_inl, zor_inr, Bool.false_eq_true, false_and, and_false, zk1, zk2, zk3, zk4, zk5, zk6, zk7, zk8, zk9, zk10, zk11, zk12, zk13, zk14, zk15, zk16, zk17, zk18, zk19, zk20, zk21, zk22, zk23, zk24, zk25, zk26, zk27, zk28, zk29, zk30, zk31, zk32, zk33, zk34, zk35, zk36, zk37, zk38, zk39, zk40, zk41, zk42, zk43, zk44, zk45, zk46, zk47, zk48, zk49, zk50, zk51, zk52, zk53, zk54, zk55, zk56, zk57, zk58, zk59, zk60, zk61, zk62, zk63, zk64, zk65, zk66, zk67, zk68, zk69, zk70, zk71, zk72, zk73, zk74, zk75, zk76, zk77, zk78, zk79, zk80, zk81, zk82, zk83, zk84, zk85, zk86, zk87, zk88, zk89, zk90, zr2_0, zr2_1, zr2_2, zr2_3, zr2_4, zr2_6, zr2_7, zr2_10, zr2_11, zr2_12, zr1_0, zr1_1, zr14_0, zr14_1, zr14_2, zr14_3, zr14_4, zr14_6, zr14_7, zr14_10, zr14_11, zr14_12, zr13_0, zr25_0, zr25_1, zr25_2, zr25_3, zr25_4, zr25_6, zr25_7, zr25_10, zr25_11, zr25_12, zr13_1, zr1_2, zr37_0, zr1_3, zr39_0, zr39_1, zr39_2, zr39_5, zr39_7, zr39_8, zr1_4, zr46_1, zr46_2, zr46_3, zr46_4, zr46_0, zr1_5, zr51_2, zr51_10, zr51_0, zr51_1, zr54_1, zr54_2, zr54_3, zr1_6, zr58_1, zr58_2, zr58_3, zr58_0, zr1_7, zr62_2, zr62_3, zr62_0, zr62_1, zr1_8, zr1_9, zr1_10, zr1_15, zr68_2, zr68_3, zr68_4, zr68_5, zr68_7, zr68_8, zr68_9, zr68_12, zr68_13, zr68_14, zr68_22, zr68_23, zr68_24, zr68_26, zr68_35, zr68_36, zr68_37, zr68_38, zr68_39, zr68_40, zr68_41, zr68_42, e_lies, n10, c, w1, h70k, gd]
    refine wpo_mono ref ?_
    intro z hz
    subst hz
    refine ⟨rfl, D, zset A (180 + 0) v, ?_⟩
    have cg : ∀ j, j ≠ 180 + 0 → zset A (180 + 0) v j = A j := fun j hj => zset_ne hj
    refine zChgS hI0 hk (zWF_term hW (by decide) (by omega)) (fun j a b => cg j (by omega)) (cg 186 (by omega)) gB g2 gX (gc 9 (by decide) (by decide) (by decide)) g1 g58 ?_ ?_ zb rfl zx ?_ z68
    · obtain ⟨o1, o2, o3, o4, o5, o6, o7, o8⟩ := hR
      have x2 : X.1 2 = σ.1 2 := gc 2 (by decide) (by decide) (by decide)
      refine ⟨fun j j0 j1 => ?_, fun t t0 t1 => ?_, by rw [x2, cg 184 (by omega)]; exact o3, fun j j0 j1 => ?_, by rw [x2, cg 186 (by omega)]; exact o5, by rw [x2, cg 187 (by omega)]; exact o6, fun j j0 j1 => ?_, by rw [x2, cg 185 (by omega)]; exact o8⟩
      · show X.1 3 j = _ ∧ X.1 4 j = _ ∧ X.1 5 j = _
        rw [gc 3 (by decide) (by decide) (by decide), gc 4 (by decide) (by decide) (by decide), gc 5 (by decide) (by decide) (by decide), cg j (by omega), cg (64 + j) (by omega), ztA_cg (cg 184 (by omega)) (fun t t0 t1 => cg _ (by have := hW.2.1; omega))]
        exact o1 j j0 j1
      · show X.1 6 t = _ ∧ X.1 7 t = _
        rw [gc 6 (by decide) (by decide) (by decide), gc 7 (by decide) (by decide) (by decide), cg _ (by omega), cg (136 + t) (by omega)]
        exact o2 t t0 t1
      · show X.1 8 j = _
        rw [x8]
        by_cases cj : j = 0
        · rw [cj, zset_same, zset_same]
        · rw [zset_ne cj, cg _ (by omega)]; exact o4 j j0 j1
      · show X.1 10 j = _ ∧ X.1 11 j = _ ∧ X.1 12 j = _
        rw [gc 10 (by decide) (by decide) (by decide), gc 11 (by decide) (by decide) (by decide), gc 12 (by decide) (by decide) (by decide), cg _ (by omega), cg (145 + 3 * j) (by omega), cg (146 + 3 * j) (by omega)]
        exact o7 j j0 j1
    · intro j j0 j1
      rw [gc 48 (by decide) (by decide) (by decide)]
      refine ⟨Int.le_refl _, by omega, fun _ s i => ?_⟩
      unfold zWd
      rw [cg 187 (by omega), cg j (by omega), cg (64 + j) (by omega)]
    · refine z70.trans ?_
      show mup X.1 70 180 v 70 = _
      rw [mup_zset, h70x]
      rfl
  · refine zRefu (by' := -1) (m := 1) hI0 hk (by decide) (by decide) (fun rf => ?_) (fun σ1 hB1 _ rf => ?_)
    · unfold M_RW_terms
      simp (maxSteps := 5000000) (disch := first | assumption | omega) only [wpo_bind, wpo_some, wpo_gf, wpo_gk, wpo_ld, wpo_pf, wpo_pz, wpo_sd, wpo_sr, wpo_ln, wpo_idv, wpo_irm, wpo_lrm, wpo_ldv, wpo_cpy, mlet, mnar_int, mup_same, mup_cell, mup_slot, ite_true, ite_false, true_and, and_true, eq_self, or_true, true_or, and_self, Int.reduceLT, Int.reduceLE, Int.reduceEq, Int.reduceNe, Int.reduceAdd, Int.reduceSub, Int.reduceMul, Int.reduceNeg, ne_eq, not_false_eq_true, not_true_eq_false, false_or, or_false, zor_inl, zor_inr, Bool.false_eq_true, false_and, and_false, zk1, zk2, zk3, zk4, zk5, zk6, zk7, zk8, zk9, zk10, zk11, zk12, zk13, zk14, zk15, zk16, zk17, zk18, zk19, zk20, zk21, zk22, zk23, zk24, zk25, zk26, zk27, zk28, zk29, zk30, zk31, zk32, zk33, zk34, zk35, zk36, zk37, zk38, zk39, zk40, zk41, zk42, zk43, zk44, zk45, zk46, zk47, zk48, zk49, zk50, zk51, zk52, zk53, zk54, zk55, zk56, zk57, zk58, zk59, zk60, zk61, zk62, zk63, zk64, zk65, zk66, zk67, zk68, zk69, zk70, zk71, zk72, zk73, zk74, zk75, zk76, zk77, zk78, zk79, zk80, zk81, zk82, zk83, zk84, zk85, zk86, zk87, zk88, zk89, zk90, zr2_0, zr2_1, zr2_2, zr2_3, zr2_4, zr2_6, zr2_7, zr2_10, zr2_11, zr2_12, zr1_0, zr1_1, zr14_0, zr14_1, zr14_2, zr14_3, zr14_4, zr14_6, zr14_7, zr14_10, zr14_11, zr14_12, zr13_0, zr25_0, zr25_1, zr25_2, zr25_3, zr25_4, zr25_6, zr25_7, zr25_10, zr25_11, zr25_12, zr13_1, zr1_2, zr37_0, zr1_3, zr39_0, zr39_1, zr39_2, zr39_5, zr39_7, zr39_8, zr1_4, zr46_1, zr46_2, zr46_3, zr46_4, zr46_0, zr1_5, zr51_2, zr51_10, zr51_0, zr51_1, zr54_1, zr54_2, zr54_3, zr1_6, zr58_1, zr58_2, zr58_3, zr58_0, zr1_7, zr62_2, zr62_3, zr62_0, zr62_1, zr1_8, zr1_9, zr1_10, zr1_15, zr68_2, zr68_3, zr68_4, zr68_5, zr68_7, zr68_8, zr68_9, zr68_12, zr68_13, zr68_14, zr68_22, zr68_23, zr68_24, zr68_26, zr68_35, zr68_36, zr68_37, zr68_38, zr68_39, zr68_40, zr68_41, zr68_42, e_within, n10, k3, v3, c, rf]
    · unfold M_Mo_terms M_Mo_terms_22
      simp (maxSteps := 5000000) (disch := first | assumption | omega) only [wpo_bind, wpo_some, wpo_gf, wpo_gk, wpo_ld, wpo_pf, wpo_pz, wpo_sd, wpo_sr, wpo_ln, wpo_idv, wpo_irm, wpo_lrm, wpo_ldv, wpo_cpy, mlet, mnar_int, mup_same, mup_cell, mup_slot, ite_true, ite_false, true_and, and_true, eq_self, or_true, true_or, and_self, Int.reduceLT, Int.reduceLE, Int.reduceEq, Int.reduceNe, Int.reduceAdd, Int.reduceSub, Int.reduceMul, Int.reduceNeg, ne_eq, not_false_eq_true, not_true_eq_false, false_or, or_false, zor_inl, zor_inr, Bool.false_eq_true, false_and, and_false, zk1, zk2, zk3, zk4, zk5, zk6, zk7, zk8, zk9, zk10, zk11, zk12, zk13, zk14, zk15, zk16, zk17, zk18, zk19, zk20, zk21, zk22, zk23, zk24, zk25, zk26, zk27, zk28, zk29, zk30, zk31, zk32, zk33, zk34, zk35, zk36, zk37, zk38, zk39, zk40, zk41, zk42, zk43, zk44, zk45, zk46, zk47, zk48, zk49, zk50, zk51, zk52, zk53, zk54, zk55, zk56, zk57, zk58, zk59, zk60, zk61, zk62, zk63, zk64, zk65, zk66, zk67, zk68, zk69, zk70, zk71, zk72, zk73, zk74, zk75, zk76, zk77, zk78, zk79, zk80, zk81, zk82, zk83, zk84, zk85, zk86, zk87, zk88, zk89, zk90, zr2_0, zr2_1, zr2_2, zr2_3, zr2_4, zr2_6, zr2_7, zr2_10, zr2_11, zr2_12, zr1_0, zr1_1, zr14_0, zr14_1, zr14_2, zr14_3, zr14_4, zr14_6, zr14_7, zr14_10, zr14_11, zr14_12, zr13_0, zr25_0, zr25_1, zr25_2, zr25_3, zr25_4, zr25_6, zr25_7, zr25_10, zr25_11, zr25_12, zr13_1, zr1_2, zr37_0, zr1_3, zr39_0, zr39_1, zr39_2, zr39_5, zr39_7, zr39_8, zr1_4, zr46_1, zr46_2, zr46_3, zr46_4, zr46_0, zr1_5, zr51_2, zr51_10, zr51_0, zr51_1, zr54_1, zr54_2, zr54_3, zr1_6, zr58_1, zr58_2, zr58_3, zr58_0, zr1_7, zr62_2, zr62_3, zr62_0, zr62_1, zr1_8, zr1_9, zr1_10, zr1_15, zr68_2, zr68_3, zr68_4, zr68_5, zr68_7, zr68_8, zr68_9, zr68_12, zr68_13, zr68_14, zr68_22, zr68_23, zr68_24, zr68_26, zr68_35, zr68_36, zr68_37, zr68_38, zr68_39, zr68_40, zr68_41, zr68_42, e_lies, n10, c, rf]
set_option maxHeartbeats 4000000 in
theorem s_terms1 (k : Nat) (hk : k ≤ 1000) (v : Int) : zStp k (M_RW_terms 1 1 v) (M_Mo_terms 68 1 v) := by
  intro D A σ hI
  have hI0 := hI
  obtain ⟨q1, q2, q3, q4, q5, q6⟩ := hI
  have hB := q1.1.1
  have hW := q1.1.2.1
  have hR := q1.1.2.2.1
  have h70 := q2.2.2.2.1
  have n10 : ¬ (1 : Int) = 0 := by decide
  have k3 : σ.2.1 (-3) = (100, 4) := hB.2.2.2.2.2.1.1
  have v3 : σ.1 (-3) 1 = 9 := hB.2.2.2.2.2.1.2.2.1
  by_cases c : 0 ≤ v ∧ v ≤ 9
  · have vk := q2.2.2.2.2.2.1
    have e8 : σ.1 8 1 = A (180 + 1) := hR.2.2.2.1 1 (by decide) (by decide)
    have e8' : σ.1 8 1 = A 181 := e8
    have b1 := zB_mup (r := 8) (i := 1) (v := v) hB (zokr_arr (by decide +kernel))
    obtain ⟨gB, gX, g1, g58, gY⟩ := zAcc_dev (σ := σ) (Y := (mup σ.1 8 1 v, σ.2)) b1 rfl (fun u a _ => mup_fun (by omega))
    have dev : wpo (M_RW_terms 1 1 v σ) (fun q => q = (A 181, (mup (mup (mup σ.1 8 1 v) 1 14 0) 58 4 0, σ.2))) := by
      have ac := e_accept (v := A 181) b1
      unfold M_RW_terms
      simp (maxSteps := 5000000) (disch := first | assumption | omega) only [wpo_bind, wpo_some, wpo_gf, wpo_gk, wpo_ld, wpo_pf, wpo_pz, wpo_sd, wpo_sr, wpo_ln, wpo_idv, wpo_irm, wpo_lrm, wpo_ldv, wpo_cpy, mlet, mnar_int, mup_same, mup_cell, mup_slot, ite_true, ite_false, true_and, and_true, eq_self, or_true, true_or, and_self, Int.reduceLT, Int.reduceLE, Int.reduceEq, Int.reduceNe, Int.reduceAdd, Int.reduceSub, Int.reduceMul, Int.reduceNeg, ne_eq, not_false_eq_true, not_true_eq_false, false_or, or_false, zor_inl, zor_inr, Bool.false_eq_true, false_and, and_false, zk1, zk2, zk3, zk4, zk5, zk6, zk7, zk8, zk9, zk10, zk11, zk12, zk13, zk14, zk15, zk16, zk17, zk18, zk19, zk20, zk21, zk22, zk23, zk24, zk25, zk26, zk27, zk28, zk29, zk30, zk31, zk32, zk33, zk34, zk35, zk36, zk37, zk38, zk39, zk40, zk41, zk42, zk43, zk44, zk45, zk46, zk47, zk48, zk49, zk50, zk51, zk52, zk53, zk54, zk55, zk56, zk57, zk58, zk59, zk60, zk61, zk62, zk63, zk64, zk65, zk66, zk67, zk68, zk69, zk70, zk71, zk72, zk73, zk74, zk75, zk76, zk77, zk78, zk79, zk80, zk81, zk82, zk83, zk84, zk85, zk86, zk87, zk88, zk89, zk90, zr2_0, zr2_1, zr2_2, zr2_3, zr2_4, zr2_6, zr2_7, zr2_10, zr2_11, zr2_12, zr1_0, zr1_1, zr14_0, zr14_1, zr14_2, zr14_3, zr14_4, zr14_6, zr14_7, zr14_10, zr14_11, zr14_12, zr13_0, zr25_0, zr25_1, zr25_2, zr25_3, zr25_4, zr25_6, zr25_7, zr25_10, zr25_11, zr25_12, zr13_1, zr1_2, zr37_0, zr1_3, zr39_0, zr39_1, zr39_2, zr39_5, zr39_7, zr39_8, zr1_4, zr46_1, zr46_2, zr46_3, zr46_4, zr46_0, zr1_5, zr51_2, zr51_10, zr51_0, zr51_1, zr54_1, zr54_2, zr54_3, zr1_6, zr58_1, zr58_2, zr58_3, zr58_0, zr1_7, zr62_2, zr62_3, zr62_0, zr62_1, zr1_8, zr1_9, zr1_10, zr1_15, zr68_2, zr68_3, zr68_4, zr68_5, zr68_7, zr68_8, zr68_9, zr68_12, zr68_13, zr68_14, zr68_22, zr68_23, zr68_24, zr68_26, zr68_35, zr68_36, zr68_37, zr68_38, zr68_39, zr68_40, zr68_41, zr68_42, e_within, n10, k3, v3, c, e8', ac]
    refine wpo_mono dev ?_
    intro q hq
    subst hq
    have x8 : ((mup (mup (mup σ.1 8 1 v) 1 14 0) 58 4 0, σ.2) : mS).1 8 = zset (σ.1 8) 1 v := by rw [gY 8 (by decide) (by decide)]; show mup σ.1 8 1 v 8 = _; exact mup_zset
    have g2 : ((mup (mup (mup σ.1 8 1 v) 1 14 0) 58 4 0, σ.2) : mS).2 = σ.2 := rfl
    have gc : ∀ u, u ≠ 1 → u ≠ 8 → u ≠ 58 → ((mup (mup (mup σ.1 8 1 v) 1 14 0) 58 4 0, σ.2) : mS).1 u = σ.1 u := fun u a b d => (gY u a d).trans (mup_fun b)
    generalize eX : ((mup (mup (mup σ.1 8 1 v) 1 14 0) 58 4 0, σ.2) : mS) = X at *
    have h70x : X.1 70 = A := (gc 70 (by decide) (by decide) (by decide)).trans h70
    have v68 : X.1 68 = σ.1 68 := gc 68 (by decide) (by decide) (by decide)
    have d1 := zB_mup (r := 70) (i := 181) (v := v) gB (zokr_arr (by decide +kernel))
    obtain ⟨zb, zx, z70, z68⟩ := zAcc_ref (σ := σ) (X := X) (Y := (mup X.1 70 181 v, X.2)) d1 rfl (fun u a => mup_fun a) v68
    have h70k : ∀ j, X.1 70 j = A j := fun j => by rw [h70x]
    have ref : wpo (M_Mo_terms 68 1 v X) (fun z => z = (A 181, (mup (mup (mup X.1 70 181 v) 68 0 0) 68 1 (σ.1 68 1 + 1), X.2))) := by
      have w1 : ∀ u : Int, u = 181 → w32 u = 181 := fun u hu => by rw [w32_in (by omega) (by omega)]; omega
      have e1 : ((mup X.1 70 181 v, X.2) : mS).1 68 1 = σ.1 68 1 := by show mup X.1 70 181 v 68 1 = _; rw [mup_cell (by decide), v68]
      have gd := f_good (v := A 181) d1 (by rw [e1]; exact vk)
      rw [e1] at gd
      unfold M_Mo_terms M_Mo_terms_22
      simp (maxSteps := 5000000) (disch := first | assumption | omega) only [wpo_bind, wpo_some, wpo_gf, wpo_gk, wpo_ld, wpo_pf, wpo_pz, wpo_sd, wpo_sr, wpo_ln, wpo_idv, wpo_irm, wpo_lrm, wpo_ldv, wpo_cpy, mlet, mnar_int, mup_same, mup_cell, mup_slot, ite_true, ite_false, true_and, and_true, eq_self, or_true, true_or, and_self, Int.reduceLT, Int.reduceLE, Int.reduceEq, Int.reduceNe, Int.reduceAdd, Int.reduceSub, Int.reduceMul, Int.reduceNeg, ne_eq, not_false_eq_true, not_true_eq_false, false_or, or_false, zor_inl, zor_inr, Bool.false_eq_true, false_and, and_false, zk1, zk2, zk3, zk4, zk5, zk6, zk7, zk8, zk9, zk10, zk11, zk12, zk13, zk14, zk15, zk16, zk17, zk18, zk19, zk20, zk21, zk22, zk23, zk24, zk25, zk26, zk27, zk28, zk29, zk30, zk31, zk32, zk33, zk34, zk35, zk36, zk37, zk38, zk39, zk40, zk41, zk42, zk43, zk44, zk45, zk46, zk47, zk48, zk49, zk50, zk51, zk52, zk53, zk54, zk55, zk56, zk57, zk58, zk59, zk60, zk61, zk62, zk63, zk64, zk65, zk66, zk67, zk68, zk69, zk70, zk71, zk72, zk73, zk74, zk75, zk76, zk77, zk78, zk79, zk80, zk81, zk82, zk83, zk84, zk85, zk86, zk87, zk88, zk89, zk90, zr2_0, zr2_1, zr2_2, zr2_3, zr2_4, zr2_6, zr2_7, zr2_10, zr2_11, zr2_12, zr1_0, zr1_1, zr14_0, zr14_1, zr14_2, zr14_3, zr14_4, zr14_6, zr14_7, zr14_10, zr14_11, zr14_12, zr13_0, zr25_0, zr25_1, zr25_2, zr25_3, zr25_4, zr25_6, zr25_7, zr25_10, zr25_11, zr25_12, zr13_1, zr1_2, zr37_0, zr1_3, zr39_0, zr39_1, zr39_2, zr39_5, zr39_7, zr39_8, zr1_4, zr46_1, zr46_2, zr46_3, zr46_4, zr46_0, zr1_5, zr51_2, zr51_10, zr51_0, zr51_1, zr54_1, zr54_2, zr54_3, zr1_6, zr58_1, zr58_2, zr58_3, zr58_0, zr1_7, zr62_2, zr62_3, zr62_0, zr62_1, zr1_8, zr1_9, zr1_10, zr1_15, zr68_2, zr68_3, zr68_4, zr68_5, zr68_7, zr68_8, zr68_9, zr68_12, zr68_13, zr68_14, zr68_22, zr68_23, zr68_24, zr68_26, zr68_35, zr68_36, zr68_37, zr68_38, zr68_39, zr68_40, zr68_41, zr68_42, e_lies, n10, c, w1, h70k, gd]
    refine wpo_mono ref ?_
    intro z hz
    subst hz
    refine ⟨rfl, D, zset A (180 + 1) v, ?_⟩
    have cg : ∀ j, j ≠ 180 + 1 → zset A (180 + 1) v j = A j := fun j hj => zset_ne hj
    refine zChgS hI0 hk (zWF_term hW (by decide) (by omega)) (fun j a b => cg j (by omega)) (cg 186 (by omega)) gB g2 gX (gc 9 (by decide) (by decide) (by decide)) g1 g58 ?_ ?_ zb rfl zx ?_ z68
    · obtain ⟨o1, o2, o3, o4, o5, o6, o7, o8⟩ := hR
      have x2 : X.1 2 = σ.1 2 := gc 2 (by decide) (by decide) (by decide)
      refine ⟨fun j j0 j1 => ?_, fun t t0 t1 => ?_, by rw [x2, cg 184 (by omega)]; exact o3, fun j j0 j1 => ?_, by rw [x2, cg 186 (by omega)]; exact o5, by rw [x2, cg 187 (by omega)]; exact o6, fun j j0 j1 => ?_, by rw [x2, cg 185 (by omega)]; exact o8⟩
      · show X.1 3 j = _ ∧ X.1 4 j = _ ∧ X.1 5 j = _
        rw [gc 3 (by decide) (by decide) (by decide), gc 4 (by decide) (by decide) (by decide), gc 5 (by decide) (by decide) (by decide), cg j (by omega), cg (64 + j) (by omega), ztA_cg (cg 184 (by omega)) (fun t t0 t1 => cg _ (by have := hW.2.1; omega))]
        exact o1 j j0 j1
      · show X.1 6 t = _ ∧ X.1 7 t = _
        rw [gc 6 (by decide) (by decide) (by decide), gc 7 (by decide) (by decide) (by decide), cg _ (by omega), cg (136 + t) (by omega)]
        exact o2 t t0 t1
      · show X.1 8 j = _
        rw [x8]
        by_cases cj : j = 1
        · rw [cj, zset_same, zset_same]
        · rw [zset_ne cj, cg _ (by omega)]; exact o4 j j0 j1
      · show X.1 10 j = _ ∧ X.1 11 j = _ ∧ X.1 12 j = _
        rw [gc 10 (by decide) (by decide) (by decide), gc 11 (by decide) (by decide) (by decide), gc 12 (by decide) (by decide) (by decide), cg _ (by omega), cg (145 + 3 * j) (by omega), cg (146 + 3 * j) (by omega)]
        exact o7 j j0 j1
    · intro j j0 j1
      rw [gc 48 (by decide) (by decide) (by decide)]
      refine ⟨Int.le_refl _, by omega, fun _ s i => ?_⟩
      unfold zWd
      rw [cg 187 (by omega), cg j (by omega), cg (64 + j) (by omega)]
    · refine z70.trans ?_
      show mup X.1 70 181 v 70 = _
      rw [mup_zset, h70x]
      rfl
  · refine zRefu (by' := -1) (m := 1) hI0 hk (by decide) (by decide) (fun rf => ?_) (fun σ1 hB1 _ rf => ?_)
    · unfold M_RW_terms
      simp (maxSteps := 5000000) (disch := first | assumption | omega) only [wpo_bind, wpo_some, wpo_gf, wpo_gk, wpo_ld, wpo_pf, wpo_pz, wpo_sd, wpo_sr, wpo_ln, wpo_idv, wpo_irm, wpo_lrm, wpo_ldv, wpo_cpy, mlet, mnar_int, mup_same, mup_cell, mup_slot, ite_true, ite_false, true_and, and_true, eq_self, or_true, true_or, and_self, Int.reduceLT, Int.reduceLE, Int.reduceEq, Int.reduceNe, Int.reduceAdd, Int.reduceSub, Int.reduceMul, Int.reduceNeg, ne_eq, not_false_eq_true, not_true_eq_false, false_or, or_false, zor_inl, zor_inr, Bool.false_eq_true, false_and, and_false, zk1, zk2, zk3, zk4, zk5, zk6, zk7, zk8, zk9, zk10, zk11, zk12, zk13, zk14, zk15, zk16, zk17, zk18, zk19, zk20, zk21, zk22, zk23, zk24, zk25, zk26, zk27, zk28, zk29, zk30, zk31, zk32, zk33, zk34, zk35, zk36, zk37, zk38, zk39, zk40, zk41, zk42, zk43, zk44, zk45, zk46, zk47, zk48, zk49, zk50, zk51, zk52, zk53, zk54, zk55, zk56, zk57, zk58, zk59, zk60, zk61, zk62, zk63, zk64, zk65, zk66, zk67, zk68, zk69, zk70, zk71, zk72, zk73, zk74, zk75, zk76, zk77, zk78, zk79, zk80, zk81, zk82, zk83, zk84, zk85, zk86, zk87, zk88, zk89, zk90, zr2_0, zr2_1, zr2_2, zr2_3, zr2_4, zr2_6, zr2_7, zr2_10, zr2_11, zr2_12, zr1_0, zr1_1, zr14_0, zr14_1, zr14_2, zr14_3, zr14_4, zr14_6, zr14_7, zr14_10, zr14_11, zr14_12, zr13_0, zr25_0, zr25_1, zr25_2, zr25_3, zr25_4, zr25_6, zr25_7, zr25_10, zr25_11, zr25_12, zr13_1, zr1_2, zr37_0, zr1_3, zr39_0, zr39_1, zr39_2, zr39_5, zr39_7, zr39_8, zr1_4, zr46_1, zr46_2, zr46_3, zr46_4, zr46_0, zr1_5, zr51_2, zr51_10, zr51_0, zr51_1, zr54_1, zr54_2, zr54_3, zr1_6, zr58_1, zr58_2, zr58_3, zr58_0, zr1_7, zr62_2, zr62_3, zr62_0, zr62_1, zr1_8, zr1_9, zr1_10, zr1_15, zr68_2, zr68_3, zr68_4, zr68_5, zr68_7, zr68_8, zr68_9, zr68_12, zr68_13, zr68_14, zr68_22, zr68_23, zr68_24, zr68_26, zr68_35, zr68_36, zr68_37, zr68_38, zr68_39, zr68_40, zr68_41, zr68_42, e_within, n10, k3, v3, c, rf]
    · unfold M_Mo_terms M_Mo_terms_22
      simp (maxSteps := 5000000) (disch := first | assumption | omega) only [wpo_bind, wpo_some, wpo_gf, wpo_gk, wpo_ld, wpo_pf, wpo_pz, wpo_sd, wpo_sr, wpo_ln, wpo_idv, wpo_irm, wpo_lrm, wpo_ldv, wpo_cpy, mlet, mnar_int, mup_same, mup_cell, mup_slot, ite_true, ite_false, true_and, and_true, eq_self, or_true, true_or, and_self, Int.reduceLT, Int.reduceLE, Int.reduceEq, Int.reduceNe, Int.reduceAdd, Int.reduceSub, Int.reduceMul, Int.reduceNeg, ne_eq, not_false_eq_true, not_true_eq_false, false_or, or_false, zor_inl, zor_inr, Bool.false_eq_true, false_and, and_false, zk1, zk2, zk3, zk4, zk5, zk6, zk7, zk8, zk9, zk10, zk11, zk12, zk13, zk14, zk15, zk16, zk17, zk18, zk19, zk20, zk21, zk22, zk23, zk24, zk25, zk26, zk27, zk28, zk29, zk30, zk31, zk32, zk33, zk34, zk35, zk36, zk37, zk38, zk39, zk40, zk41, zk42, zk43, zk44, zk45, zk46, zk47, zk48, zk49, zk50, zk51, zk52, zk53, zk54, zk55, zk56, zk57, zk58, zk59, zk60, zk61, zk62, zk63, zk64, zk65, zk66, zk67, zk68, zk69, zk70, zk71, zk72, zk73, zk74, zk75, zk76, zk77, zk78, zk79, zk80, zk81, zk82, zk83, zk84, zk85, zk86, zk87, zk88, zk89, zk90, zr2_0, zr2_1, zr2_2, zr2_3, zr2_4, zr2_6, zr2_7, zr2_10, zr2_11, zr2_12, zr1_0, zr1_1, zr14_0, zr14_1, zr14_2, zr14_3, zr14_4, zr14_6, zr14_7, zr14_10, zr14_11, zr14_12, zr13_0, zr25_0, zr25_1, zr25_2, zr25_3, zr25_4, zr25_6, zr25_7, zr25_10, zr25_11, zr25_12, zr13_1, zr1_2, zr37_0, zr1_3, zr39_0, zr39_1, zr39_2, zr39_5, zr39_7, zr39_8, zr1_4, zr46_1, zr46_2, zr46_3, zr46_4, zr46_0, zr1_5, zr51_2, zr51_10, zr51_0, zr51_1, zr54_1, zr54_2, zr54_3, zr1_6, zr58_1, zr58_2, zr58_3, zr58_0, zr1_7, zr62_2, zr62_3, zr62_0, zr62_1, zr1_8, zr1_9, zr1_10, zr1_15, zr68_2, zr68_3, zr68_4, zr68_5, zr68_7, zr68_8, zr68_9, zr68_12, zr68_13, zr68_14, zr68_22, zr68_23, zr68_24, zr68_26, zr68_35, zr68_36, zr68_37, zr68_38, zr68_39, zr68_40, zr68_41, zr68_42, e_lies, n10, c, rf]
set_option maxHeartbeats 4000000 in
theorem s_terms2 (k : Nat) (hk : k ≤ 1000) (v : Int) : zStp k (M_RW_terms 1 2 v) (M_Mo_terms 68 2 v) := by
  intro D A σ hI
  have hI0 := hI
  obtain ⟨q1, q2, q3, q4, q5, q6⟩ := hI
  have hB := q1.1.1
  have hW := q1.1.2.1
  have hR := q1.1.2.2.1
  have h70 := q2.2.2.2.1
  have n10 : ¬ (1 : Int) = 0 := by decide
  have k3 : σ.2.1 (-3) = (100, 4) := hB.2.2.2.2.2.1.1
  have v3 : σ.1 (-3) 2 = 63 := hB.2.2.2.2.2.1.2.2.2.1
  by_cases c : 0 ≤ v ∧ v ≤ 63
  · have vk := q2.2.2.2.2.2.1
    have e8 : σ.1 8 2 = A (180 + 2) := hR.2.2.2.1 2 (by decide) (by decide)
    have e8' : σ.1 8 2 = A 182 := e8
    have b1 := zB_mup (r := 8) (i := 2) (v := v) hB (zokr_arr (by decide +kernel))
    obtain ⟨gB, gX, g1, g58, gY⟩ := zAcc_dev (σ := σ) (Y := (mup σ.1 8 2 v, σ.2)) b1 rfl (fun u a _ => mup_fun (by omega))
    have dev : wpo (M_RW_terms 1 2 v σ) (fun q => q = (A 182, (mup (mup (mup σ.1 8 2 v) 1 14 0) 58 4 0, σ.2))) := by
      have ac := e_accept (v := A 182) b1
      unfold M_RW_terms
      simp (maxSteps := 5000000) (disch := first | assumption | omega) only [wpo_bind, wpo_some, wpo_gf, wpo_gk, wpo_ld, wpo_pf, wpo_pz, wpo_sd, wpo_sr, wpo_ln, wpo_idv, wpo_irm, wpo_lrm, wpo_ldv, wpo_cpy, mlet, mnar_int, mup_same, mup_cell, mup_slot, ite_true, ite_false, true_and, and_true, eq_self, or_true, true_or, and_self, Int.reduceLT, Int.reduceLE, Int.reduceEq, Int.reduceNe, Int.reduceAdd, Int.reduceSub, Int.reduceMul, Int.reduceNeg, ne_eq, not_false_eq_true, not_true_eq_false, false_or, or_false, zor_inl, zor_inr, Bool.false_eq_true, false_and, and_false, zk1, zk2, zk3, zk4, zk5, zk6, zk7, zk8, zk9, zk10, zk11, zk12, zk13, zk14, zk15, zk16, zk17, zk18, zk19, zk20, zk21, zk22, zk23, zk24, zk25, zk26, zk27, zk28, zk29, zk30, zk31, zk32, zk33, zk34, zk35, zk36, zk37, zk38, zk39, zk40, zk41, zk42, zk43, zk44, zk45, zk46, zk47, zk48, zk49, zk50, zk51, zk52, zk53, zk54, zk55, zk56, zk57, zk58, zk59, zk60, zk61, zk62, zk63, zk64, zk65, zk66, zk67, zk68, zk69, zk70, zk71, zk72, zk73, zk74, zk75, zk76, zk77, zk78, zk79, zk80, zk81, zk82, zk83, zk84, zk85, zk86, zk87, zk88, zk89, zk90, zr2_0, zr2_1, zr2_2, zr2_3, zr2_4, zr2_6, zr2_7, zr2_10, zr2_11, zr2_12, zr1_0, zr1_1, zr14_0, zr14_1, zr14_2, zr14_3, zr14_4, zr14_6, zr14_7, zr14_10, zr14_11, zr14_12, zr13_0, zr25_0, zr25_1, zr25_2, zr25_3, zr25_4, zr25_6, zr25_7, zr25_10, zr25_11, zr25_12, zr13_1, zr1_2, zr37_0, zr1_3, zr39_0, zr39_1, zr39_2, zr39_5, zr39_7, zr39_8, zr1_4, zr46_1, zr46_2, zr46_3, zr46_4, zr46_0, zr1_5, zr51_2, zr51_10, zr51_0, zr51_1, zr54_1, zr54_2, zr54_3, zr1_6, zr58_1, zr58_2, zr58_3, zr58_0, zr1_7, zr62_2, zr62_3, zr62_0, zr62_1, zr1_8, zr1_9, zr1_10, zr1_15, zr68_2, zr68_3, zr68_4, zr68_5, zr68_7, zr68_8, zr68_9, zr68_12, zr68_13, zr68_14, zr68_22, zr68_23, zr68_24, zr68_26, zr68_35, zr68_36, zr68_37, zr68_38, zr68_39, zr68_40, zr68_41, zr68_42, e_within, n10, k3, v3, c, e8', ac]
    refine wpo_mono dev ?_
    intro q hq
    subst hq
    have x8 : ((mup (mup (mup σ.1 8 2 v) 1 14 0) 58 4 0, σ.2) : mS).1 8 = zset (σ.1 8) 2 v := by rw [gY 8 (by decide) (by decide)]; show mup σ.1 8 2 v 8 = _; exact mup_zset
    have g2 : ((mup (mup (mup σ.1 8 2 v) 1 14 0) 58 4 0, σ.2) : mS).2 = σ.2 := rfl
    have gc : ∀ u, u ≠ 1 → u ≠ 8 → u ≠ 58 → ((mup (mup (mup σ.1 8 2 v) 1 14 0) 58 4 0, σ.2) : mS).1 u = σ.1 u := fun u a b d => (gY u a d).trans (mup_fun b)
    generalize eX : ((mup (mup (mup σ.1 8 2 v) 1 14 0) 58 4 0, σ.2) : mS) = X at *
    have h70x : X.1 70 = A := (gc 70 (by decide) (by decide) (by decide)).trans h70
    have v68 : X.1 68 = σ.1 68 := gc 68 (by decide) (by decide) (by decide)
    have d1 := zB_mup (r := 70) (i := 182) (v := v) gB (zokr_arr (by decide +kernel))
    obtain ⟨zb, zx, z70, z68⟩ := zAcc_ref (σ := σ) (X := X) (Y := (mup X.1 70 182 v, X.2)) d1 rfl (fun u a => mup_fun a) v68
    have h70k : ∀ j, X.1 70 j = A j := fun j => by rw [h70x]
    have ref : wpo (M_Mo_terms 68 2 v X) (fun z => z = (A 182, (mup (mup (mup X.1 70 182 v) 68 0 0) 68 1 (σ.1 68 1 + 1), X.2))) := by
      have w1 : ∀ u : Int, u = 182 → w32 u = 182 := fun u hu => by rw [w32_in (by omega) (by omega)]; omega
      have e1 : ((mup X.1 70 182 v, X.2) : mS).1 68 1 = σ.1 68 1 := by show mup X.1 70 182 v 68 1 = _; rw [mup_cell (by decide), v68]
      have gd := f_good (v := A 182) d1 (by rw [e1]; exact vk)
      rw [e1] at gd
      unfold M_Mo_terms M_Mo_terms_22
      simp (maxSteps := 5000000) (disch := first | assumption | omega) only [wpo_bind, wpo_some, wpo_gf, wpo_gk, wpo_ld, wpo_pf, wpo_pz, wpo_sd, wpo_sr, wpo_ln, wpo_idv, wpo_irm, wpo_lrm, wpo_ldv, wpo_cpy, mlet, mnar_int, mup_same, mup_cell, mup_slot, ite_true, ite_false, true_and, and_true, eq_self, or_true, true_or, and_self, Int.reduceLT, Int.reduceLE, Int.reduceEq, Int.reduceNe, Int.reduceAdd, Int.reduceSub, Int.reduceMul, Int.reduceNeg, ne_eq, not_false_eq_true, not_true_eq_false, false_or, or_false, zor_inl, zor_inr, Bool.false_eq_true, false_and, and_false, zk1, zk2, zk3, zk4, zk5, zk6, zk7, zk8, zk9, zk10, zk11, zk12, zk13, zk14, zk15, zk16, zk17, zk18, zk19, zk20, zk21, zk22, zk23, zk24, zk25, zk26, zk27, zk28, zk29, zk30, zk31, zk32, zk33, zk34, zk35, zk36, zk37, zk38, zk39, zk40, zk41, zk42, zk43, zk44, zk45, zk46, zk47, zk48, zk49, zk50, zk51, zk52, zk53, zk54, zk55, zk56, zk57, zk58, zk59, zk60, zk61, zk62, zk63, zk64, zk65, zk66, zk67, zk68, zk69, zk70, zk71, zk72, zk73, zk74, zk75, zk76, zk77, zk78, zk79, zk80, zk81, zk82, zk83, zk84, zk85, zk86, zk87, zk88, zk89, zk90, zr2_0, zr2_1, zr2_2, zr2_3, zr2_4, zr2_6, zr2_7, zr2_10, zr2_11, zr2_12, zr1_0, zr1_1, zr14_0, zr14_1, zr14_2, zr14_3, zr14_4, zr14_6, zr14_7, zr14_10, zr14_11, zr14_12, zr13_0, zr25_0, zr25_1, zr25_2, zr25_3, zr25_4, zr25_6, zr25_7, zr25_10, zr25_11, zr25_12, zr13_1, zr1_2, zr37_0, zr1_3, zr39_0, zr39_1, zr39_2, zr39_5, zr39_7, zr39_8, zr1_4, zr46_1, zr46_2, zr46_3, zr46_4, zr46_0, zr1_5, zr51_2, zr51_10, zr51_0, zr51_1, zr54_1, zr54_2, zr54_3, zr1_6, zr58_1, zr58_2, zr58_3, zr58_0, zr1_7, zr62_2, zr62_3, zr62_0, zr62_1, zr1_8, zr1_9, zr1_10, zr1_15, zr68_2, zr68_3, zr68_4, zr68_5, zr68_7, zr68_8, zr68_9, zr68_12, zr68_13, zr68_14, zr68_22, zr68_23, zr68_24, zr68_26, zr68_35, zr68_36, zr68_37, zr68_38, zr68_39, zr68_40, zr68_41, zr68_42, e_lies, n10, c, w1, h70k, gd]
    refine wpo_mono ref ?_
    intro z hz
    subst hz
    refine ⟨rfl, D, zset A (180 + 2) v, ?_⟩
    have cg : ∀ j, j ≠ 180 + 2 → zset A (180 + 2) v j = A j := fun j hj => zset_ne hj
    refine zChgS hI0 hk (zWF_term hW (by decide) (by omega)) (fun j a b => cg j (by omega)) (cg 186 (by omega)) gB g2 gX (gc 9 (by decide) (by decide) (by decide)) g1 g58 ?_ ?_ zb rfl zx ?_ z68
    · obtain ⟨o1, o2, o3, o4, o5, o6, o7, o8⟩ := hR
      have x2 : X.1 2 = σ.1 2 := gc 2 (by decide) (by decide) (by decide)
      refine ⟨fun j j0 j1 => ?_, fun t t0 t1 => ?_, by rw [x2, cg 184 (by omega)]; exact o3, fun j j0 j1 => ?_, by rw [x2, cg 186 (by omega)]; exact o5, by rw [x2, cg 187 (by omega)]; exact o6, fun j j0 j1 => ?_, by rw [x2, cg 185 (by omega)]; exact o8⟩
      · show X.1 3 j = _ ∧ X.1 4 j = _ ∧ X.1 5 j = _
        rw [gc 3 (by decide) (by decide) (by decide), gc 4 (by decide) (by decide) (by decide), gc 5 (by decide) (by decide) (by decide), cg j (by omega), cg (64 + j) (by omega), ztA_cg (cg 184 (by omega)) (fun t t0 t1 => cg _ (by have := hW.2.1; omega))]
        exact o1 j j0 j1
      · show X.1 6 t = _ ∧ X.1 7 t = _
        rw [gc 6 (by decide) (by decide) (by decide), gc 7 (by decide) (by decide) (by decide), cg _ (by omega), cg (136 + t) (by omega)]
        exact o2 t t0 t1
      · show X.1 8 j = _
        rw [x8]
        by_cases cj : j = 2
        · rw [cj, zset_same, zset_same]
        · rw [zset_ne cj, cg _ (by omega)]; exact o4 j j0 j1
      · show X.1 10 j = _ ∧ X.1 11 j = _ ∧ X.1 12 j = _
        rw [gc 10 (by decide) (by decide) (by decide), gc 11 (by decide) (by decide) (by decide), gc 12 (by decide) (by decide) (by decide), cg _ (by omega), cg (145 + 3 * j) (by omega), cg (146 + 3 * j) (by omega)]
        exact o7 j j0 j1
    · intro j j0 j1
      rw [gc 48 (by decide) (by decide) (by decide)]
      refine ⟨Int.le_refl _, by omega, fun _ s i => ?_⟩
      unfold zWd
      rw [cg 187 (by omega), cg j (by omega), cg (64 + j) (by omega)]
    · refine z70.trans ?_
      show mup X.1 70 182 v 70 = _
      rw [mup_zset, h70x]
      rfl
  · refine zRefu (by' := -1) (m := 1) hI0 hk (by decide) (by decide) (fun rf => ?_) (fun σ1 hB1 _ rf => ?_)
    · unfold M_RW_terms
      simp (maxSteps := 5000000) (disch := first | assumption | omega) only [wpo_bind, wpo_some, wpo_gf, wpo_gk, wpo_ld, wpo_pf, wpo_pz, wpo_sd, wpo_sr, wpo_ln, wpo_idv, wpo_irm, wpo_lrm, wpo_ldv, wpo_cpy, mlet, mnar_int, mup_same, mup_cell, mup_slot, ite_true, ite_false, true_and, and_true, eq_self, or_true, true_or, and_self, Int.reduceLT, Int.reduceLE, Int.reduceEq, Int.reduceNe, Int.reduceAdd, Int.reduceSub, Int.reduceMul, Int.reduceNeg, ne_eq, not_false_eq_true, not_true_eq_false, false_or, or_false, zor_inl, zor_inr, Bool.false_eq_true, false_and, and_false, zk1, zk2, zk3, zk4, zk5, zk6, zk7, zk8, zk9, zk10, zk11, zk12, zk13, zk14, zk15, zk16, zk17, zk18, zk19, zk20, zk21, zk22, zk23, zk24, zk25, zk26, zk27, zk28, zk29, zk30, zk31, zk32, zk33, zk34, zk35, zk36, zk37, zk38, zk39, zk40, zk41, zk42, zk43, zk44, zk45, zk46, zk47, zk48, zk49, zk50, zk51, zk52, zk53, zk54, zk55, zk56, zk57, zk58, zk59, zk60, zk61, zk62, zk63, zk64, zk65, zk66, zk67, zk68, zk69, zk70, zk71, zk72, zk73, zk74, zk75, zk76, zk77, zk78, zk79, zk80, zk81, zk82, zk83, zk84, zk85, zk86, zk87, zk88, zk89, zk90, zr2_0, zr2_1, zr2_2, zr2_3, zr2_4, zr2_6, zr2_7, zr2_10, zr2_11, zr2_12, zr1_0, zr1_1, zr14_0, zr14_1, zr14_2, zr14_3, zr14_4, zr14_6, zr14_7, zr14_10, zr14_11, zr14_12, zr13_0, zr25_0, zr25_1, zr25_2, zr25_3, zr25_4, zr25_6, zr25_7, zr25_10, zr25_11, zr25_12, zr13_1, zr1_2, zr37_0, zr1_3, zr39_0, zr39_1, zr39_2, zr39_5, zr39_7, zr39_8, zr1_4, zr46_1, zr46_2, zr46_3, zr46_4, zr46_0, zr1_5, zr51_2, zr51_10, zr51_0, zr51_1, zr54_1, zr54_2, zr54_3, zr1_6, zr58_1, zr58_2, zr58_3, zr58_0, zr1_7, zr62_2, zr62_3, zr62_0, zr62_1, zr1_8, zr1_9, zr1_10, zr1_15, zr68_2, zr68_3, zr68_4, zr68_5, zr68_7, zr68_8, zr68_9, zr68_12, zr68_13, zr68_14, zr68_22, zr68_23, zr68_24, zr68_26, zr68_35, zr68_36, zr68_37, zr68_38, zr68_39, zr68_40, zr68_41, zr68_42, e_within, n10, k3, v3, c, rf]
    · unfold M_Mo_terms M_Mo_terms_22
      simp (maxSteps := 5000000) (disch := first | assumption | omega) only [wpo_bind, wpo_some, wpo_gf, wpo_gk, wpo_ld, wpo_pf, wpo_pz, wpo_sd, wpo_sr, wpo_ln, wpo_idv, wpo_irm, wpo_lrm, wpo_ldv, wpo_cpy, mlet, mnar_int, mup_same, mup_cell, mup_slot, ite_true, ite_false, true_and, and_true, eq_self, or_true, true_or, and_self, Int.reduceLT, Int.reduceLE, Int.reduceEq, Int.reduceNe, Int.reduceAdd, Int.reduceSub, Int.reduceMul, Int.reduceNeg, ne_eq, not_false_eq_true, not_true_eq_false, false_or, or_false, zor_inl, zor_inr, Bool.false_eq_true, false_and, and_false, zk1, zk2, zk3, zk4, zk5, zk6, zk7, zk8, zk9, zk10, zk11, zk12, zk13, zk14, zk15, zk16, zk17, zk18, zk19, zk20, zk21, zk22, zk23, zk24, zk25, zk26, zk27, zk28, zk29, zk30, zk31, zk32, zk33, zk34, zk35, zk36, zk37, zk38, zk39, zk40, zk41, zk42, zk43, zk44, zk45, zk46, zk47, zk48, zk49, zk50, zk51, zk52, zk53, zk54, zk55, zk56, zk57, zk58, zk59, zk60, zk61, zk62, zk63, zk64, zk65, zk66, zk67, zk68, zk69, zk70, zk71, zk72, zk73, zk74, zk75, zk76, zk77, zk78, zk79, zk80, zk81, zk82, zk83, zk84, zk85, zk86, zk87, zk88, zk89, zk90, zr2_0, zr2_1, zr2_2, zr2_3, zr2_4, zr2_6, zr2_7, zr2_10, zr2_11, zr2_12, zr1_0, zr1_1, zr14_0, zr14_1, zr14_2, zr14_3, zr14_4, zr14_6, zr14_7, zr14_10, zr14_11, zr14_12, zr13_0, zr25_0, zr25_1, zr25_2, zr25_3, zr25_4, zr25_6, zr25_7, zr25_10, zr25_11, zr25_12, zr13_1, zr1_2, zr37_0, zr1_3, zr39_0, zr39_1, zr39_2, zr39_5, zr39_7, zr39_8, zr1_4, zr46_1, zr46_2, zr46_3, zr46_4, zr46_0, zr1_5, zr51_2, zr51_10, zr51_0, zr51_1, zr54_1, zr54_2, zr54_3, zr1_6, zr58_1, zr58_2, zr58_3, zr58_0, zr1_7, zr62_2, zr62_3, zr62_0, zr62_1, zr1_8, zr1_9, zr1_10, zr1_15, zr68_2, zr68_3, zr68_4, zr68_5, zr68_7, zr68_8, zr68_9, zr68_12, zr68_13, zr68_14, zr68_22, zr68_23, zr68_24, zr68_26, zr68_35, zr68_36, zr68_37, zr68_38, zr68_39, zr68_40, zr68_41, zr68_42, e_lies, n10, c, rf]
set_option maxHeartbeats 4000000 in
theorem s_terms3 (k : Nat) (hk : k ≤ 1000) (v : Int) : zStp k (M_RW_terms 1 3 v) (M_Mo_terms 68 3 v) := by
  intro D A σ hI
  have hI0 := hI
  obtain ⟨q1, q2, q3, q4, q5, q6⟩ := hI
  have hB := q1.1.1
  have hW := q1.1.2.1
  have hR := q1.1.2.2.1
  have h70 := q2.2.2.2.1
  have n10 : ¬ (1 : Int) = 0 := by decide
  have k3 : σ.2.1 (-3) = (100, 4) := hB.2.2.2.2.2.1.1
  have v3 : σ.1 (-3) 3 = 31 := hB.2.2.2.2.2.1.2.2.2.2
  by_cases c : 0 ≤ v ∧ v ≤ 31
  · have vk := q2.2.2.2.2.2.1
    have e8 : σ.1 8 3 = A (180 + 3) := hR.2.2.2.1 3 (by decide) (by decide)
    have e8' : σ.1 8 3 = A 183 := e8
    have b1 := zB_mup (r := 8) (i := 3) (v := v) hB (zokr_arr (by decide +kernel))
    obtain ⟨gB, gX, g1, g58, gY⟩ := zAcc_dev (σ := σ) (Y := (mup σ.1 8 3 v, σ.2)) b1 rfl (fun u a _ => mup_fun (by omega))
    have dev : wpo (M_RW_terms 1 3 v σ) (fun q => q = (A 183, (mup (mup (mup σ.1 8 3 v) 1 14 0) 58 4 0, σ.2))) := by
      have ac := e_accept (v := A 183) b1
      unfold M_RW_terms
      simp (maxSteps := 5000000) (disch := first | assumption | omega) only [wpo_bind, wpo_some, wpo_gf, wpo_gk, wpo_ld, wpo_pf, wpo_pz, wpo_sd, wpo_sr, wpo_ln, wpo_idv, wpo_irm, wpo_lrm, wpo_ldv, wpo_cpy, mlet, mnar_int, mup_same, mup_cell, mup_slot, ite_true, ite_false, true_and, and_true, eq_self, or_true, true_or, and_self, Int.reduceLT, Int.reduceLE, Int.reduceEq, Int.reduceNe, Int.reduceAdd, Int.reduceSub, Int.reduceMul, Int.reduceNeg, ne_eq, not_false_eq_true, not_true_eq_false, false_or, or_false, zor_inl, zor_inr, Bool.false_eq_true, false_and, and_false, zk1, zk2, zk3, zk4, zk5, zk6, zk7, zk8, zk9, zk10, zk11, zk12, zk13, zk14, zk15, zk16, zk17, zk18, zk19, zk20, zk21, zk22, zk23, zk24, zk25, zk26, zk27, zk28, zk29, zk30, zk31, zk32, zk33, zk34, zk35, zk36, zk37, zk38, zk39, zk40, zk41, zk42, zk43, zk44, zk45, zk46, zk47, zk48, zk49, zk50, zk51, zk52, zk53, zk54, zk55, zk56, zk57, zk58, zk59, zk60, zk61, zk62, zk63, zk64, zk65, zk66, zk67, zk68, zk69, zk70, zk71, zk72, zk73, zk74, zk75, zk76, zk77, zk78, zk79, zk80, zk81, zk82, zk83, zk84, zk85, zk86, zk87, zk88, zk89, zk90, zr2_0, zr2_1, zr2_2, zr2_3, zr2_4, zr2_6, zr2_7, zr2_10, zr2_11, zr2_12, zr1_0, zr1_1, zr14_0, zr14_1, zr14_2, zr14_3, zr14_4, zr14_6, zr14_7, zr14_10, zr14_11, zr14_12, zr13_0, zr25_0, zr25_1, zr25_2, zr25_3, zr25_4, zr25_6, zr25_7, zr25_10, zr25_11, zr25_12, zr13_1, zr1_2, zr37_0, zr1_3, zr39_0, zr39_1, zr39_2, zr39_5, zr39_7, zr39_8, zr1_4, zr46_1, zr46_2, zr46_3, zr46_4, zr46_0, zr1_5, zr51_2, zr51_10, zr51_0, zr51_1, zr54_1, zr54_2, zr54_3, zr1_6, zr58_1, zr58_2, zr58_3, zr58_0, zr1_7, zr62_2, zr62_3, zr62_0, zr62_1, zr1_8, zr1_9, zr1_10, zr1_15, zr68_2, zr68_3, zr68_4, zr68_5, zr68_7, zr68_8, zr68_9, zr68_12, zr68_13, zr68_14, zr68_22, zr68_23, zr68_24, zr68_26, zr68_35, zr68_36, zr68_37, zr68_38, zr68_39, zr68_40, zr68_41, zr68_42, e_within, n10, k3, v3, c, e8', ac]
    refine wpo_mono dev ?_
    intro q hq
    subst hq
    have x8 : ((mup (mup (mup σ.1 8 3 v) 1 14 0) 58 4 0, σ.2) : mS).1 8 = zset (σ.1 8) 3 v := by rw [gY 8 (by decide) (by decide)]; show mup σ.1 8 3 v 8 = _; exact mup_zset
    have g2 : ((mup (mup (mup σ.1 8 3 v) 1 14 0) 58 4 0, σ.2) : mS).2 = σ.2 := rfl
    have gc : ∀ u, u ≠ 1 → u ≠ 8 → u ≠ 58 → ((mup (mup (mup σ.1 8 3 v) 1 14 0) 58 4 0, σ.2) : mS).1 u = σ.1 u := fun u a b d => (gY u a d).trans (mup_fun b)
    generalize eX : ((mup (mup (mup σ.1 8 3 v) 1 14 0) 58 4 0, σ.2) : mS) = X at *
    have h70x : X.1 70 = A := (gc 70 (by decide) (by decide) (by decide)).trans h70
    have v68 : X.1 68 = σ.1 68 := gc 68 (by decide) (by decide) (by decide)
    have d1 := zB_mup (r := 70) (i := 183) (v := v) gB (zokr_arr (by decide +kernel))
    obtain ⟨zb, zx, z70, z68⟩ := zAcc_ref (σ := σ) (X := X) (Y := (mup X.1 70 183 v, X.2)) d1 rfl (fun u a => mup_fun a) v68
    have h70k : ∀ j, X.1 70 j = A j := fun j => by rw [h70x]
    have ref : wpo (M_Mo_terms 68 3 v X) (fun z => z = (A 183, (mup (mup (mup X.1 70 183 v) 68 0 0) 68 1 (σ.1 68 1 + 1), X.2))) := by
      have w1 : ∀ u : Int, u = 183 → w32 u = 183 := fun u hu => by rw [w32_in (by omega) (by omega)]; omega
      have e1 : ((mup X.1 70 183 v, X.2) : mS).1 68 1 = σ.1 68 1 := by show mup X.1 70 183 v 68 1 = _; rw [mup_cell (by decide), v68]
      have gd := f_good (v := A 183) d1 (by rw [e1]; exact vk)
      rw [e1] at gd
      unfold M_Mo_terms M_Mo_terms_22
      simp (maxSteps := 5000000) (disch := first | assumption | omega) only [wpo_bind, wpo_some, wpo_gf, wpo_gk, wpo_ld, wpo_pf, wpo_pz, wpo_sd, wpo_sr, wpo_ln, wpo_idv, wpo_irm, wpo_lrm, wpo_ldv, wpo_cpy, mlet, mnar_int, mup_same, mup_cell, mup_slot, ite_true, ite_false, true_and, and_true, eq_self, or_true, true_or, and_self, Int.reduceLT, Int.reduceLE, Int.reduceEq, Int.reduceNe, Int.reduceAdd, Int.reduceSub, Int.reduceMul, Int.reduceNeg, ne_eq, not_false_eq_true, not_true_eq_false, false_or, or_false, zor_inl, zor_inr, Bool.false_eq_true, false_and, and_false, zk1, zk2, zk3, zk4, zk5, zk6, zk7, zk8, zk9, zk10, zk11, zk12, zk13, zk14, zk15, zk16, zk17, zk18, zk19, zk20, zk21, zk22, zk23, zk24, zk25, zk26, zk27, zk28, zk29, zk30, zk31, zk32, zk33, zk34, zk35, zk36, zk37, zk38, zk39, zk40, zk41, zk42, zk43, zk44, zk45, zk46, zk47, zk48, zk49, zk50, zk51, zk52, zk53, zk54, zk55, zk56, zk57, zk58, zk59, zk60, zk61, zk62, zk63, zk64, zk65, zk66, zk67, zk68, zk69, zk70, zk71, zk72, zk73, zk74, zk75, zk76, zk77, zk78, zk79, zk80, zk81, zk82, zk83, zk84, zk85, zk86, zk87, zk88, zk89, zk90, zr2_0, zr2_1, zr2_2, zr2_3, zr2_4, zr2_6, zr2_7, zr2_10, zr2_11, zr2_12, zr1_0, zr1_1, zr14_0, zr14_1, zr14_2, zr14_3, zr14_4, zr14_6, zr14_7, zr14_10, zr14_11, zr14_12, zr13_0, zr25_0, zr25_1, zr25_2, zr25_3, zr25_4, zr25_6, zr25_7, zr25_10, zr25_11, zr25_12, zr13_1, zr1_2, zr37_0, zr1_3, zr39_0, zr39_1, zr39_2, zr39_5, zr39_7, zr39_8, zr1_4, zr46_1, zr46_2, zr46_3, zr46_4, zr46_0, zr1_5, zr51_2, zr51_10, zr51_0, zr51_1, zr54_1, zr54_2, zr54_3, zr1_6, zr58_1, zr58_2, zr58_3, zr58_0, zr1_7, zr62_2, zr62_3, zr62_0, zr62_1, zr1_8, zr1_9, zr1_10, zr1_15, zr68_2, zr68_3, zr68_4, zr68_5, zr68_7, zr68_8, zr68_9, zr68_12, zr68_13, zr68_14, zr68_22, zr68_23, zr68_24, zr68_26, zr68_35, zr68_36, zr68_37, zr68_38, zr68_39, zr68_40, zr68_41, zr68_42, e_lies, n10, c, w1, h70k, gd]
    refine wpo_mono ref ?_
    intro z hz
    subst hz
    refine ⟨rfl, D, zset A (180 + 3) v, ?_⟩
    have cg : ∀ j, j ≠ 180 + 3 → zset A (180 + 3) v j = A j := fun j hj => zset_ne hj
    refine zChgS hI0 hk (zWF_term hW (by decide) (by omega)) (fun j a b => cg j (by omega)) (cg 186 (by omega)) gB g2 gX (gc 9 (by decide) (by decide) (by decide)) g1 g58 ?_ ?_ zb rfl zx ?_ z68
    · obtain ⟨o1, o2, o3, o4, o5, o6, o7, o8⟩ := hR
      have x2 : X.1 2 = σ.1 2 := gc 2 (by decide) (by decide) (by decide)
      refine ⟨fun j j0 j1 => ?_, fun t t0 t1 => ?_, by rw [x2, cg 184 (by omega)]; exact o3, fun j j0 j1 => ?_, by rw [x2, cg 186 (by omega)]; exact o5, by rw [x2, cg 187 (by omega)]; exact o6, fun j j0 j1 => ?_, by rw [x2, cg 185 (by omega)]; exact o8⟩
      · show X.1 3 j = _ ∧ X.1 4 j = _ ∧ X.1 5 j = _
        rw [gc 3 (by decide) (by decide) (by decide), gc 4 (by decide) (by decide) (by decide), gc 5 (by decide) (by decide) (by decide), cg j (by omega), cg (64 + j) (by omega), ztA_cg (cg 184 (by omega)) (fun t t0 t1 => cg _ (by have := hW.2.1; omega))]
        exact o1 j j0 j1
      · show X.1 6 t = _ ∧ X.1 7 t = _
        rw [gc 6 (by decide) (by decide) (by decide), gc 7 (by decide) (by decide) (by decide), cg _ (by omega), cg (136 + t) (by omega)]
        exact o2 t t0 t1
      · show X.1 8 j = _
        rw [x8]
        by_cases cj : j = 3
        · rw [cj, zset_same, zset_same]
        · rw [zset_ne cj, cg _ (by omega)]; exact o4 j j0 j1
      · show X.1 10 j = _ ∧ X.1 11 j = _ ∧ X.1 12 j = _
        rw [gc 10 (by decide) (by decide) (by decide), gc 11 (by decide) (by decide) (by decide), gc 12 (by decide) (by decide) (by decide), cg _ (by omega), cg (145 + 3 * j) (by omega), cg (146 + 3 * j) (by omega)]
        exact o7 j j0 j1
    · intro j j0 j1
      rw [gc 48 (by decide) (by decide) (by decide)]
      refine ⟨Int.le_refl _, by omega, fun _ s i => ?_⟩
      unfold zWd
      rw [cg 187 (by omega), cg j (by omega), cg (64 + j) (by omega)]
    · refine z70.trans ?_
      show mup X.1 70 183 v 70 = _
      rw [mup_zset, h70x]
      rfl
  · refine zRefu (by' := -1) (m := 1) hI0 hk (by decide) (by decide) (fun rf => ?_) (fun σ1 hB1 _ rf => ?_)
    · unfold M_RW_terms
      simp (maxSteps := 5000000) (disch := first | assumption | omega) only [wpo_bind, wpo_some, wpo_gf, wpo_gk, wpo_ld, wpo_pf, wpo_pz, wpo_sd, wpo_sr, wpo_ln, wpo_idv, wpo_irm, wpo_lrm, wpo_ldv, wpo_cpy, mlet, mnar_int, mup_same, mup_cell, mup_slot, ite_true, ite_false, true_and, and_true, eq_self, or_true, true_or, and_self, Int.reduceLT, Int.reduceLE, Int.reduceEq, Int.reduceNe, Int.reduceAdd, Int.reduceSub, Int.reduceMul, Int.reduceNeg, ne_eq, not_false_eq_true, not_true_eq_false, false_or, or_false, zor_inl, zor_inr, Bool.false_eq_true, false_and, and_false, zk1, zk2, zk3, zk4, zk5, zk6, zk7, zk8, zk9, zk10, zk11, zk12, zk13, zk14, zk15, zk16, zk17, zk18, zk19, zk20, zk21, zk22, zk23, zk24, zk25, zk26, zk27, zk28, zk29, zk30, zk31, zk32, zk33, zk34, zk35, zk36, zk37, zk38, zk39, zk40, zk41, zk42, zk43, zk44, zk45, zk46, zk47, zk48, zk49, zk50, zk51, zk52, zk53, zk54, zk55, zk56, zk57, zk58, zk59, zk60, zk61, zk62, zk63, zk64, zk65, zk66, zk67, zk68, zk69, zk70, zk71, zk72, zk73, zk74, zk75, zk76, zk77, zk78, zk79, zk80, zk81, zk82, zk83, zk84, zk85, zk86, zk87, zk88, zk89, zk90, zr2_0, zr2_1, zr2_2, zr2_3, zr2_4, zr2_6, zr2_7, zr2_10, zr2_11, zr2_12, zr1_0, zr1_1, zr14_0, zr14_1, zr14_2, zr14_3, zr14_4, zr14_6, zr14_7, zr14_10, zr14_11, zr14_12, zr13_0, zr25_0, zr25_1, zr25_2, zr25_3, zr25_4, zr25_6, zr25_7, zr25_10, zr25_11, zr25_12, zr13_1, zr1_2, zr37_0, zr1_3, zr39_0, zr39_1, zr39_2, zr39_5, zr39_7, zr39_8, zr1_4, zr46_1, zr46_2, zr46_3, zr46_4, zr46_0, zr1_5, zr51_2, zr51_10, zr51_0, zr51_1, zr54_1, zr54_2, zr54_3, zr1_6, zr58_1, zr58_2, zr58_3, zr58_0, zr1_7, zr62_2, zr62_3, zr62_0, zr62_1, zr1_8, zr1_9, zr1_10, zr1_15, zr68_2, zr68_3, zr68_4, zr68_5, zr68_7, zr68_8, zr68_9, zr68_12, zr68_13, zr68_14, zr68_22, zr68_23, zr68_24, zr68_26, zr68_35, zr68_36, zr68_37, zr68_38, zr68_39, zr68_40, zr68_41, zr68_42, e_within, n10, k3, v3, c, rf]
    · unfold M_Mo_terms M_Mo_terms_22
      simp (maxSteps := 5000000) (disch := first | assumption | omega) only [wpo_bind, wpo_some, wpo_gf, wpo_gk, wpo_ld, wpo_pf, wpo_pz, wpo_sd, wpo_sr, wpo_ln, wpo_idv, wpo_irm, wpo_lrm, wpo_ldv, wpo_cpy, mlet, mnar_int, mup_same, mup_cell, mup_slot, ite_true, ite_false, true_and, and_true, eq_self, or_true, true_or, and_self, Int.reduceLT, Int.reduceLE, Int.reduceEq, Int.reduceNe, Int.reduceAdd, Int.reduceSub, Int.reduceMul, Int.reduceNeg, ne_eq, not_false_eq_true, not_true_eq_false, false_or, or_false, zor_inl, zor_inr, Bool.false_eq_true, false_and, and_false, zk1, zk2, zk3, zk4, zk5, zk6, zk7, zk8, zk9, zk10, zk11, zk12, zk13, zk14, zk15, zk16, zk17, zk18, zk19, zk20, zk21, zk22, zk23, zk24, zk25, zk26, zk27, zk28, zk29, zk30, zk31, zk32, zk33, zk34, zk35, zk36, zk37, zk38, zk39, zk40, zk41, zk42, zk43, zk44, zk45, zk46, zk47, zk48, zk49, zk50, zk51, zk52, zk53, zk54, zk55, zk56, zk57, zk58, zk59, zk60, zk61, zk62, zk63, zk64, zk65, zk66, zk67, zk68, zk69, zk70, zk71, zk72, zk73, zk74, zk75, zk76, zk77, zk78, zk79, zk80, zk81, zk82, zk83, zk84, zk85, zk86, zk87, zk88, zk89, zk90, zr2_0, zr2_1, zr2_2, zr2_3, zr2_4, zr2_6, zr2_7, zr2_10, zr2_11, zr2_12, zr1_0, zr1_1, zr14_0, zr14_1, zr14_2, zr14_3, zr14_4, zr14_6, zr14_7, zr14_10, zr14_11, zr14_12, zr13_0, zr25_0, zr25_1, zr25_2, zr25_3, zr25_4, zr25_6, zr25_7, zr25_10, zr25_11, zr25_12, zr13_1, zr1_2, zr37_0, zr1_3, zr39_0, zr39_1, zr39_2, zr39_5, zr39_7, zr39_8, zr1_4, zr46_1, zr46_2, zr46_3, zr46_4, zr46_0, zr1_5, zr51_2, zr51_10, zr51_0, zr51_1, zr54_1, zr54_2, zr54_3, zr1_6, zr58_1, zr58_2, zr58_3, zr58_0, zr1_7, zr62_2, zr62_3, zr62_0, zr62_1, zr1_8, zr1_9, zr1_10, zr1_15, zr68_2, zr68_3, zr68_4, zr68_5, zr68_7, zr68_8, zr68_9, zr68_12, zr68_13, zr68_14, zr68_22, zr68_23, zr68_24, zr68_26, zr68_35, zr68_36, zr68_37, zr68_38, zr68_39, zr68_40, zr68_41, zr68_42, e_lies, n10, c, rf]
theorem s_terms (k : Nat) (hk : k ≤ 1000) (w v : Int) : zStp k (M_RW_terms 1 w v) (M_Mo_terms 68 w v) := by
  by_cases c : 0 ≤ w ∧ w ≤ 3
  · have : w = 0 ∨ w = 1 ∨ w = 2 ∨ w = 3 := by omega
    rcases this with e | e | e | e <;> subst e
    · exact s_terms0 k hk v
    · exact s_terms1 k hk v
    · exact s_terms2 k hk v
    · exact s_terms3 k hk v
  · intro D A σ hI
    have hB := hI.1.1.1
    refine zRefu (by' := -1) (m := 1) hI hk (by decide) (by decide) (fun rf => ?_) (fun σ1 hB1 _ rf => ?_)
    · unfold M_RW_terms
      simp (maxSteps := 5000000) (disch := first | assumption | omega) only [wpo_bind, wpo_some, wpo_gf, wpo_gk, wpo_ld, wpo_pf, wpo_pz, wpo_sd, wpo_sr, wpo_ln, wpo_idv, wpo_irm, wpo_lrm, wpo_ldv, wpo_cpy, mlet, mnar_int, mup_same, mup_cell, mup_slot, ite_true, ite_false, true_and, and_true, eq_self, or_true, true_or, and_self, Int.reduceLT, Int.reduceLE, Int.reduceEq, Int.reduceNe, Int.reduceAdd, Int.reduceSub, Int.reduceMul, Int.reduceNeg, ne_eq, not_false_eq_true, not_true_eq_false, false_or, or_false, zor_inl, zor_inr, Bool.false_eq_true, false_and, and_false, zk1, zk2, zk3, zk4, zk5, zk6, zk7, zk8, zk9, zk10, zk11, zk12, zk13, zk14, zk15, zk16, zk17, zk18, zk19, zk20, zk21, zk22, zk23, zk24, zk25, zk26, zk27, zk28, zk29, zk30, zk31, zk32, zk33, zk34, zk35, zk36, zk37, zk38, zk39, zk40, zk41, zk42, zk43, zk44, zk45, zk46, zk47, zk48, zk49, zk50, zk51, zk52, zk53, zk54, zk55, zk56, zk57, zk58, zk59, zk60, zk61, zk62, zk63, zk64, zk65, zk66, zk67, zk68, zk69, zk70, zk71, zk72, zk73, zk74, zk75, zk76, zk77, zk78, zk79, zk80, zk81, zk82, zk83, zk84, zk85, zk86, zk87, zk88, zk89, zk90, zr2_0, zr2_1, zr2_2, zr2_3, zr2_4, zr2_6, zr2_7, zr2_10, zr2_11, zr2_12, zr1_0, zr1_1, zr14_0, zr14_1, zr14_2, zr14_3, zr14_4, zr14_6, zr14_7, zr14_10, zr14_11, zr14_12, zr13_0, zr25_0, zr25_1, zr25_2, zr25_3, zr25_4, zr25_6, zr25_7, zr25_10, zr25_11, zr25_12, zr13_1, zr1_2, zr37_0, zr1_3, zr39_0, zr39_1, zr39_2, zr39_5, zr39_7, zr39_8, zr1_4, zr46_1, zr46_2, zr46_3, zr46_4, zr46_0, zr1_5, zr51_2, zr51_10, zr51_0, zr51_1, zr54_1, zr54_2, zr54_3, zr1_6, zr58_1, zr58_2, zr58_3, zr58_0, zr1_7, zr62_2, zr62_3, zr62_0, zr62_1, zr1_8, zr1_9, zr1_10, zr1_15, zr68_2, zr68_3, zr68_4, zr68_5, zr68_7, zr68_8, zr68_9, zr68_12, zr68_13, zr68_14, zr68_22, zr68_23, zr68_24, zr68_26, zr68_35, zr68_36, zr68_37, zr68_38, zr68_39, zr68_40, zr68_41, zr68_42, e_within, c, rf]
    · unfold M_Mo_terms
      simp (maxSteps := 5000000) (disch := first | assumption | omega) only [wpo_bind, wpo_some, wpo_gf, wpo_gk, wpo_ld, wpo_pf, wpo_pz, wpo_sd, wpo_sr, wpo_ln, wpo_idv, wpo_irm, wpo_lrm, wpo_ldv, wpo_cpy, mlet, mnar_int, mup_same, mup_cell, mup_slot, ite_true, ite_false, true_and, and_true, eq_self, or_true, true_or, and_self, Int.reduceLT, Int.reduceLE, Int.reduceEq, Int.reduceNe, Int.reduceAdd, Int.reduceSub, Int.reduceMul, Int.reduceNeg, ne_eq, not_false_eq_true, not_true_eq_false, false_or, or_false, zor_inl, zor_inr, Bool.false_eq_true, false_and, and_false, zk1, zk2, zk3, zk4, zk5, zk6, zk7, zk8, zk9, zk10, zk11, zk12, zk13, zk14, zk15, zk16, zk17, zk18, zk19, zk20, zk21, zk22, zk23, zk24, zk25, zk26, zk27, zk28, zk29, zk30, zk31, zk32, zk33, zk34, zk35, zk36, zk37, zk38, zk39, zk40, zk41, zk42, zk43, zk44, zk45, zk46, zk47, zk48, zk49, zk50, zk51, zk52, zk53, zk54, zk55, zk56, zk57, zk58, zk59, zk60, zk61, zk62, zk63, zk64, zk65, zk66, zk67, zk68, zk69, zk70, zk71, zk72, zk73, zk74, zk75, zk76, zk77, zk78, zk79, zk80, zk81, zk82, zk83, zk84, zk85, zk86, zk87, zk88, zk89, zk90, zr2_0, zr2_1, zr2_2, zr2_3, zr2_4, zr2_6, zr2_7, zr2_10, zr2_11, zr2_12, zr1_0, zr1_1, zr14_0, zr14_1, zr14_2, zr14_3, zr14_4, zr14_6, zr14_7, zr14_10, zr14_11, zr14_12, zr13_0, zr25_0, zr25_1, zr25_2, zr25_3, zr25_4, zr25_6, zr25_7, zr25_10, zr25_11, zr25_12, zr13_1, zr1_2, zr37_0, zr1_3, zr39_0, zr39_1, zr39_2, zr39_5, zr39_7, zr39_8, zr1_4, zr46_1, zr46_2, zr46_3, zr46_4, zr46_0, zr1_5, zr51_2, zr51_10, zr51_0, zr51_1, zr54_1, zr54_2, zr54_3, zr1_6, zr58_1, zr58_2, zr58_3, zr58_0, zr1_7, zr62_2, zr62_3, zr62_0, zr62_1, zr1_8, zr1_9, zr1_10, zr1_15, zr68_2, zr68_3, zr68_4, zr68_5, zr68_7, zr68_8, zr68_9, zr68_12, zr68_13, zr68_14, zr68_22, zr68_23, zr68_24, zr68_26, zr68_35, zr68_36, zr68_37, zr68_38, zr68_39, zr68_40, zr68_41, zr68_42, e_lies, c, rf]
