/-! IMAGE, BACK -/
theorem zRoad_cp {A : Int → Int} {h h' : Int → Int → Int} {b c : Int} (hR : zRoad b A h) (v1 : ∀ i, 0 ≤ i → i < 64 → h' (c + 1) i = h (b + 1) i ∧ h' (c + 2) i = h (b + 2) i ∧ h' (c + 3) i = h (b + 3) i) (v2 : ∀ i, 0 ≤ i → i < 8 → h' (c + 4) i = h (b + 4) i ∧ h' (c + 5) i = h (b + 5) i) (v3 : ∀ i, 0 ≤ i → i < 4 → h' (c + 6) i = h (b + 6) i) (v4 : ∀ i, 0 ≤ i → i < 12 → h' (c + 8) i = h (b + 8) i ∧ h' (c + 9) i = h (b + 9) i ∧ h' (c + 10) i = h (b + 10) i) (v5 : h' c 5 = h b 5 ∧ h' c 8 = h b 8 ∧ h' c 9 = h b 9 ∧ h' c 13 = h b 13) : zRoad c A h' := by
  obtain ⟨o1, o2, o3, o4, o5, o6, o7, o8⟩ := hR
  refine ⟨fun j j0 j1 => ?_, fun j j0 j1 => ?_, by rw [v5.1]; exact o3, fun j j0 j1 => by rw [v3 j j0 j1]; exact o4 j j0 j1, by rw [v5.2.1]; exact o5, by rw [v5.2.2.1]; exact o6, fun j j0 j1 => ?_, by rw [v5.2.2.2]; exact o8⟩
  · rw [(v1 j j0 j1).1, (v1 j j0 j1).2.1, (v1 j j0 j1).2.2]; exact o1 j j0 j1
  · rw [(v2 j j0 j1).1, (v2 j j0 j1).2]; exact o2 j j0 j1
  · rw [(v4 j j0 j1).1, (v4 j j0 j1).2.1, (v4 j j0 j1).2.2]; exact o7 j j0 j1
theorem zRoad_cg {A A' : Int → Int} {h : Int → Int → Int} {b : Int} (hW : zWF A) (hR : zRoad b A h) (hc : ∀ j, 0 ≤ j → j < 4994 → A' j = A j) : zRoad b A' h := by
  obtain ⟨o1, o2, o3, o4, o5, o6, o7, o8⟩ := hR
  have n8 := hW.2.1
  refine ⟨fun j j0 j1 => ?_, fun j j0 j1 => ?_, by rw [hc 184 (by decide) (by decide)]; exact o3, fun j j0 j1 => by rw [hc _ (by omega) (by omega)]; exact o4 j j0 j1, by rw [hc 186 (by decide) (by decide)]; exact o5, by rw [hc 187 (by decide) (by decide)]; exact o6, fun j j0 j1 => ?_, by rw [hc 185 (by decide) (by decide)]; exact o8⟩
  · rw [hc j (by omega) (by omega), hc (64 + j) (by omega) (by omega), ztA_cg (hc 184 (by decide) (by decide)) (fun t t0 t1 => hc _ (by omega) (by omega))]; exact o1 j j0 j1
  · rw [hc _ (by omega) (by omega), hc (136 + j) (by omega) (by omega)]; exact o2 j j0 j1
  · rw [hc _ (by omega) (by omega), hc (145 + 3 * j) (by omega) (by omega), hc (146 + 3 * j) (by omega) (by omega)]; exact o7 j j0 j1
theorem zWF_cg {A A' : Int → Int} (hW : zWF A) (hc : ∀ j, 0 ≤ j → j < 4994 → A' j = A j) : zWF A' := by
  obtain ⟨w1, w2, w3, w4, w5, w6, w7, w8, w9⟩ := hW
  have e184 := hc 184 (by decide) (by decide)
  refine ⟨fun j j0 j1 => by rw [hc j (by omega) (by omega), hc (64 + j) (by omega) (by omega)]; exact w1 j j0 j1, by rw [e184]; exact w2, fun u u0 u1 => ?_, fun u v u0 u1 v0 v1 e => ?_, by rw [hc 180 (by decide) (by decide), hc 181 (by decide) (by decide), hc 182 (by decide) (by decide), hc 183 (by decide) (by decide)]; exact w5, by rw [hc 185 (by decide) (by decide)]; exact w6, fun j j0 j1 => ?_, by rw [hc 186 (by decide) (by decide)]; exact w8, by rw [hc 186 (by decide) (by decide), hc 187 (by decide) (by decide)]; exact w9⟩
  · rw [e184] at u1
    rw [hc _ (by omega) (by omega), hc (136 + u) (by omega) (by omega)]; exact w3 u u0 u1
  · rw [e184] at u1 v1
    rw [hc _ (by omega) (by omega), hc (128 + v) (by omega) (by omega)] at e
    exact w4 u v u0 u1 v0 v1 e
  · rw [hc 185 (by decide) (by decide)] at j1
    rw [hc _ (by omega) (by omega), hc (145 + 3 * j) (by omega) (by omega), hc (146 + 3 * j) (by omega) (by omega), e184]
    exact w7 j j0 j1
/-- the laws of a road, each one or nothing -/
theorem zL0_ref {σ : mS} {A : Int → Int} {D : Int → (Int → Int) → Int} {b : Int} (l0 : zL0 σ) (hb : b = 2 ∨ b = 14 ∨ b = 25) (h8 : σ.1 b 8 = A 186) (hL : zLaws σ b A D) : ∀ t, 0 ≤ t → t < 6 → σ.1 (b + 7) t = 0 ∨ 0 < σ.1 (b + 7) t ∧ (σ.2.1 (σ.1 (b + 7) t)).1 = 4 := by
  intro t t0 t1
  by_cases c : t < A 186
  · have l := (hL t t0 c).1
    exact Or.inr ⟨by have := l.1; omega, by rw [l.2.2.2.1]⟩
  · exact Or.inl (l0 b hb t t0 (by omega) t1)
set_option maxHeartbeats 4000000 in
theorem r_image {X : mS} {i vv : Int} (hB : zB X) (i0 : 0 ≤ i) (i1 : i < 2) (v68 : X.1 68 1 = vv) (vk : 0 ≤ vv ∧ vv ≤ 100000) :
    wpo (M_Mo_image_11 68 i 0 X) (fun z => ∃ Z : mS, (zB Z ∧ Z.2 = X.2 ∧ (∀ u, u ≠ 71 → u ≠ 72 → Z.1 u = X.1 u) ∧ (∀ j, Z.1 71 j = if 4994 * i ≤ j ∧ j < 4994 * i + 4994 then X.1 70 (j - 4994 * i) else X.1 71 j) ∧ (∀ j, Z.1 72 j = if j = i then 1 else X.1 72 j)) ∧ z = (0, (mup (mup Z.1 68 0 0) 68 1 (vv + 1), Z.2))) := by
  unfold M_Mo_image_11
  refine loopN (fun m y => y.1 = (m : Int) ∧ zB y.2 ∧ y.2.2 = X.2 ∧ (∀ u, u ≠ 71 → y.2.1 u = X.1 u) ∧ ∀ j, y.2.1 71 j = if 4994 * i ≤ j ∧ j < 4994 * i + (m : Int) then X.1 70 (j - 4994 * i) else X.1 71 j) 4994 _ _ (by decide) ⟨rfl, hB, rfl, fun u _ => rfl, fun j => by rw [if_neg (by omega)]⟩ ?_ ?_
  · intro m y hm ⟨y1, y2, y3, y4, y5⟩
    obtain ⟨l2, x⟩ := y
    simp only at y1 y2 y3 y4 y5
    have p0 : 0 ≤ l2 := by omega
    have p1 : l2 < 4994 := by omega
    have x70 : x.1 70 l2 = X.1 70 l2 := by rw [y4 70 (by decide)]
    have w1 : ∀ u : Int, u = l2 → w32 (u + 1) = l2 + 1 := fun u hu => by rw [w32_in (by omega) (by omega)]; omega
    have w2 : ∀ u : Int, u = i → w32 (4994 * u) = 4994 * i := fun u hu => by rw [w32_in (by omega) (by omega)]; omega
    have w3 : ∀ u : Int, u = l2 → w32 (4994 * i + u) = 4994 * i + l2 := fun u hu => by rw [w32_in (by omega) (by omega)]; omega
    have d0 : 0 ≤ 4994 * i + l2 := by omega
    have d1 : 4994 * i + l2 < 9988 := by omega
    have e : B_Mo_image_11 68 i l2 x = some (Sum.inl (l2 + 1, (mup x.1 71 (4994 * i + l2) (X.1 70 l2), x.2))) := wpo_is (by
      unfold B_Mo_image_11
      simp (maxSteps := 5000000) (disch := first | assumption | omega) only [wpo_bind, wpo_some, wpo_gf, wpo_gk, wpo_ld, wpo_pf, wpo_pz, wpo_sd, wpo_sr, wpo_ln, wpo_idv, wpo_irm, wpo_lrm, wpo_ldv, wpo_cpy, mlet, mnar_int, mup_same, mup_cell, mup_slot, ite_true, ite_false, true_and, and_true, eq_self, or_true, true_or, and_self, Int.reduceLT, Int.reduceLE, Int.reduceEq, Int.reduceNe, Int.reduceAdd, Int.reduceSub, Int.reduceMul, Int.reduceNeg, ne_eq, not_false_eq_true, not_true_eq_false, false_or, or_false, zor_inl, zor_inr, Bool.false_eq_true, false_and, and_false, zk1, zk2, zk3, zk4, zk5, zk6, zk7, zk8, zk9, zk10, zk11, zk12, zk13, zk14, zk15, zk16, zk17, zk18, zk19, zk20, zk21, zk22, zk23, zk24, zk25, zk26, zk27, zk28, zk29, zk30, zk31, zk32, zk33, zk34, zk35, zk36, zk37, zk38, zk39, zk40, zk41, zk42, zk43, zk44, zk45, zk46, zk47, zk48, zk49, zk50, zk51, zk52, zk53, zk54, zk55, zk56, zk57, zk58, zk59, zk60, zk61, zk62, zk63, zk64, zk65, zk66, zk67, zk68, zk69, zk70, zk71, zk72, zk73, zk74, zk75, zk76, zk77, zk78, zk79, zk80, zk81, zk82, zk83, zk84, zk85, zk86, zk87, zk88, zk89, zk90, zr2_0, zr2_1, zr2_2, zr2_3, zr2_4, zr2_6, zr2_7, zr2_10, zr2_11, zr2_12, zr1_0, zr1_1, zr14_0, zr14_1, zr14_2, zr14_3, zr14_4, zr14_6, zr14_7, zr14_10, zr14_11, zr14_12, zr13_0, zr25_0, zr25_1, zr25_2, zr25_3, zr25_4, zr25_6, zr25_7, zr25_10, zr25_11, zr25_12, zr13_1, zr1_2, zr37_0, zr1_3, zr39_0, zr39_1, zr39_2, zr39_5, zr39_7, zr39_8, zr1_4, zr46_1, zr46_2, zr46_3, zr46_4, zr46_0, zr1_5, zr51_2, zr51_10, zr51_0, zr51_1, zr54_1, zr54_2, zr54_3, zr1_6, zr58_1, zr58_2, zr58_3, zr58_0, zr1_7, zr62_2, zr62_3, zr62_0, zr62_1, zr1_8, zr1_9, zr1_10, zr1_15, zr68_2, zr68_3, zr68_4, zr68_5, zr68_7, zr68_8, zr68_9, zr68_12, zr68_13, zr68_14, zr68_22, zr68_23, zr68_24, zr68_26, zr68_35, zr68_36, zr68_37, zr68_38, zr68_39, zr68_40, zr68_41, zr68_42, p0, p1, x70, w1, w2, w3, d0, d1])
    refine ⟨_, e, ?_, zB_mup y2 (zokr_arr (by decide +kernel)), y3, fun u hu => ?_, fun j => ?_⟩
    · show l2 + 1 = ((m + 1 : Nat) : Int)
      omega
    · show mup x.1 71 (4994 * i + l2) (X.1 70 l2) u = _
      rw [mup_fun hu]; exact y4 u hu
    · show mup x.1 71 (4994 * i + l2) (X.1 70 l2) 71 j = _
      rw [mup_if]
      by_cases cj : j = 4994 * i + l2
      · rw [if_pos cj, if_pos (by omega)]
        exact congrArg (X.1 70) (by omega)
      · rw [if_neg cj, y5]
        by_cases ci : 4994 * i ≤ j ∧ j < 4994 * i + (m : Int)
        · rw [if_pos ci, if_pos (by omega)]
        · rw [if_neg ci, if_neg (by omega)]
  · intro y ⟨y1, y2, y3, y4, y5⟩
    obtain ⟨l2, x⟩ := y
    simp only at y1 y2 y3 y4 y5
    have c : ¬ l2 < 4994 := by omega
    have nb : mnar 102 1 = 1 := by decide
    have b1 := zB_mup (r := 72) (i := i) (v := 1) y2 (zokr_arr (by decide +kernel))
    have e1 : ((mup x.1 72 i 1, x.2) : mS).1 68 1 = vv := by show mup x.1 72 i 1 68 1 = _; rw [mup_cell (by decide), y4 68 (by decide)]; exact v68
    have gd := f_good (v := 0) b1 (by rw [e1]; exact vk)
    rw [e1] at gd
    have e : B_Mo_image_11 68 i l2 x = some (Sum.inr (0, (mup (mup (mup x.1 72 i 1) 68 0 0) 68 1 (vv + 1), x.2))) := wpo_is (by
      unfold B_Mo_image_11
      simp (maxSteps := 5000000) (disch := first | assumption | omega) only [wpo_bind, wpo_some, wpo_gf, wpo_gk, wpo_ld, wpo_pf, wpo_pz, wpo_sd, wpo_sr, wpo_ln, wpo_idv, wpo_irm, wpo_lrm, wpo_ldv, wpo_cpy, mlet, mnar_int, mup_same, mup_cell, mup_slot, ite_true, ite_false, true_and, and_true, eq_self, or_true, true_or, and_self, Int.reduceLT, Int.reduceLE, Int.reduceEq, Int.reduceNe, Int.reduceAdd, Int.reduceSub, Int.reduceMul, Int.reduceNeg, ne_eq, not_false_eq_true, not_true_eq_false, false_or, or_false, zor_inl, zor_inr, Bool.false_eq_true, false_and, and_false, zk1, zk2, zk3, zk4, zk5, zk6, zk7, zk8, zk9, zk10, zk11, zk12, zk13, zk14, zk15, zk16, zk17, zk18, zk19, zk20, zk21, zk22, zk23, zk24, zk25, zk26, zk27, zk28, zk29, zk30, zk31, zk32, zk33, zk34, zk35, zk36, zk37, zk38, zk39, zk40, zk41, zk42, zk43, zk44, zk45, zk46, zk47, zk48, zk49, zk50, zk51, zk52, zk53, zk54, zk55, zk56, zk57, zk58, zk59, zk60, zk61, zk62, zk63, zk64, zk65, zk66, zk67, zk68, zk69, zk70, zk71, zk72, zk73, zk74, zk75, zk76, zk77, zk78, zk79, zk80, zk81, zk82, zk83, zk84, zk85, zk86, zk87, zk88, zk89, zk90, zr2_0, zr2_1, zr2_2, zr2_3, zr2_4, zr2_6, zr2_7, zr2_10, zr2_11, zr2_12, zr1_0, zr1_1, zr14_0, zr14_1, zr14_2, zr14_3, zr14_4, zr14_6, zr14_7, zr14_10, zr14_11, zr14_12, zr13_0, zr25_0, zr25_1, zr25_2, zr25_3, zr25_4, zr25_6, zr25_7, zr25_10, zr25_11, zr25_12, zr13_1, zr1_2, zr37_0, zr1_3, zr39_0, zr39_1, zr39_2, zr39_5, zr39_7, zr39_8, zr1_4, zr46_1, zr46_2, zr46_3, zr46_4, zr46_0, zr1_5, zr51_2, zr51_10, zr51_0, zr51_1, zr54_1, zr54_2, zr54_3, zr1_6, zr58_1, zr58_2, zr58_3, zr58_0, zr1_7, zr62_2, zr62_3, zr62_0, zr62_1, zr1_8, zr1_9, zr1_10, zr1_15, zr68_2, zr68_3, zr68_4, zr68_5, zr68_7, zr68_8, zr68_9, zr68_12, zr68_13, zr68_14, zr68_22, zr68_23, zr68_24, zr68_26, zr68_35, zr68_36, zr68_37, zr68_38, zr68_39, zr68_40, zr68_41, zr68_42, c, i0, i1, nb, gd])
    refine ⟨_, e, (mup x.1 72 i 1, x.2), ⟨b1, y3, fun u a b => ?_, fun j => ?_, fun j => ?_⟩, rfl⟩
    · show mup x.1 72 i 1 u = _
      rw [mup_fun b]; exact y4 u a
    · show mup x.1 72 i 1 71 j = _
      rw [mup_cell (by decide), y5]
      by_cases ci : 4994 * i ≤ j ∧ j < 4994 * i + 4994
      · rw [if_pos ci, if_pos (by omega)]
      · rw [if_neg ci, if_neg (by omega)]
    · show mup x.1 72 i 1 72 j = _
      rw [mup_if, y4 72 (by decide)]
set_option maxHeartbeats 4000000 in
theorem r_back {X : mS} {i vv : Int} (hB : zB X) (i0 : 0 ≤ i) (i1 : i < 2) (v68 : X.1 68 1 = vv) (vk : 0 ≤ vv ∧ vv ≤ 100000) :
    wpo (M_Mo_back_20 68 i 0 X) (fun z => ∃ Z : mS, (zB Z ∧ Z.2 = X.2 ∧ (∀ u, u ≠ 70 → Z.1 u = X.1 u) ∧ (∀ j, Z.1 70 j = if 0 ≤ j ∧ j < 4994 then X.1 71 (4994 * i + j) else X.1 70 j)) ∧ z = (0, (mup (mup Z.1 68 0 0) 68 1 (vv + 1), Z.2))) := by
  unfold M_Mo_back_20
  refine loopN (fun m y => y.1 = (m : Int) ∧ zB y.2 ∧ y.2.2 = X.2 ∧ (∀ u, u ≠ 70 → y.2.1 u = X.1 u) ∧ ∀ j, y.2.1 70 j = if 0 ≤ j ∧ j < (m : Int) then X.1 71 (4994 * i + j) else X.1 70 j) 4994 _ _ (by decide) ⟨rfl, hB, rfl, fun u _ => rfl, fun j => by rw [if_neg (by omega)]⟩ ?_ ?_
  · intro m y hm ⟨y1, y2, y3, y4, y5⟩
    obtain ⟨l2, x⟩ := y
    simp only at y1 y2 y3 y4 y5
    have p0 : 0 ≤ l2 := by omega
    have p1 : l2 < 4994 := by omega
    have x71 : x.1 71 (4994 * i + l2) = X.1 71 (4994 * i + l2) := by rw [y4 71 (by decide)]
    have w1 : ∀ u : Int, u = l2 → w32 (u + 1) = l2 + 1 := fun u hu => by rw [w32_in (by omega) (by omega)]; omega
    have w2 : ∀ u : Int, u = i → w32 (4994 * u) = 4994 * i := fun u hu => by rw [w32_in (by omega) (by omega)]; omega
    have w3 : ∀ u : Int, u = l2 → w32 (4994 * i + u) = 4994 * i + l2 := fun u hu => by rw [w32_in (by omega) (by omega)]; omega
    have d0 : 0 ≤ 4994 * i + l2 := by omega
    have d1 : 4994 * i + l2 < 9988 := by omega
    have e : B_Mo_back_20 68 i l2 x = some (Sum.inl (l2 + 1, (mup x.1 70 l2 (X.1 71 (4994 * i + l2)), x.2))) := wpo_is (by
      unfold B_Mo_back_20
      simp (maxSteps := 5000000) (disch := first | assumption | omega) only [wpo_bind, wpo_some, wpo_gf, wpo_gk, wpo_ld, wpo_pf, wpo_pz, wpo_sd, wpo_sr, wpo_ln, wpo_idv, wpo_irm, wpo_lrm, wpo_ldv, wpo_cpy, mlet, mnar_int, mup_same, mup_cell, mup_slot, ite_true, ite_false, true_and, and_true, eq_self, or_true, true_or, and_self, Int.reduceLT, Int.reduceLE, Int.reduceEq, Int.reduceNe, Int.reduceAdd, Int.reduceSub, Int.reduceMul, Int.reduceNeg, ne_eq, not_false_eq_true, not_true_eq_false, false_or, or_false, zor_inl, zor_inr, Bool.false_eq_true, false_and, and_false, zk1, zk2, zk3, zk4, zk5, zk6, zk7, zk8, zk9, zk10, zk11, zk12, zk13, zk14, zk15, zk16, zk17, zk18, zk19, zk20, zk21, zk22, zk23, zk24, zk25, zk26, zk27, zk28, zk29, zk30, zk31, zk32, zk33, zk34, zk35, zk36, zk37, zk38, zk39, zk40, zk41, zk42, zk43, zk44, zk45, zk46, zk47, zk48, zk49, zk50, zk51, zk52, zk53, zk54, zk55, zk56, zk57, zk58, zk59, zk60, zk61, zk62, zk63, zk64, zk65, zk66, zk67, zk68, zk69, zk70, zk71, zk72, zk73, zk74, zk75, zk76, zk77, zk78, zk79, zk80, zk81, zk82, zk83, zk84, zk85, zk86, zk87, zk88, zk89, zk90, zr2_0, zr2_1, zr2_2, zr2_3, zr2_4, zr2_6, zr2_7, zr2_10, zr2_11, zr2_12, zr1_0, zr1_1, zr14_0, zr14_1, zr14_2, zr14_3, zr14_4, zr14_6, zr14_7, zr14_10, zr14_11, zr14_12, zr13_0, zr25_0, zr25_1, zr25_2, zr25_3, zr25_4, zr25_6, zr25_7, zr25_10, zr25_11, zr25_12, zr13_1, zr1_2, zr37_0, zr1_3, zr39_0, zr39_1, zr39_2, zr39_5, zr39_7, zr39_8, zr1_4, zr46_1, zr46_2, zr46_3, zr46_4, zr46_0, zr1_5, zr51_2, zr51_10, zr51_0, zr51_1, zr54_1, zr54_2, zr54_3, zr1_6, zr58_1, zr58_2, zr58_3, zr58_0, zr1_7, zr62_2, zr62_3, zr62_0, zr62_1, zr1_8, zr1_9, zr1_10, zr1_15, zr68_2, zr68_3, zr68_4, zr68_5, zr68_7, zr68_8, zr68_9, zr68_12, zr68_13, zr68_14, zr68_22, zr68_23, zr68_24, zr68_26, zr68_35, zr68_36, zr68_37, zr68_38, zr68_39, zr68_40, zr68_41, zr68_42, p0, p1, x71, w1, w2, w3, d0, d1])
    refine ⟨_, e, ?_, zB_mup y2 (zokr_arr (by decide +kernel)), y3, fun u hu => ?_, fun j => ?_⟩
    · show l2 + 1 = ((m + 1 : Nat) : Int)
      omega
    · show mup x.1 70 l2 (X.1 71 (4994 * i + l2)) u = _
      rw [mup_fun hu]; exact y4 u hu
    · show mup x.1 70 l2 (X.1 71 (4994 * i + l2)) 70 j = _
      rw [mup_if]
      by_cases cj : j = l2
      · rw [if_pos cj, if_pos (by omega), cj]
      · rw [if_neg cj, y5]
        by_cases ci : 0 ≤ j ∧ j < (m : Int)
        · rw [if_pos ci, if_pos (by omega)]
        · rw [if_neg ci, if_neg (by omega)]
  · intro y ⟨y1, y2, y3, y4, y5⟩
    obtain ⟨l2, x⟩ := y
    simp only at y1 y2 y3 y4 y5
    have c : ¬ l2 < 4994 := by omega
    have e1 : x.1 68 1 = vv := by rw [y4 68 (by decide)]; exact v68
    have gd := f_good (v := 0) y2 (by rw [e1]; exact vk)
    rw [e1] at gd
    have e : B_Mo_back_20 68 i l2 x = some (Sum.inr (0, (mup (mup x.1 68 0 0) 68 1 (vv + 1), x.2))) := wpo_is (by
      unfold B_Mo_back_20
      simp (maxSteps := 5000000) (disch := first | assumption | omega) only [wpo_bind, wpo_some, wpo_gf, wpo_gk, wpo_ld, wpo_pf, wpo_pz, wpo_sd, wpo_sr, wpo_ln, wpo_idv, wpo_irm, wpo_lrm, wpo_ldv, wpo_cpy, mlet, mnar_int, mup_same, mup_cell, mup_slot, ite_true, ite_false, true_and, and_true, eq_self, or_true, true_or, and_self, Int.reduceLT, Int.reduceLE, Int.reduceEq, Int.reduceNe, Int.reduceAdd, Int.reduceSub, Int.reduceMul, Int.reduceNeg, ne_eq, not_false_eq_true, not_true_eq_false, false_or, or_false, zor_inl, zor_inr, Bool.false_eq_true, false_and, and_false, zk1, zk2, zk3, zk4, zk5, zk6, zk7, zk8, zk9, zk10, zk11, zk12, zk13, zk14, zk15, zk16, zk17, zk18, zk19, zk20, zk21, zk22, zk23, zk24, zk25, zk26, zk27, zk28, zk29, zk30, zk31, zk32, zk33, zk34, zk35, zk36, zk37, zk38, zk39, zk40, zk41, zk42, zk43, zk44, zk45, zk46, zk47, zk48, zk49, zk50, zk51, zk52, zk53, zk54, zk55, zk56, zk57, zk58, zk59, zk60, zk61, zk62, zk63, zk64, zk65, zk66, zk67, zk68, zk69, zk70, zk71, zk72, zk73, zk74, zk75, zk76, zk77, zk78, zk79, zk80, zk81, zk82, zk83, zk84, zk85, zk86, zk87, zk88, zk89, zk90, zr2_0, zr2_1, zr2_2, zr2_3, zr2_4, zr2_6, zr2_7, zr2_10, zr2_11, zr2_12, zr1_0, zr1_1, zr14_0, zr14_1, zr14_2, zr14_3, zr14_4, zr14_6, zr14_7, zr14_10, zr14_11, zr14_12, zr13_0, zr25_0, zr25_1, zr25_2, zr25_3, zr25_4, zr25_6, zr25_7, zr25_10, zr25_11, zr25_12, zr13_1, zr1_2, zr37_0, zr1_3, zr39_0, zr39_1, zr39_2, zr39_5, zr39_7, zr39_8, zr1_4, zr46_1, zr46_2, zr46_3, zr46_4, zr46_0, zr1_5, zr51_2, zr51_10, zr51_0, zr51_1, zr54_1, zr54_2, zr54_3, zr1_6, zr58_1, zr58_2, zr58_3, zr58_0, zr1_7, zr62_2, zr62_3, zr62_0, zr62_1, zr1_8, zr1_9, zr1_10, zr1_15, zr68_2, zr68_3, zr68_4, zr68_5, zr68_7, zr68_8, zr68_9, zr68_12, zr68_13, zr68_14, zr68_22, zr68_23, zr68_24, zr68_26, zr68_35, zr68_36, zr68_37, zr68_38, zr68_39, zr68_40, zr68_41, zr68_42, c, gd])
    refine ⟨_, e, x, ⟨y2, y3, y4, fun j => ?_⟩, rfl⟩
    rw [y5]
    by_cases ci : 0 ≤ j ∧ j < 4994
    · rw [if_pos ci, if_pos (by omega)]
    · rw [if_neg ci, if_neg (by omega)]
set_option maxHeartbeats 8000000 in
theorem s_image0 (k : Nat) (hk : k ≤ 1000) : zStp k (M_RW_image 1 0) (M_Mo_image 68 0) := by
  intro D A σ hI
  have hI0 := hI
  obtain ⟨q1, q2, q3, q4, q5, q6⟩ := hI
  have hB := q1.1.1
  have hW := q1.1.2.1
  have hR := q1.1.2.2.1
  have hL := q1.1.2.2.2.1
  have h70 := q2.2.2.2.1
  have vk := q2.2.2.2.2.2.1
  have n10 : ¬ (1 : Int) = 0 := by decide
  have h8 : σ.1 2 8 = A 186 := hR.2.2.2.2.1
  obtain ⟨Y, eY, y1, y2, y3, v1, v2, v3, v4, v5, v6⟩ := d_copy_14_2 hB (zL0_ref q5.1 (Or.inl rfl) h8 hL)
  have b1 := zB_mup (r := 36) (i := 0) (v := 1) y1 (zokr_arr (by decide +kernel))
  have b2 := zB_mup (r := 1) (i := 14) (v := 0) b1 (by decide +kernel)
  have b3 := zB_mup (r := 58) (i := 4) (v := 0) b2 (by decide +kernel)
  have ac := e_accept (v := 0) b1
  have nb : mnar 102 1 = 1 := by decide
  have dev : wpo (M_RW_image 1 0 σ) (fun q => q = (0, (mup (mup (mup Y.1 36 0 1) 1 14 0) 58 4 0, Y.2))) := by
    unfold M_RW_image
    simp (maxSteps := 5000000) (disch := first | assumption | omega) only [wpo_bind, wpo_some, wpo_gf, wpo_gk, wpo_ld, wpo_pf, wpo_pz, wpo_sd, wpo_sr, wpo_ln, wpo_idv, wpo_irm, wpo_lrm, wpo_ldv, wpo_cpy, mlet, mnar_int, mup_same, mup_cell, mup_slot, ite_true, ite_false, true_and, and_true, eq_self, or_true, true_or, and_self, Int.reduceLT, Int.reduceLE, Int.reduceEq, Int.reduceNe, Int.reduceAdd, Int.reduceSub, Int.reduceMul, Int.reduceNeg, ne_eq, not_false_eq_true, not_true_eq_false, false_or, or_false, zor_inl, zor_inr, Bool.false_eq_true, false_and, and_false, zk1, zk2, zk3, zk4, zk5, zk6, zk7, zk8, zk9, zk10, zk11, zk12, zk13, zk14, zk15, zk16, zk17, zk18, zk19, zk20, zk21, zk22, zk23, zk24, zk25, zk26, zk27, zk28, zk29, zk30, zk31, zk32, zk33, zk34, zk35, zk36, zk37, zk38, zk39, zk40, zk41, zk42, zk43, zk44, zk45, zk46, zk47, zk48, zk49, zk50, zk51, zk52, zk53, zk54, zk55, zk56, zk57, zk58, zk59, zk60, zk61, zk62, zk63, zk64, zk65, zk66, zk67, zk68, zk69, zk70, zk71, zk72, zk73, zk74, zk75, zk76, zk77, zk78, zk79, zk80, zk81, zk82, zk83, zk84, zk85, zk86, zk87, zk88, zk89, zk90, zr2_0, zr2_1, zr2_2, zr2_3, zr2_4, zr2_6, zr2_7, zr2_10, zr2_11, zr2_12, zr1_0, zr1_1, zr14_0, zr14_1, zr14_2, zr14_3, zr14_4, zr14_6, zr14_7, zr14_10, zr14_11, zr14_12, zr13_0, zr25_0, zr25_1, zr25_2, zr25_3, zr25_4, zr25_6, zr25_7, zr25_10, zr25_11, zr25_12, zr13_1, zr1_2, zr37_0, zr1_3, zr39_0, zr39_1, zr39_2, zr39_5, zr39_7, zr39_8, zr1_4, zr46_1, zr46_2, zr46_3, zr46_4, zr46_0, zr1_5, zr51_2, zr51_10, zr51_0, zr51_1, zr54_1, zr54_2, zr54_3, zr1_6, zr58_1, zr58_2, zr58_3, zr58_0, zr1_7, zr62_2, zr62_3, zr62_0, zr62_1, zr1_8, zr1_9, zr1_10, zr1_15, zr68_2, zr68_3, zr68_4, zr68_5, zr68_7, zr68_8, zr68_9, zr68_12, zr68_13, zr68_14, zr68_22, zr68_23, zr68_24, zr68_26, zr68_35, zr68_36, zr68_37, zr68_38, zr68_39, zr68_40, zr68_41, zr68_42, e_within, n10, eY, nb, ac]
  refine wpo_mono dev ?_
  intro q hq
  subst hq
  have x1 : ∀ i, mup (mup (mup Y.1 36 0 1) 1 14 0) 58 4 0 1 i = if i = 14 then 0 else σ.1 1 i := fun i => by rw [mup_cell (by decide), mup_if, mup_cell (by decide), y3 1 (by decide)]
  have x36 : ∀ i, mup (mup (mup Y.1 36 0 1) 1 14 0) 58 4 0 36 i = if i = 0 then 1 else σ.1 36 i := fun i => by rw [mup_cell (by decide), mup_cell (by decide), mup_if, y3 36 (by decide)]
  have x58 : mup (mup (mup Y.1 36 0 1) 1 14 0) 58 4 0 58 4 = 0 := mup_same
  have xY : ∀ u, u ≠ 1 → u ≠ 36 → u ≠ 58 → mup (mup (mup Y.1 36 0 1) 1 14 0) 58 4 0 u = Y.1 u := fun u a b d => by rw [mup_fun d, mup_fun a, mup_fun b]
  generalize eX : ((mup (mup (mup Y.1 36 0 1) 1 14 0) 58 4 0, Y.2) : mS) = X
  have gB : zB X := by rw [← eX]; exact b3
  have g1 : ∀ i, X.1 1 i = if i = 14 then 0 else σ.1 1 i := fun i => by rw [← eX]; exact x1 i
  have g36 : ∀ i, X.1 36 i = if i = 0 then 1 else σ.1 36 i := fun i => by rw [← eX]; exact x36 i
  have g58 : X.1 58 4 = 0 := by rw [← eX]; exact x58
  have gY : ∀ u, u ≠ 1 → u ≠ 36 → u ≠ 58 → X.1 u = Y.1 u := fun u a b d => by rw [← eX]; exact xY u a b d
  have g2 : X.2 = σ.2 := by rw [← eX]; exact y2
  have gX : ∀ u, u ≠ 1 ∧ u ≠ 36 ∧ u ≠ 58 ∧ ¬ (14 ≤ u ∧ u ≤ 24) → X.1 u = σ.1 u := fun u x => (gY u x.1 x.2.1 x.2.2.1).trans (y3 u x.2.2.2)
  clear eX x1 x36 x58 xY dev b1 b2 b3
  have h70x : X.1 70 = A := (gX 70 (by decide)).trans h70
  have v68 : X.1 68 = σ.1 68 := gX 68 (by decide)
  have rr := r_image (X := X) (i := 0) (vv := σ.1 68 1) gB (by decide) (by decide) (by rw [v68]) vk
  generalize hQ : (fun z => ∃ Z : mS, (zB Z ∧ Z.2 = X.2 ∧ (∀ u, u ≠ 71 → u ≠ 72 → Z.1 u = X.1 u) ∧ (∀ j, Z.1 71 j = if 4994 * 0 ≤ j ∧ j < 4994 * 0 + 4994 then X.1 70 (j - 4994 * 0) else X.1 71 j) ∧ (∀ j, Z.1 72 j = if j = 0 then 1 else X.1 72 j)) ∧ z = ((0 : Int), (mup (mup Z.1 68 0 0) 68 1 (σ.1 68 1 + 1), Z.2))) = Q at rr
  have ref : wpo (M_Mo_image 68 0 X) Q := by
    unfold M_Mo_image
    simp (maxSteps := 5000000) (disch := first | assumption | omega) only [wpo_bind, wpo_some, wpo_gf, wpo_gk, wpo_ld, wpo_pf, wpo_pz, wpo_sd, wpo_sr, wpo_ln, wpo_idv, wpo_irm, wpo_lrm, wpo_ldv, wpo_cpy, mlet, mnar_int, mup_same, mup_cell, mup_slot, ite_true, ite_false, true_and, and_true, eq_self, or_true, true_or, and_self, Int.reduceLT, Int.reduceLE, Int.reduceEq, Int.reduceNe, Int.reduceAdd, Int.reduceSub, Int.reduceMul, Int.reduceNeg, ne_eq, not_false_eq_true, not_true_eq_false, false_or, or_false, zor_inl, zor_inr, Bool.false_eq_true, false_and, and_false, zk1, zk2, zk3, zk4, zk5, zk6, zk7, zk8, zk9, zk10, zk11, zk12, zk13, zk14, zk15, zk16, zk17, zk18, zk19, zk20, zk21, zk22, zk23, zk24, zk25, zk26, zk27, zk28, zk29, zk30, zk31, zk32, zk33, zk34, zk35, zk36, zk37, zk38, zk39, zk40, zk41, zk42, zk43, zk44, zk45, zk46, zk47, zk48, zk49, zk50, zk51, zk52, zk53, zk54, zk55, zk56, zk57, zk58, zk59, zk60, zk61, zk62, zk63, zk64, zk65, zk66, zk67, zk68, zk69, zk70, zk71, zk72, zk73, zk74, zk75, zk76, zk77, zk78, zk79, zk80, zk81, zk82, zk83, zk84, zk85, zk86, zk87, zk88, zk89, zk90, zr2_0, zr2_1, zr2_2, zr2_3, zr2_4, zr2_6, zr2_7, zr2_10, zr2_11, zr2_12, zr1_0, zr1_1, zr14_0, zr14_1, zr14_2, zr14_3, zr14_4, zr14_6, zr14_7, zr14_10, zr14_11, zr14_12, zr13_0, zr25_0, zr25_1, zr25_2, zr25_3, zr25_4, zr25_6, zr25_7, zr25_10, zr25_11, zr25_12, zr13_1, zr1_2, zr37_0, zr1_3, zr39_0, zr39_1, zr39_2, zr39_5, zr39_7, zr39_8, zr1_4, zr46_1, zr46_2, zr46_3, zr46_4, zr46_0, zr1_5, zr51_2, zr51_10, zr51_0, zr51_1, zr54_1, zr54_2, zr54_3, zr1_6, zr58_1, zr58_2, zr58_3, zr58_0, zr1_7, zr62_2, zr62_3, zr62_0, zr62_1, zr1_8, zr1_9, zr1_10, zr1_15, zr68_2, zr68_3, zr68_4, zr68_5, zr68_7, zr68_8, zr68_9, zr68_12, zr68_13, zr68_14, zr68_22, zr68_23, zr68_24, zr68_26, zr68_35, zr68_36, zr68_37, zr68_38, zr68_39, zr68_40, zr68_41, zr68_42, e_lies, n10]
    exact rr
  clear rr
  refine wpo_mono ref ?_
  intro z hz
  rw [← hQ] at hz
  obtain ⟨Z, ⟨z1, z2, z3, z4, z5⟩, ez⟩ := hz
  subst ez
  refine ⟨rfl, D, A, ?_⟩
  have c1 := zB_mup (r := 68) (i := 0) (v := 0) z1 (by decide +kernel)
  have c2 := zB_mup (r := 68) (i := 1) (v := σ.1 68 1 + 1) c1 (by decide +kernel)
  have t68 : ∀ i, mup (mup Z.1 68 0 0) 68 1 (σ.1 68 1 + 1) 68 i = if i = 1 then σ.1 68 1 + 1 else if i = 0 then 0 else σ.1 68 i := fun i => by rw [mup_if, mup_if, z3 68 (by decide) (by decide), v68]
  have tZ : ∀ u, u ≠ 68 → mup (mup Z.1 68 0 0) 68 1 (σ.1 68 1 + 1) u = Z.1 u := fun u a => by rw [mup_fun a, mup_fun a]
  generalize eW : ((mup (mup Z.1 68 0 0) 68 1 (σ.1 68 1 + 1), Z.2) : mS) = W
  have w68 : ∀ i, W.1 68 i = if i = 1 then σ.1 68 1 + 1 else if i = 0 then 0 else σ.1 68 i := fun i => by rw [← eW]; exact t68 i
  have wZ : ∀ u, u ≠ 68 → W.1 u = Z.1 u := fun u a => by rw [← eW]; exact tZ u a
  have wX : ∀ u, u ≠ 68 → u ≠ 71 → u ≠ 72 → W.1 u = X.1 u := fun u a b d => (wZ u a).trans (z3 u b d)
  have wB : zB W := by rw [← eW]; exact c2
  have wk : W.2 = X.2 := by rw [← eW]; exact z2
  have wk2 : W.2 = σ.2 := wk.trans g2
  have w71 : ∀ j, W.1 71 j = if 4994 * 0 ≤ j ∧ j < 4994 * 0 + 4994 then A (j - 4994 * 0) else σ.1 71 j := fun j => by rw [wZ 71 (by decide), z4, h70x, gX 71 (by decide)]
  have w72 : ∀ j, W.1 72 j = if j = 0 then 1 else σ.1 72 j := fun j => by rw [wZ 72 (by decide), z5, gX 72 (by decide)]
  clear eW t68 tZ c1 c2 ref hQ
  have lw : ∀ b t, zLaw σ b (D t) → zLaw W b (D t) := fun b t l => by
    have lo := l.1.1
    exact zLaw_frame l (by rw [wk2]; exact Int.le_refl _) (fun j a b => ⟨(wX _ (by omega) (by omega) (by omega)).trans (gX _ (by omega)), by rw [wk2]⟩)
  have fr : ∀ u, u ≠ 1 ∧ u ≠ 36 ∧ u ≠ 58 ∧ u ≠ 68 ∧ u ≠ 71 ∧ u ≠ 72 ∧ ¬ (14 ≤ u ∧ u ≤ 24) → W.1 u = σ.1 u := fun u x => (wX u (by omega) (by omega) (by omega)).trans (gX u (by omega))
  have r5 : ∀ u, 14 ≤ u ∧ u ≤ 24 → W.1 u = Y.1 u := fun u x => (wX u (by omega) (by omega) (by omega)).trans (gY u (by omega) (by omega) (by omega))
  obtain ⟨r1, r2, r3, r4, rr5, r6, r7, r8, r9, r10⟩ := q4
  refine ⟨⟨⟨wB, hW, zRoad_frame hR (fun r a b => fr r (by omega)), ?_, ?_⟩, by unfold zN; rw [wk2]; exact q1.2.1, Or.inl (by rw [wX 58 (by decide) (by decide) (by decide)]; exact g58)⟩, ?_, q3, ⟨?_, ?_, ?_, ?_, ?_, ?_, ?_, ?_, ?_, ?_⟩, ⟨?_, ?_⟩, ?_⟩
  · intro t t0 t1
    rw [fr (2 + 7) (by decide)]
    exact lw _ t (hL t t0 t1)
  · exact zAir_new q1.1.2.2.2.2 (by rw [wk2]; exact Int.le_refl _) (fun r _ => by rw [wk2]) (fun r hr => fr r (by omega)) (fun p p0 p1 => by rw [fr 48 (by decide)]; exact ⟨Int.le_refl _, (q1.1.2.2.2.2.1 p p0 p1).2, fun _ s i => rfl⟩)
  · refine ⟨wB, hW, q2.2.2.1, by rw [fr 70 (by decide)]; exact h70, q2.2.2.2.2.1, ?_, ?_⟩
    · rw [w68, if_pos rfl]; omega
    · rcases q2.2.2.2.2.2.2 with g | ⟨g, g'⟩
      · exact Or.inl (by rw [w68, if_neg (by decide), if_neg (by decide)]; exact g)
      · refine Or.inr ⟨by rw [w68, if_neg (by decide), if_neg (by decide)]; exact g, fun s s0 s1 => ?_⟩
        have := (g' s s0 s1).1
        rw [w68, if_pos rfl, fr 81 (by decide)]
        exact ⟨by omega, fun e => by omega⟩
  · rw [wX 1 (by decide) (by decide) (by decide), g1, if_pos rfl, w68, if_neg (by decide), if_pos rfl]
  · intro j j0 j1
    rw [fr 67 (by decide), fr 69 (by decide)]
    have := r2 j j0 j1
    omega
  · rw [wX 1 (by decide) (by decide) (by decide), g1, if_neg (by decide), w68, if_neg (by decide), if_neg (by decide)]; exact r3
  · rw [wX 1 (by decide) (by decide) (by decide), g1, if_neg (by decide), w68, if_neg (by decide), if_neg (by decide)]; exact r4
  · rw [fr 37 (by decide), w68, if_neg (by decide), if_neg (by decide)]; exact rr5
  · rw [fr 74 (by decide), fr 38 (by decide)]; exact r6
  · rw [wX 1 (by decide) (by decide) (by decide), g1, if_neg (by decide), w68, if_neg (by decide), if_neg (by decide)]; exact r7
  · rw [w68, if_neg (by decide), if_neg (by decide), fr 65 (by decide), fr 66 (by decide), fr 89 (by decide), fr 90 (by decide)]; exact r8
  · intro p p0 p1
    rw [fr 48 (by decide)]
    have := r9 p p0 p1
    omega
  · rw [w68, if_pos rfl]; omega
  · intro b hb t t0 t1 t2
    rcases hb with e | e | e <;> subst e
    · rw [fr 2 (by decide)] at t1
      rw [fr (2 + 7) (by decide)]
      exact q5.1 2 (Or.inl rfl) t t0 t1 t2
    · have e8 : W.1 14 8 = σ.1 2 8 := by rw [r5 14 (by decide)]; exact v6.2.1
      rw [e8] at t1
      show W.1 21 t = 0
      rw [r5 21 (by decide), v4 t t0 t2]
      exact q5.1 2 (Or.inl rfl) t t0 t1 t2
    · rw [fr 25 (by decide)] at t1
      rw [fr (25 + 7) (by decide)]
      exact q5.1 25 (by decide) t t0 t1 t2
  · intro i i0 i1
    have wi := w72 i
    by_cases ci : i = 0
    · subst ci
      rw [if_pos rfl] at wi
      have e36 : W.1 36 0 = 1 := by rw [wX 36 (by decide) (by decide) (by decide), g36, if_pos rfl]
      refine ⟨⟨e36.trans wi.symm, Or.inr wi⟩, fun _ => ⟨D, A, hW, fun j j0 j1 => ?_, ?_, ?_, q3⟩⟩
      · rw [w71, if_pos (by omega)]; exact congrArg A (by omega)
      · refine zRoad_cp (b := 2) (h := σ.1) hR ?_ ?_ ?_ ?_ ?_
        · intro j j0 j1
          show W.1 15 j = σ.1 3 j ∧ W.1 16 j = σ.1 4 j ∧ W.1 17 j = σ.1 5 j
          rw [r5 15 (by decide), r5 16 (by decide), r5 17 (by decide)]; exact v1 j j0 j1
        · intro j j0 j1
          show W.1 18 j = σ.1 6 j ∧ W.1 19 j = σ.1 7 j
          rw [r5 18 (by decide), r5 19 (by decide)]; exact v2 j j0 j1
        · intro j j0 j1
          show W.1 20 j = σ.1 8 j
          rw [r5 20 (by decide)]; exact v3 j j0 j1
        · intro j j0 j1
          show W.1 22 j = σ.1 10 j ∧ W.1 23 j = σ.1 11 j ∧ W.1 24 j = σ.1 12 j
          rw [r5 22 (by decide), r5 23 (by decide), r5 24 (by decide)]; exact v5 j j0 j1
        · show W.1 14 5 = σ.1 2 5 ∧ W.1 14 8 = σ.1 2 8 ∧ W.1 14 9 = σ.1 2 9 ∧ W.1 14 13 = σ.1 2 13
          rw [r5 14 (by decide)]; exact v6
      · intro t t0 t1
        have hn := hW.2.2.2.2.2.2.2.1
        show zLaw W (W.1 21 t) (D t)
        rw [r5 21 (by decide), v4 t t0 (by omega)]
        exact lw _ t (hL t t0 t1)
    · have ei : i = 1 := by omega
      subst ei
      rw [if_neg (by decide)] at wi
      obtain ⟨o1, o2⟩ := q5.2 1 (by decide) (by decide)
      have e36 : W.1 36 1 = σ.1 36 1 := by rw [wX 36 (by decide) (by decide) (by decide), g36, if_neg (by decide)]
      rw [wi, e36]
      refine ⟨o1, fun e => ?_⟩
      obtain ⟨D2, A2, a1, a2, a3, a4, a5⟩ := o2 e
      refine ⟨D2, A2, a1, fun j j0 j1 => by rw [w71, if_neg (by omega)]; exact a2 j j0 j1, zRoad_frame a3 (fun r a b => fr r (by omega)), ?_, a5⟩
      intro t t0 t1
      rw [fr (14 + 11 * 1 + 7) (by decide)]
      have l := a4 t t0 t1
      have lo := l.1.1
      exact zLaw_frame l (by rw [wk2]; exact Int.le_refl _) (fun j a b => ⟨fr _ (by omega), by rw [wk2]⟩)
  · unfold zCn
    rw [fr 47 (by decide), wk2]
    exact ⟨by have := q6.1; omega, by have := q6.2; omega⟩
set_option maxHeartbeats 8000000 in
theorem s_back0 (k : Nat) (hk : k ≤ 1000) : zStp k (M_RW_back 1 0) (M_Mo_back 68 0) := by
  intro D A σ hI
  have hI0 := hI
  obtain ⟨q1, q2, q3, q4, q5, q6⟩ := hI
  have hB := q1.1.1
  have vk := q2.2.2.2.2.2.1
  have h70 := q2.2.2.2.1
  have n10 : ¬ (1 : Int) = 0 := by decide
  obtain ⟨⟨i1, i2⟩, i3⟩ := q5.2 0 (by decide) (by decide)
  by_cases c0 : σ.1 72 0 = 0
  · have c36 : σ.1 36 0 = 0 := i1.trans c0
    refine zRefu (by' := -2) (m := 2) hI0 hk (by decide) (by decide) (fun rf => ?_) (fun σ1 hB1 xf rf => ?_)
    · unfold M_RW_back
      simp (maxSteps := 5000000) (disch := first | assumption | omega) only [wpo_bind, wpo_some, wpo_gf, wpo_gk, wpo_ld, wpo_pf, wpo_pz, wpo_sd, wpo_sr, wpo_ln, wpo_idv, wpo_irm, wpo_lrm, wpo_ldv, wpo_cpy, mlet, mnar_int, mup_same, mup_cell, mup_slot, ite_true, ite_false, true_and, and_true, eq_self, or_true, true_or, and_self, Int.reduceLT, Int.reduceLE, Int.reduceEq, Int.reduceNe, Int.reduceAdd, Int.reduceSub, Int.reduceMul, Int.reduceNeg, ne_eq, not_false_eq_true, not_true_eq_false, false_or, or_false, zor_inl, zor_inr, Bool.false_eq_true, false_and, and_false, zk1, zk2, zk3, zk4, zk5, zk6, zk7, zk8, zk9, zk10, zk11, zk12, zk13, zk14, zk15, zk16, zk17, zk18, zk19, zk20, zk21, zk22, zk23, zk24, zk25, zk26, zk27, zk28, zk29, zk30, zk31, zk32, zk33, zk34, zk35, zk36, zk37, zk38, zk39, zk40, zk41, zk42, zk43, zk44, zk45, zk46, zk47, zk48, zk49, zk50, zk51, zk52, zk53, zk54, zk55, zk56, zk57, zk58, zk59, zk60, zk61, zk62, zk63, zk64, zk65, zk66, zk67, zk68, zk69, zk70, zk71, zk72, zk73, zk74, zk75, zk76, zk77, zk78, zk79, zk80, zk81, zk82, zk83, zk84, zk85, zk86, zk87, zk88, zk89, zk90, zr2_0, zr2_1, zr2_2, zr2_3, zr2_4, zr2_6, zr2_7, zr2_10, zr2_11, zr2_12, zr1_0, zr1_1, zr14_0, zr14_1, zr14_2, zr14_3, zr14_4, zr14_6, zr14_7, zr14_10, zr14_11, zr14_12, zr13_0, zr25_0, zr25_1, zr25_2, zr25_3, zr25_4, zr25_6, zr25_7, zr25_10, zr25_11, zr25_12, zr13_1, zr1_2, zr37_0, zr1_3, zr39_0, zr39_1, zr39_2, zr39_5, zr39_7, zr39_8, zr1_4, zr46_1, zr46_2, zr46_3, zr46_4, zr46_0, zr1_5, zr51_2, zr51_10, zr51_0, zr51_1, zr54_1, zr54_2, zr54_3, zr1_6, zr58_1, zr58_2, zr58_3, zr58_0, zr1_7, zr62_2, zr62_3, zr62_0, zr62_1, zr1_8, zr1_9, zr1_10, zr1_15, zr68_2, zr68_3, zr68_4, zr68_5, zr68_7, zr68_8, zr68_9, zr68_12, zr68_13, zr68_14, zr68_22, zr68_23, zr68_24, zr68_26, zr68_35, zr68_36, zr68_37, zr68_38, zr68_39, zr68_40, zr68_41, zr68_42, e_within, n10, c36, rf]
    · have x72 : σ1.1 72 0 = 0 := by rw [xf 72 (by decide) (by decide)]; exact c0
      unfold M_Mo_back
      simp (maxSteps := 5000000) (disch := first | assumption | omega) only [wpo_bind, wpo_some, wpo_gf, wpo_gk, wpo_ld, wpo_pf, wpo_pz, wpo_sd, wpo_sr, wpo_ln, wpo_idv, wpo_irm, wpo_lrm, wpo_ldv, wpo_cpy, mlet, mnar_int, mup_same, mup_cell, mup_slot, ite_true, ite_false, true_and, and_true, eq_self, or_true, true_or, and_self, Int.reduceLT, Int.reduceLE, Int.reduceEq, Int.reduceNe, Int.reduceAdd, Int.reduceSub, Int.reduceMul, Int.reduceNeg, ne_eq, not_false_eq_true, not_true_eq_false, false_or, or_false, zor_inl, zor_inr, Bool.false_eq_true, false_and, and_false, zk1, zk2, zk3, zk4, zk5, zk6, zk7, zk8, zk9, zk10, zk11, zk12, zk13, zk14, zk15, zk16, zk17, zk18, zk19, zk20, zk21, zk22, zk23, zk24, zk25, zk26, zk27, zk28, zk29, zk30, zk31, zk32, zk33, zk34, zk35, zk36, zk37, zk38, zk39, zk40, zk41, zk42, zk43, zk44, zk45, zk46, zk47, zk48, zk49, zk50, zk51, zk52, zk53, zk54, zk55, zk56, zk57, zk58, zk59, zk60, zk61, zk62, zk63, zk64, zk65, zk66, zk67, zk68, zk69, zk70, zk71, zk72, zk73, zk74, zk75, zk76, zk77, zk78, zk79, zk80, zk81, zk82, zk83, zk84, zk85, zk86, zk87, zk88, zk89, zk90, zr2_0, zr2_1, zr2_2, zr2_3, zr2_4, zr2_6, zr2_7, zr2_10, zr2_11, zr2_12, zr1_0, zr1_1, zr14_0, zr14_1, zr14_2, zr14_3, zr14_4, zr14_6, zr14_7, zr14_10, zr14_11, zr14_12, zr13_0, zr25_0, zr25_1, zr25_2, zr25_3, zr25_4, zr25_6, zr25_7, zr25_10, zr25_11, zr25_12, zr13_1, zr1_2, zr37_0, zr1_3, zr39_0, zr39_1, zr39_2, zr39_5, zr39_7, zr39_8, zr1_4, zr46_1, zr46_2, zr46_3, zr46_4, zr46_0, zr1_5, zr51_2, zr51_10, zr51_0, zr51_1, zr54_1, zr54_2, zr54_3, zr1_6, zr58_1, zr58_2, zr58_3, zr58_0, zr1_7, zr62_2, zr62_3, zr62_0, zr62_1, zr1_8, zr1_9, zr1_10, zr1_15, zr68_2, zr68_3, zr68_4, zr68_5, zr68_7, zr68_8, zr68_9, zr68_12, zr68_13, zr68_14, zr68_22, zr68_23, zr68_24, zr68_26, zr68_35, zr68_36, zr68_37, zr68_38, zr68_39, zr68_40, zr68_41, zr68_42, e_lies, n10, x72, rf]
  · have c1 : σ.1 72 0 = 1 := by rcases i2 with h | h; exact absurd h c0; exact h
    have c36 : σ.1 36 0 = 1 := i1.trans c1
    obtain ⟨D2, A2, a1, a2, a3, a4, a5⟩ := i3 c1
    have h8 : σ.1 14 8 = A2 186 := a3.2.2.2.2.1
    obtain ⟨Y, eY, y1, y2, y3, v1, v2, v3, v4, v5, v6⟩ := d_copy_2_14 hB (zL0_ref (b := 14) q5.1 (by decide) h8 a4)
    have e48 : Y.1 48 = σ.1 48 := y3 48 (by decide)
    have ag := q1.1.2.2.2.2.1
    obtain ⟨U, eU, u1, u2, u3, u4⟩ := d_forgetAll (σ := Y) y1 (fun p p0 p1 => by rw [e48]; have := ag p p0 p1; omega)
    have ac := e_accept (v := 0) u1
    have dev : wpo (M_RW_back 1 0 σ) (fun q => q = (0, (mup (mup U.1 1 14 0) 58 4 0, U.2))) := by
      unfold M_RW_back
      simp (maxSteps := 5000000) (disch := first | assumption | omega) only [wpo_bind, wpo_some, wpo_gf, wpo_gk, wpo_ld, wpo_pf, wpo_pz, wpo_sd, wpo_sr, wpo_ln, wpo_idv, wpo_irm, wpo_lrm, wpo_ldv, wpo_cpy, mlet, mnar_int, mup_same, mup_cell, mup_slot, ite_true, ite_false, true_and, and_true, eq_self, or_true, true_or, and_self, Int.reduceLT, Int.reduceLE, Int.reduceEq, Int.reduceNe, Int.reduceAdd, Int.reduceSub, Int.reduceMul, Int.reduceNeg, ne_eq, not_false_eq_true, not_true_eq_false, false_or, or_false, zor_inl, zor_inr, Bool.false_eq_true, false_and, and_false, zk1, zk2, zk3, zk4, zk5, zk6, zk7, zk8, zk9, zk10, zk11, zk12, zk13, zk14, zk15, zk16, zk17, zk18, zk19, zk20, zk21, zk22, zk23, zk24, zk25, zk26, zk27, zk28, zk29, zk30, zk31, zk32, zk33, zk34, zk35, zk36, zk37, zk38, zk39, zk40, zk41, zk42, zk43, zk44, zk45, zk46, zk47, zk48, zk49, zk50, zk51, zk52, zk53, zk54, zk55, zk56, zk57, zk58, zk59, zk60, zk61, zk62, zk63, zk64, zk65, zk66, zk67, zk68, zk69, zk70, zk71, zk72, zk73, zk74, zk75, zk76, zk77, zk78, zk79, zk80, zk81, zk82, zk83, zk84, zk85, zk86, zk87, zk88, zk89, zk90, zr2_0, zr2_1, zr2_2, zr2_3, zr2_4, zr2_6, zr2_7, zr2_10, zr2_11, zr2_12, zr1_0, zr1_1, zr14_0, zr14_1, zr14_2, zr14_3, zr14_4, zr14_6, zr14_7, zr14_10, zr14_11, zr14_12, zr13_0, zr25_0, zr25_1, zr25_2, zr25_3, zr25_4, zr25_6, zr25_7, zr25_10, zr25_11, zr25_12, zr13_1, zr1_2, zr37_0, zr1_3, zr39_0, zr39_1, zr39_2, zr39_5, zr39_7, zr39_8, zr1_4, zr46_1, zr46_2, zr46_3, zr46_4, zr46_0, zr1_5, zr51_2, zr51_10, zr51_0, zr51_1, zr54_1, zr54_2, zr54_3, zr1_6, zr58_1, zr58_2, zr58_3, zr58_0, zr1_7, zr62_2, zr62_3, zr62_0, zr62_1, zr1_8, zr1_9, zr1_10, zr1_15, zr68_2, zr68_3, zr68_4, zr68_5, zr68_7, zr68_8, zr68_9, zr68_12, zr68_13, zr68_14, zr68_22, zr68_23, zr68_24, zr68_26, zr68_35, zr68_36, zr68_37, zr68_38, zr68_39, zr68_40, zr68_41, zr68_42, e_within, n10, c36, eY, eU, ac]
    refine wpo_mono dev ?_
    intro q hq
    subst hq
    have b2 := zB_mup (r := 1) (i := 14) (v := 0) u1 (by decide +kernel)
    have b3 := zB_mup (r := 58) (i := 4) (v := 0) b2 (by decide +kernel)
    have x1 : ∀ i, mup (mup U.1 1 14 0) 58 4 0 1 i = if i = 14 then 0 else σ.1 1 i := fun i => by rw [mup_cell (by decide), mup_if, u3 1 (by decide), y3 1 (by decide)]
    have x58 : mup (mup U.1 1 14 0) 58 4 0 58 4 = 0 := mup_same
    have xY : ∀ u, u ≠ 1 → u ≠ 58 → mup (mup U.1 1 14 0) 58 4 0 u = U.1 u := fun u a d => by rw [mup_fun d, mup_fun a]
    generalize eX : ((mup (mup U.1 1 14 0) 58 4 0, U.2) : mS) = X
    have gB : zB X := by rw [← eX]; exact b3
    have g1 : ∀ i, X.1 1 i = if i = 14 then 0 else σ.1 1 i := fun i => by rw [← eX]; exact x1 i
    have g58 : X.1 58 4 = 0 := by rw [← eX]; exact x58
    have gU : ∀ u, u ≠ 1 → u ≠ 58 → X.1 u = U.1 u := fun u a d => by rw [← eX]; exact xY u a d
    have g2 : X.2 = σ.2 := by rw [← eX]; exact u2.trans y2
    have gY : ∀ u, u ≠ 1 → u ≠ 58 → u ≠ 48 → X.1 u = Y.1 u := fun u a d b => (gU u a d).trans (u3 u b)
    have gX : ∀ u, u ≠ 1 ∧ u ≠ 48 ∧ u ≠ 58 ∧ ¬ (2 ≤ u ∧ u ≤ 12) → X.1 u = σ.1 u := fun u x => (gY u x.1 x.2.2.1 x.2.1).trans (y3 u x.2.2.2)
    have g48 : ∀ p, 0 ≤ p → p < 64 → X.1 48 p = σ.1 48 p + 1 := fun p p0 p1 => by rw [gU 48 (by decide) (by decide), u4 p p0 p1, e48]
    clear eX x1 x58 xY dev b2 b3
    have h70x : X.1 70 = A := (gX 70 (by decide)).trans h70
    have v68 : X.1 68 = σ.1 68 := gX 68 (by decide)
    have x72 : X.1 72 0 = 1 := by rw [gX 72 (by decide)]; exact c1
    have rr := r_back (X := X) (i := 0) (vv := σ.1 68 1) gB (by decide) (by decide) (by rw [v68]) vk
    generalize hQ : (fun z => ∃ Z : mS, (zB Z ∧ Z.2 = X.2 ∧ (∀ u, u ≠ 70 → Z.1 u = X.1 u) ∧ (∀ j, Z.1 70 j = if 0 ≤ j ∧ j < 4994 then X.1 71 (4994 * 0 + j) else X.1 70 j)) ∧ z = ((0 : Int), (mup (mup Z.1 68 0 0) 68 1 (σ.1 68 1 + 1), Z.2))) = Q at rr
    have ref : wpo (M_Mo_back 68 0 X) Q := by
      unfold M_Mo_back
      simp (maxSteps := 5000000) (disch := first | assumption | omega) only [wpo_bind, wpo_some, wpo_gf, wpo_gk, wpo_ld, wpo_pf, wpo_pz, wpo_sd, wpo_sr, wpo_ln, wpo_idv, wpo_irm, wpo_lrm, wpo_ldv, wpo_cpy, mlet, mnar_int, mup_same, mup_cell, mup_slot, ite_true, ite_false, true_and, and_true, eq_self, or_true, true_or, and_self, Int.reduceLT, Int.reduceLE, Int.reduceEq, Int.reduceNe, Int.reduceAdd, Int.reduceSub, Int.reduceMul, Int.reduceNeg, ne_eq, not_false_eq_true, not_true_eq_false, false_or, or_false, zor_inl, zor_inr, Bool.false_eq_true, false_and, and_false, zk1, zk2, zk3, zk4, zk5, zk6, zk7, zk8, zk9, zk10, zk11, zk12, zk13, zk14, zk15, zk16, zk17, zk18, zk19, zk20, zk21, zk22, zk23, zk24, zk25, zk26, zk27, zk28, zk29, zk30, zk31, zk32, zk33, zk34, zk35, zk36, zk37, zk38, zk39, zk40, zk41, zk42, zk43, zk44, zk45, zk46, zk47, zk48, zk49, zk50, zk51, zk52, zk53, zk54, zk55, zk56, zk57, zk58, zk59, zk60, zk61, zk62, zk63, zk64, zk65, zk66, zk67, zk68, zk69, zk70, zk71, zk72, zk73, zk74, zk75, zk76, zk77, zk78, zk79, zk80, zk81, zk82, zk83, zk84, zk85, zk86, zk87, zk88, zk89, zk90, zr2_0, zr2_1, zr2_2, zr2_3, zr2_4, zr2_6, zr2_7, zr2_10, zr2_11, zr2_12, zr1_0, zr1_1, zr14_0, zr14_1, zr14_2, zr14_3, zr14_4, zr14_6, zr14_7, zr14_10, zr14_11, zr14_12, zr13_0, zr25_0, zr25_1, zr25_2, zr25_3, zr25_4, zr25_6, zr25_7, zr25_10, zr25_11, zr25_12, zr13_1, zr1_2, zr37_0, zr1_3, zr39_0, zr39_1, zr39_2, zr39_5, zr39_7, zr39_8, zr1_4, zr46_1, zr46_2, zr46_3, zr46_4, zr46_0, zr1_5, zr51_2, zr51_10, zr51_0, zr51_1, zr54_1, zr54_2, zr54_3, zr1_6, zr58_1, zr58_2, zr58_3, zr58_0, zr1_7, zr62_2, zr62_3, zr62_0, zr62_1, zr1_8, zr1_9, zr1_10, zr1_15, zr68_2, zr68_3, zr68_4, zr68_5, zr68_7, zr68_8, zr68_9, zr68_12, zr68_13, zr68_14, zr68_22, zr68_23, zr68_24, zr68_26, zr68_35, zr68_36, zr68_37, zr68_38, zr68_39, zr68_40, zr68_41, zr68_42, e_lies, n10, x72]
      exact rr
    clear rr
    refine wpo_mono ref ?_
    intro z hz
    rw [← hQ] at hz
    obtain ⟨Z, ⟨z1, z2, z3, z4⟩, ez⟩ := hz
    subst ez
    refine ⟨rfl, D2, Z.1 70, ?_⟩
    obtain ⟨zb, zx, z70, z68⟩ := zAcc_ref (σ := σ) (X := X) (Y := Z) z1 z2 z3 v68
    have hc : ∀ j, 0 ≤ j → j < 4994 → Z.1 70 j = A2 j := fun j j0 j1 => by rw [z4, if_pos ⟨j0, j1⟩, gX 71 (by decide)]; exact a2 j j0 j1
    have zk : ((mup (mup Z.1 68 0 0) 68 1 (σ.1 68 1 + 1), Z.2) : mS).2 = X.2 := z2
    generalize Z.1 70 = A3 at *
    generalize ((mup (mup Z.1 68 0 0) 68 1 (σ.1 68 1 + 1), Z.2) : mS) = W at *
    have a3' : zRoad 14 A2 σ.1 := a3
    have e186 : A3 186 = A2 186 := hc 186 (by decide) (by decide)
    have hn := a1.2.2.2.2.2.2.2.1
    have r9 := q4.2.2.2.2.2.2.2.2.1
    refine zChg (D := D) (A := A) (σ := σ) (σ1 := X) hI0 hk (zWF_cg a1 hc) (fun t t0 t1 => zLm_cg (a5 t t0 (by rw [← e186]; exact t1)) (fun j a b => hc j (by omega) b)) gB (by unfold zN; rw [g2]; exact q1.2.1) ⟨by rw [g2]; exact Int.le_refl _, by rw [g2]; omega⟩ (by rw [g2]; omega) (fun u _ => by rw [g2]) (fun u hu => gX u (by omega)) ?_ (zRoad_cg a1 (zRoad_cp (b := 14) (h := σ.1) a3' ?_ ?_ ?_ ?_ ?_) hc) ?_ g58 ?_ zb zk (fun u hu => zx u (by omega) (by omega)) z70 (by rw [z68, if_pos rfl]) (by rw [z68, if_neg (by decide), if_neg (by decide)]) (by rw [zx 81 (by decide) (by decide)]; exact gX 81 (by decide)) ?_
    · intro b hb t t0 t1 t2
      rcases hb with e | e | e <;> subst e
      · have e8 : X.1 2 8 = σ.1 14 8 := by rw [gY 2 (by decide) (by decide) (by decide)]; exact v6.2.1
        rw [e8] at t1
        show X.1 9 t = 0
        rw [gY 9 (by decide) (by decide) (by decide), v4 t t0 t2]
        exact q5.1 14 (by decide) t t0 t1 t2
      · rw [gX 14 (by decide)] at t1
        rw [gX (14 + 7) (by decide)]
        exact q5.1 14 (by decide) t t0 t1 t2
      · rw [gX 25 (by decide)] at t1
        rw [gX (25 + 7) (by decide)]
        exact q5.1 25 (by decide) t t0 t1 t2
    · intro j j0 j1
      show X.1 3 j = σ.1 15 j ∧ X.1 4 j = σ.1 16 j ∧ X.1 5 j = σ.1 17 j
      rw [gY 3 (by decide) (by decide) (by decide), gY 4 (by decide) (by decide) (by decide), gY 5 (by decide) (by decide) (by decide)]; exact v1 j j0 j1
    · intro j j0 j1
      show X.1 6 j = σ.1 18 j ∧ X.1 7 j = σ.1 19 j
      rw [gY 6 (by decide) (by decide) (by decide), gY 7 (by decide) (by decide) (by decide)]; exact v2 j j0 j1
    · intro j j0 j1
      show X.1 8 j = σ.1 20 j
      rw [gY 8 (by decide) (by decide) (by decide)]; exact v3 j j0 j1
    · intro j j0 j1
      show X.1 10 j = σ.1 22 j ∧ X.1 11 j = σ.1 23 j ∧ X.1 12 j = σ.1 24 j
      rw [gY 10 (by decide) (by decide) (by decide), gY 11 (by decide) (by decide) (by decide), gY 12 (by decide) (by decide) (by decide)]; exact v5 j j0 j1
    · show X.1 2 5 = σ.1 14 5 ∧ X.1 2 8 = σ.1 14 8 ∧ X.1 2 9 = σ.1 14 9 ∧ X.1 2 13 = σ.1 14 13
      rw [gY 2 (by decide) (by decide) (by decide)]; exact v6
    · intro t t0 t1
      rw [e186] at t1
      show zLaw X (X.1 9 t) (D2 t)
      rw [gY 9 (by decide) (by decide) (by decide), v4 t t0 (by omega)]
      have l : zLaw σ (σ.1 21 t) (D2 t) := a4 t t0 t1
      have lo := l.1.1
      exact zLaw_frame l (by rw [g2]; exact Int.le_refl _) (fun j a b => ⟨gX _ (by omega), by rw [g2]⟩)
    · intro p p0 p1
      have e := g48 p p0 p1
      have := r9 p p0 p1
      exact ⟨by omega, by omega, fun x => by omega⟩
    · refine zRs_acc q4 ?_ ?_ (fun u hu => ?_) (fun i hi => ?_) (fun i hi => ?_) (fun j j0 j1 => ?_) ?_
      · rw [zx 1 (by decide) (by decide), g1, if_pos rfl]
      · rw [z68, if_neg (by decide), if_pos rfl]
      · rw [zx u (by omega) (by omega)]; exact gX u (by omega)
      · rw [zx 1 (by decide) (by decide), g1, if_neg (by omega)]
      · rw [z68, if_neg (by omega), if_neg (by omega)]
      · rw [zx 48 (by decide) (by decide), g48 j j0 j1]; exact Int.le_refl _
      · rw [z68, if_pos rfl]
set_option maxHeartbeats 8000000 in
theorem s_image1 (k : Nat) (hk : k ≤ 1000) : zStp k (M_RW_image 1 1) (M_Mo_image 68 1) := by
  intro D A σ hI
  have hI0 := hI
  obtain ⟨q1, q2, q3, q4, q5, q6⟩ := hI
  have hB := q1.1.1
  have hW := q1.1.2.1
  have hR := q1.1.2.2.1
  have hL := q1.1.2.2.2.1
  have h70 := q2.2.2.2.1
  have vk := q2.2.2.2.2.2.1
  have n10 : ¬ (1 : Int) = 0 := by decide
  have h8 : σ.1 2 8 = A 186 := hR.2.2.2.2.1
  obtain ⟨Y, eY, y1, y2, y3, v1, v2, v3, v4, v5, v6⟩ := d_copy_25_2 hB (zL0_ref q5.1 (Or.inl rfl) h8 hL)
  have b1 := zB_mup (r := 36) (i := 1) (v := 1) y1 (zokr_arr (by decide +kernel))
  have b2 := zB_mup (r := 1) (i := 14) (v := 0) b1 (by decide +kernel)
  have b3 := zB_mup (r := 58) (i := 4) (v := 0) b2 (by decide +kernel)
  have ac := e_accept (v := 0) b1
  have nb : mnar 102 1 = 1 := by decide
  have dev : wpo (M_RW_image 1 1 σ) (fun q => q = (0, (mup (mup (mup Y.1 36 1 1) 1 14 0) 58 4 0, Y.2))) := by
    unfold M_RW_image
    simp (maxSteps := 5000000) (disch := first | assumption | omega) only [wpo_bind, wpo_some, wpo_gf, wpo_gk, wpo_ld, wpo_pf, wpo_pz, wpo_sd, wpo_sr, wpo_ln, wpo_idv, wpo_irm, wpo_lrm, wpo_ldv, wpo_cpy, mlet, mnar_int, mup_same, mup_cell, mup_slot, ite_true, ite_false, true_and, and_true, eq_self, or_true, true_or, and_self, Int.reduceLT, Int.reduceLE, Int.reduceEq, Int.reduceNe, Int.reduceAdd, Int.reduceSub, Int.reduceMul, Int.reduceNeg, ne_eq, not_false_eq_true, not_true_eq_false, false_or, or_false, zor_inl, zor_inr, Bool.false_eq_true, false_and, and_false, zk1, zk2, zk3, zk4, zk5, zk6, zk7, zk8, zk9, zk10, zk11, zk12, zk13, zk14, zk15, zk16, zk17, zk18, zk19, zk20, zk21, zk22, zk23, zk24, zk25, zk26, zk27, zk28, zk29, zk30, zk31, zk32, zk33, zk34, zk35, zk36, zk37, zk38, zk39, zk40, zk41, zk42, zk43, zk44, zk45, zk46, zk47, zk48, zk49, zk50, zk51, zk52, zk53, zk54, zk55, zk56, zk57, zk58, zk59, zk60, zk61, zk62, zk63, zk64, zk65, zk66, zk67, zk68, zk69, zk70, zk71, zk72, zk73, zk74, zk75, zk76, zk77, zk78, zk79, zk80, zk81, zk82, zk83, zk84, zk85, zk86, zk87, zk88, zk89, zk90, zr2_0, zr2_1, zr2_2, zr2_3, zr2_4, zr2_6, zr2_7, zr2_10, zr2_11, zr2_12, zr1_0, zr1_1, zr14_0, zr14_1, zr14_2, zr14_3, zr14_4, zr14_6, zr14_7, zr14_10, zr14_11, zr14_12, zr13_0, zr25_0, zr25_1, zr25_2, zr25_3, zr25_4, zr25_6, zr25_7, zr25_10, zr25_11, zr25_12, zr13_1, zr1_2, zr37_0, zr1_3, zr39_0, zr39_1, zr39_2, zr39_5, zr39_7, zr39_8, zr1_4, zr46_1, zr46_2, zr46_3, zr46_4, zr46_0, zr1_5, zr51_2, zr51_10, zr51_0, zr51_1, zr54_1, zr54_2, zr54_3, zr1_6, zr58_1, zr58_2, zr58_3, zr58_0, zr1_7, zr62_2, zr62_3, zr62_0, zr62_1, zr1_8, zr1_9, zr1_10, zr1_15, zr68_2, zr68_3, zr68_4, zr68_5, zr68_7, zr68_8, zr68_9, zr68_12, zr68_13, zr68_14, zr68_22, zr68_23, zr68_24, zr68_26, zr68_35, zr68_36, zr68_37, zr68_38, zr68_39, zr68_40, zr68_41, zr68_42, e_within, n10, eY, nb, ac]
  refine wpo_mono dev ?_
  intro q hq
  subst hq
  have x1 : ∀ i, mup (mup (mup Y.1 36 1 1) 1 14 0) 58 4 0 1 i = if i = 14 then 0 else σ.1 1 i := fun i => by rw [mup_cell (by decide), mup_if, mup_cell (by decide), y3 1 (by decide)]
  have x36 : ∀ i, mup (mup (mup Y.1 36 1 1) 1 14 0) 58 4 0 36 i = if i = 1 then 1 else σ.1 36 i := fun i => by rw [mup_cell (by decide), mup_cell (by decide), mup_if, y3 36 (by decide)]
  have x58 : mup (mup (mup Y.1 36 1 1) 1 14 0) 58 4 0 58 4 = 0 := mup_same
  have xY : ∀ u, u ≠ 1 → u ≠ 36 → u ≠ 58 → mup (mup (mup Y.1 36 1 1) 1 14 0) 58 4 0 u = Y.1 u := fun u a b d => by rw [mup_fun d, mup_fun a, mup_fun b]
  generalize eX : ((mup (mup (mup Y.1 36 1 1) 1 14 0) 58 4 0, Y.2) : mS) = X
  have gB : zB X := by rw [← eX]; exact b3
  have g1 : ∀ i, X.1 1 i = if i = 14 then 0 else σ.1 1 i := fun i => by rw [← eX]; exact x1 i
  have g36 : ∀ i, X.1 36 i = if i = 1 then 1 else σ.1 36 i := fun i => by rw [← eX]; exact x36 i
  have g58 : X.1 58 4 = 0 := by rw [← eX]; exact x58
  have gY : ∀ u, u ≠ 1 → u ≠ 36 → u ≠ 58 → X.1 u = Y.1 u := fun u a b d => by rw [← eX]; exact xY u a b d
  have g2 : X.2 = σ.2 := by rw [← eX]; exact y2
  have gX : ∀ u, u ≠ 1 ∧ u ≠ 36 ∧ u ≠ 58 ∧ ¬ (25 ≤ u ∧ u ≤ 35) → X.1 u = σ.1 u := fun u x => (gY u x.1 x.2.1 x.2.2.1).trans (y3 u x.2.2.2)
  clear eX x1 x36 x58 xY dev b1 b2 b3
  have h70x : X.1 70 = A := (gX 70 (by decide)).trans h70
  have v68 : X.1 68 = σ.1 68 := gX 68 (by decide)
  have rr := r_image (X := X) (i := 1) (vv := σ.1 68 1) gB (by decide) (by decide) (by rw [v68]) vk
  generalize hQ : (fun z => ∃ Z : mS, (zB Z ∧ Z.2 = X.2 ∧ (∀ u, u ≠ 71 → u ≠ 72 → Z.1 u = X.1 u) ∧ (∀ j, Z.1 71 j = if 4994 * 1 ≤ j ∧ j < 4994 * 1 + 4994 then X.1 70 (j - 4994 * 1) else X.1 71 j) ∧ (∀ j, Z.1 72 j = if j = 1 then 1 else X.1 72 j)) ∧ z = ((0 : Int), (mup (mup Z.1 68 0 0) 68 1 (σ.1 68 1 + 1), Z.2))) = Q at rr
  have ref : wpo (M_Mo_image 68 1 X) Q := by
    unfold M_Mo_image
    simp (maxSteps := 5000000) (disch := first | assumption | omega) only [wpo_bind, wpo_some, wpo_gf, wpo_gk, wpo_ld, wpo_pf, wpo_pz, wpo_sd, wpo_sr, wpo_ln, wpo_idv, wpo_irm, wpo_lrm, wpo_ldv, wpo_cpy, mlet, mnar_int, mup_same, mup_cell, mup_slot, ite_true, ite_false, true_and, and_true, eq_self, or_true, true_or, and_self, Int.reduceLT, Int.reduceLE, Int.reduceEq, Int.reduceNe, Int.reduceAdd, Int.reduceSub, Int.reduceMul, Int.reduceNeg, ne_eq, not_false_eq_true, not_true_eq_false, false_or, or_false, zor_inl, zor_inr, Bool.false_eq_true, false_and, and_false, zk1, zk2, zk3, zk4, zk5, zk6, zk7, zk8, zk9, zk10, zk11, zk12, zk13, zk14, zk15, zk16, zk17, zk18, zk19, zk20, zk21, zk22, zk23, zk24, zk25, zk26, zk27, zk28, zk29, zk30, zk31, zk32, zk33, zk34, zk35, zk36, zk37, zk38, zk39, zk40, zk41, zk42, zk43, zk44, zk45, zk46, zk47, zk48, zk49, zk50, zk51, zk52, zk53, zk54, zk55, zk56, zk57, zk58, zk59, zk60, zk61, zk62, zk63, zk64, zk65, zk66, zk67, zk68, zk69, zk70, zk71, zk72, zk73, zk74, zk75, zk76, zk77, zk78, zk79, zk80, zk81, zk82, zk83, zk84, zk85, zk86, zk87, zk88, zk89, zk90, zr2_0, zr2_1, zr2_2, zr2_3, zr2_4, zr2_6, zr2_7, zr2_10, zr2_11, zr2_12, zr1_0, zr1_1, zr14_0, zr14_1, zr14_2, zr14_3, zr14_4, zr14_6, zr14_7, zr14_10, zr14_11, zr14_12, zr13_0, zr25_0, zr25_1, zr25_2, zr25_3, zr25_4, zr25_6, zr25_7, zr25_10, zr25_11, zr25_12, zr13_1, zr1_2, zr37_0, zr1_3, zr39_0, zr39_1, zr39_2, zr39_5, zr39_7, zr39_8, zr1_4, zr46_1, zr46_2, zr46_3, zr46_4, zr46_0, zr1_5, zr51_2, zr51_10, zr51_0, zr51_1, zr54_1, zr54_2, zr54_3, zr1_6, zr58_1, zr58_2, zr58_3, zr58_0, zr1_7, zr62_2, zr62_3, zr62_0, zr62_1, zr1_8, zr1_9, zr1_10, zr1_15, zr68_2, zr68_3, zr68_4, zr68_5, zr68_7, zr68_8, zr68_9, zr68_12, zr68_13, zr68_14, zr68_22, zr68_23, zr68_24, zr68_26, zr68_35, zr68_36, zr68_37, zr68_38, zr68_39, zr68_40, zr68_41, zr68_42, e_lies, n10]
    exact rr
  clear rr
  refine wpo_mono ref ?_
  intro z hz
  rw [← hQ] at hz
  obtain ⟨Z, ⟨z1, z2, z3, z4, z5⟩, ez⟩ := hz
  subst ez
  refine ⟨rfl, D, A, ?_⟩
  have c1 := zB_mup (r := 68) (i := 0) (v := 0) z1 (by decide +kernel)
  have c2 := zB_mup (r := 68) (i := 1) (v := σ.1 68 1 + 1) c1 (by decide +kernel)
  have t68 : ∀ i, mup (mup Z.1 68 0 0) 68 1 (σ.1 68 1 + 1) 68 i = if i = 1 then σ.1 68 1 + 1 else if i = 0 then 0 else σ.1 68 i := fun i => by rw [mup_if, mup_if, z3 68 (by decide) (by decide), v68]
  have tZ : ∀ u, u ≠ 68 → mup (mup Z.1 68 0 0) 68 1 (σ.1 68 1 + 1) u = Z.1 u := fun u a => by rw [mup_fun a, mup_fun a]
  generalize eW : ((mup (mup Z.1 68 0 0) 68 1 (σ.1 68 1 + 1), Z.2) : mS) = W
  have w68 : ∀ i, W.1 68 i = if i = 1 then σ.1 68 1 + 1 else if i = 0 then 0 else σ.1 68 i := fun i => by rw [← eW]; exact t68 i
  have wZ : ∀ u, u ≠ 68 → W.1 u = Z.1 u := fun u a => by rw [← eW]; exact tZ u a
  have wX : ∀ u, u ≠ 68 → u ≠ 71 → u ≠ 72 → W.1 u = X.1 u := fun u a b d => (wZ u a).trans (z3 u b d)
  have wB : zB W := by rw [← eW]; exact c2
  have wk : W.2 = X.2 := by rw [← eW]; exact z2
  have wk2 : W.2 = σ.2 := wk.trans g2
  have w71 : ∀ j, W.1 71 j = if 4994 * 1 ≤ j ∧ j < 4994 * 1 + 4994 then A (j - 4994 * 1) else σ.1 71 j := fun j => by rw [wZ 71 (by decide), z4, h70x, gX 71 (by decide)]
  have w72 : ∀ j, W.1 72 j = if j = 1 then 1 else σ.1 72 j := fun j => by rw [wZ 72 (by decide), z5, gX 72 (by decide)]
  clear eW t68 tZ c1 c2 ref hQ
  have lw : ∀ b t, zLaw σ b (D t) → zLaw W b (D t) := fun b t l => by
    have lo := l.1.1
    exact zLaw_frame l (by rw [wk2]; exact Int.le_refl _) (fun j a b => ⟨(wX _ (by omega) (by omega) (by omega)).trans (gX _ (by omega)), by rw [wk2]⟩)
  have fr : ∀ u, u ≠ 1 ∧ u ≠ 36 ∧ u ≠ 58 ∧ u ≠ 68 ∧ u ≠ 71 ∧ u ≠ 72 ∧ ¬ (25 ≤ u ∧ u ≤ 35) → W.1 u = σ.1 u := fun u x => (wX u (by omega) (by omega) (by omega)).trans (gX u (by omega))
  have r5 : ∀ u, 25 ≤ u ∧ u ≤ 35 → W.1 u = Y.1 u := fun u x => (wX u (by omega) (by omega) (by omega)).trans (gY u (by omega) (by omega) (by omega))
  obtain ⟨r1, r2, r3, r4, rr5, r6, r7, r8, r9, r10⟩ := q4
  refine ⟨⟨⟨wB, hW, zRoad_frame hR (fun r a b => fr r (by omega)), ?_, ?_⟩, by unfold zN; rw [wk2]; exact q1.2.1, Or.inl (by rw [wX 58 (by decide) (by decide) (by decide)]; exact g58)⟩, ?_, q3, ⟨?_, ?_, ?_, ?_, ?_, ?_, ?_, ?_, ?_, ?_⟩, ⟨?_, ?_⟩, ?_⟩
  · intro t t0 t1
    rw [fr (2 + 7) (by decide)]
    exact lw _ t (hL t t0 t1)
  · exact zAir_new q1.1.2.2.2.2 (by rw [wk2]; exact Int.le_refl _) (fun r _ => by rw [wk2]) (fun r hr => fr r (by omega)) (fun p p0 p1 => by rw [fr 48 (by decide)]; exact ⟨Int.le_refl _, (q1.1.2.2.2.2.1 p p0 p1).2, fun _ s i => rfl⟩)
  · refine ⟨wB, hW, q2.2.2.1, by rw [fr 70 (by decide)]; exact h70, q2.2.2.2.2.1, ?_, ?_⟩
    · rw [w68, if_pos rfl]; omega
    · rcases q2.2.2.2.2.2.2 with g | ⟨g, g'⟩
      · exact Or.inl (by rw [w68, if_neg (by decide), if_neg (by decide)]; exact g)
      · refine Or.inr ⟨by rw [w68, if_neg (by decide), if_neg (by decide)]; exact g, fun s s0 s1 => ?_⟩
        have := (g' s s0 s1).1
        rw [w68, if_pos rfl, fr 81 (by decide)]
        exact ⟨by omega, fun e => by omega⟩
  · rw [wX 1 (by decide) (by decide) (by decide), g1, if_pos rfl, w68, if_neg (by decide), if_pos rfl]
  · intro j j0 j1
    rw [fr 67 (by decide), fr 69 (by decide)]
    have := r2 j j0 j1
    omega
  · rw [wX 1 (by decide) (by decide) (by decide), g1, if_neg (by decide), w68, if_neg (by decide), if_neg (by decide)]; exact r3
  · rw [wX 1 (by decide) (by decide) (by decide), g1, if_neg (by decide), w68, if_neg (by decide), if_neg (by decide)]; exact r4
  · rw [fr 37 (by decide), w68, if_neg (by decide), if_neg (by decide)]; exact rr5
  · rw [fr 74 (by decide), fr 38 (by decide)]; exact r6
  · rw [wX 1 (by decide) (by decide) (by decide), g1, if_neg (by decide), w68, if_neg (by decide), if_neg (by decide)]; exact r7
  · rw [w68, if_neg (by decide), if_neg (by decide), fr 65 (by decide), fr 66 (by decide), fr 89 (by decide), fr 90 (by decide)]; exact r8
  · intro p p0 p1
    rw [fr 48 (by decide)]
    have := r9 p p0 p1
    omega
  · rw [w68, if_pos rfl]; omega
  · intro b hb t t0 t1 t2
    rcases hb with e | e | e <;> subst e
    · rw [fr 2 (by decide)] at t1
      rw [fr (2 + 7) (by decide)]
      exact q5.1 2 (Or.inl rfl) t t0 t1 t2
    · rw [fr 14 (by decide)] at t1
      rw [fr (14 + 7) (by decide)]
      exact q5.1 14 (by decide) t t0 t1 t2
    · have e8 : W.1 25 8 = σ.1 2 8 := by rw [r5 25 (by decide)]; exact v6.2.1
      rw [e8] at t1
      show W.1 32 t = 0
      rw [r5 32 (by decide), v4 t t0 t2]
      exact q5.1 2 (Or.inl rfl) t t0 t1 t2
  · intro i i0 i1
    have wi := w72 i
    by_cases ci : i = 1
    · subst ci
      rw [if_pos rfl] at wi
      have e36 : W.1 36 1 = 1 := by rw [wX 36 (by decide) (by decide) (by decide), g36, if_pos rfl]
      refine ⟨⟨e36.trans wi.symm, Or.inr wi⟩, fun _ => ⟨D, A, hW, fun j j0 j1 => ?_, ?_, ?_, q3⟩⟩
      · rw [w71, if_pos (by omega)]; exact congrArg A (by omega)
      · refine zRoad_cp (b := 2) (h := σ.1) hR ?_ ?_ ?_ ?_ ?_
        · intro j j0 j1
          show W.1 26 j = σ.1 3 j ∧ W.1 27 j = σ.1 4 j ∧ W.1 28 j = σ.1 5 j
          rw [r5 26 (by decide), r5 27 (by decide), r5 28 (by decide)]; exact v1 j j0 j1
        · intro j j0 j1
          show W.1 29 j = σ.1 6 j ∧ W.1 30 j = σ.1 7 j
          rw [r5 29 (by decide), r5 30 (by decide)]; exact v2 j j0 j1
        · intro j j0 j1
          show W.1 31 j = σ.1 8 j
          rw [r5 31 (by decide)]; exact v3 j j0 j1
        · intro j j0 j1
          show W.1 33 j = σ.1 10 j ∧ W.1 34 j = σ.1 11 j ∧ W.1 35 j = σ.1 12 j
          rw [r5 33 (by decide), r5 34 (by decide), r5 35 (by decide)]; exact v5 j j0 j1
        · show W.1 25 5 = σ.1 2 5 ∧ W.1 25 8 = σ.1 2 8 ∧ W.1 25 9 = σ.1 2 9 ∧ W.1 25 13 = σ.1 2 13
          rw [r5 25 (by decide)]; exact v6
      · intro t t0 t1
        have hn := hW.2.2.2.2.2.2.2.1
        show zLaw W (W.1 32 t) (D t)
        rw [r5 32 (by decide), v4 t t0 (by omega)]
        exact lw _ t (hL t t0 t1)
    · have ei : i = 0 := by omega
      subst ei
      rw [if_neg (by decide)] at wi
      obtain ⟨o1, o2⟩ := q5.2 0 (by decide) (by decide)
      have e36 : W.1 36 0 = σ.1 36 0 := by rw [wX 36 (by decide) (by decide) (by decide), g36, if_neg (by decide)]
      rw [wi, e36]
      refine ⟨o1, fun e => ?_⟩
      obtain ⟨D2, A2, a1, a2, a3, a4, a5⟩ := o2 e
      refine ⟨D2, A2, a1, fun j j0 j1 => by rw [w71, if_neg (by omega)]; exact a2 j j0 j1, zRoad_frame a3 (fun r a b => fr r (by omega)), ?_, a5⟩
      intro t t0 t1
      rw [fr (14 + 11 * 0 + 7) (by decide)]
      have l := a4 t t0 t1
      have lo := l.1.1
      exact zLaw_frame l (by rw [wk2]; exact Int.le_refl _) (fun j a b => ⟨fr _ (by omega), by rw [wk2]⟩)
  · unfold zCn
    rw [fr 47 (by decide), wk2]
    exact ⟨by have := q6.1; omega, by have := q6.2; omega⟩
set_option maxHeartbeats 8000000 in
theorem s_back1 (k : Nat) (hk : k ≤ 1000) : zStp k (M_RW_back 1 1) (M_Mo_back 68 1) := by
  intro D A σ hI
  have hI0 := hI
  obtain ⟨q1, q2, q3, q4, q5, q6⟩ := hI
  have hB := q1.1.1
  have vk := q2.2.2.2.2.2.1
  have h70 := q2.2.2.2.1
  have n10 : ¬ (1 : Int) = 0 := by decide
  obtain ⟨⟨i1, i2⟩, i3⟩ := q5.2 1 (by decide) (by decide)
  by_cases c0 : σ.1 72 1 = 0
  · have c36 : σ.1 36 1 = 0 := i1.trans c0
    refine zRefu (by' := -2) (m := 2) hI0 hk (by decide) (by decide) (fun rf => ?_) (fun σ1 hB1 xf rf => ?_)
    · unfold M_RW_back
      simp (maxSteps := 5000000) (disch := first | assumption | omega) only [wpo_bind, wpo_some, wpo_gf, wpo_gk, wpo_ld, wpo_pf, wpo_pz, wpo_sd, wpo_sr, wpo_ln, wpo_idv, wpo_irm, wpo_lrm, wpo_ldv, wpo_cpy, mlet, mnar_int, mup_same, mup_cell, mup_slot, ite_true, ite_false, true_and, and_true, eq_self, or_true, true_or, and_self, Int.reduceLT, Int.reduceLE, Int.reduceEq, Int.reduceNe, Int.reduceAdd, Int.reduceSub, Int.reduceMul, Int.reduceNeg, ne_eq, not_false_eq_true, not_true_eq_false, false_or, or_false, zor_inl, zor_inr, Bool.false_eq_true, false_and, and_false, zk1, zk2, zk3, zk4, zk5, zk6, zk7, zk8, zk9, zk10, zk11, zk12, zk13, zk14, zk15, zk16, zk17, zk18, zk19, zk20, zk21, zk22, zk23, zk24, zk25, zk26, zk27, zk28, zk29, zk30, zk31, zk32, zk33, zk34, zk35, zk36, zk37, zk38, zk39, zk40, zk41, zk42, zk43, zk44, zk45, zk46, zk47, zk48, zk49, zk50, zk51, zk52, zk53, zk54, zk55, zk56, zk57, zk58, zk59, zk60, zk61, zk62, zk63, zk64, zk65, zk66, zk67, zk68, zk69, zk70, zk71, zk72, zk73, zk74, zk75, zk76, zk77, zk78, zk79, zk80, zk81, zk82, zk83, zk84, zk85, zk86, zk87, zk88, zk89, zk90, zr2_0, zr2_1, zr2_2, zr2_3, zr2_4, zr2_6, zr2_7, zr2_10, zr2_11, zr2_12, zr1_0, zr1_1, zr14_0, zr14_1, zr14_2, zr14_3, zr14_4, zr14_6, zr14_7, zr14_10, zr14_11, zr14_12, zr13_0, zr25_0, zr25_1, zr25_2, zr25_3, zr25_4, zr25_6, zr25_7, zr25_10, zr25_11, zr25_12, zr13_1, zr1_2, zr37_0, zr1_3, zr39_0, zr39_1, zr39_2, zr39_5, zr39_7, zr39_8, zr1_4, zr46_1, zr46_2, zr46_3, zr46_4, zr46_0, zr1_5, zr51_2, zr51_10, zr51_0, zr51_1, zr54_1, zr54_2, zr54_3, zr1_6, zr58_1, zr58_2, zr58_3, zr58_0, zr1_7, zr62_2, zr62_3, zr62_0, zr62_1, zr1_8, zr1_9, zr1_10, zr1_15, zr68_2, zr68_3, zr68_4, zr68_5, zr68_7, zr68_8, zr68_9, zr68_12, zr68_13, zr68_14, zr68_22, zr68_23, zr68_24, zr68_26, zr68_35, zr68_36, zr68_37, zr68_38, zr68_39, zr68_40, zr68_41, zr68_42, e_within, n10, c36, rf]
    · have x72 : σ1.1 72 1 = 0 := by rw [xf 72 (by decide) (by decide)]; exact c0
      unfold M_Mo_back
      simp (maxSteps := 5000000) (disch := first | assumption | omega) only [wpo_bind, wpo_some, wpo_gf, wpo_gk, wpo_ld, wpo_pf, wpo_pz, wpo_sd, wpo_sr, wpo_ln, wpo_idv, wpo_irm, wpo_lrm, wpo_ldv, wpo_cpy, mlet, mnar_int, mup_same, mup_cell, mup_slot, ite_true, ite_false, true_and, and_true, eq_self, or_true, true_or, and_self, Int.reduceLT, Int.reduceLE, Int.reduceEq, Int.reduceNe, Int.reduceAdd, Int.reduceSub, Int.reduceMul, Int.reduceNeg, ne_eq, not_false_eq_true, not_true_eq_false, false_or, or_false, zor_inl, zor_inr, Bool.false_eq_true, false_and, and_false, zk1, zk2, zk3, zk4, zk5, zk6, zk7, zk8, zk9, zk10, zk11, zk12, zk13, zk14, zk15, zk16, zk17, zk18, zk19, zk20, zk21, zk22, zk23, zk24, zk25, zk26, zk27, zk28, zk29, zk30, zk31, zk32, zk33, zk34, zk35, zk36, zk37, zk38, zk39, zk40, zk41, zk42, zk43, zk44, zk45, zk46, zk47, zk48, zk49, zk50, zk51, zk52, zk53, zk54, zk55, zk56, zk57, zk58, zk59, zk60, zk61, zk62, zk63, zk64, zk65, zk66, zk67, zk68, zk69, zk70, zk71, zk72, zk73, zk74, zk75, zk76, zk77, zk78, zk79, zk80, zk81, zk82, zk83, zk84, zk85, zk86, zk87, zk88, zk89, zk90, zr2_0, zr2_1, zr2_2, zr2_3, zr2_4, zr2_6, zr2_7, zr2_10, zr2_11, zr2_12, zr1_0, zr1_1, zr14_0, zr14_1, zr14_2, zr14_3, zr14_4, zr14_6, zr14_7, zr14_10, zr14_11, zr14_12, zr13_0, zr25_0, zr25_1, zr25_2, zr25_3, zr25_4, zr25_6, zr25_7, zr25_10, zr25_11, zr25_12, zr13_1, zr1_2, zr37_0, zr1_3, zr39_0, zr39_1, zr39_2, zr39_5, zr39_7, zr39_8, zr1_4, zr46_1, zr46_2, zr46_3, zr46_4, zr46_0, zr1_5, zr51_2, zr51_10, zr51_0, zr51_1, zr54_1, zr54_2, zr54_3, zr1_6, zr58_1, zr58_2, zr58_3, zr58_0, zr1_7, zr62_2, zr62_3, zr62_0, zr62_1, zr1_8, zr1_9, zr1_10, zr1_15, zr68_2, zr68_3, zr68_4, zr68_5, zr68_7, zr68_8, zr68_9, zr68_12, zr68_13, zr68_14, zr68_22, zr68_23, zr68_24, zr68_26, zr68_35, zr68_36, zr68_37, zr68_38, zr68_39, zr68_40, zr68_41, zr68_42, e_lies, n10, x72, rf]
  · have c1 : σ.1 72 1 = 1 := by rcases i2 with h | h; exact absurd h c0; exact h
    have c36 : σ.1 36 1 = 1 := i1.trans c1
    obtain ⟨D2, A2, a1, a2, a3, a4, a5⟩ := i3 c1
    have h8 : σ.1 25 8 = A2 186 := a3.2.2.2.2.1
    obtain ⟨Y, eY, y1, y2, y3, v1, v2, v3, v4, v5, v6⟩ := d_copy_2_25 hB (zL0_ref (b := 25) q5.1 (by decide) h8 a4)
    have e48 : Y.1 48 = σ.1 48 := y3 48 (by decide)
    have ag := q1.1.2.2.2.2.1
    obtain ⟨U, eU, u1, u2, u3, u4⟩ := d_forgetAll (σ := Y) y1 (fun p p0 p1 => by rw [e48]; have := ag p p0 p1; omega)
    have ac := e_accept (v := 0) u1
    have dev : wpo (M_RW_back 1 1 σ) (fun q => q = (0, (mup (mup U.1 1 14 0) 58 4 0, U.2))) := by
      unfold M_RW_back
      simp (maxSteps := 5000000) (disch := first | assumption | omega) only [wpo_bind, wpo_some, wpo_gf, wpo_gk, wpo_ld, wpo_pf, wpo_pz, wpo_sd, wpo_sr, wpo_ln, wpo_idv, wpo_irm, wpo_lrm, wpo_ldv, wpo_cpy, mlet, mnar_int, mup_same, mup_cell, mup_slot, ite_true, ite_false, true_and, and_true, eq_self, or_true, true_or, and_self, Int.reduceLT, Int.reduceLE, Int.reduceEq, Int.reduceNe, Int.reduceAdd, Int.reduceSub, Int.reduceMul, Int.reduceNeg, ne_eq, not_false_eq_true, not_true_eq_false, false_or, or_false, zor_inl, zor_inr, Bool.false_eq_true, false_and, and_false, zk1, zk2, zk3, zk4, zk5, zk6, zk7, zk8, zk9, zk10, zk11, zk12, zk13, zk14, zk15, zk16, zk17, zk18, zk19, zk20, zk21, zk22, zk23, zk24, zk25, zk26, zk27, zk28, zk29, zk30, zk31, zk32, zk33, zk34, zk35, zk36, zk37, zk38, zk39, zk40, zk41, zk42, zk43, zk44, zk45, zk46, zk47, zk48, zk49, zk50, zk51, zk52, zk53, zk54, zk55, zk56, zk57, zk58, zk59, zk60, zk61, zk62, zk63, zk64, zk65, zk66, zk67, zk68, zk69, zk70, zk71, zk72, zk73, zk74, zk75, zk76, zk77, zk78, zk79, zk80, zk81, zk82, zk83, zk84, zk85, zk86, zk87, zk88, zk89, zk90, zr2_0, zr2_1, zr2_2, zr2_3, zr2_4, zr2_6, zr2_7, zr2_10, zr2_11, zr2_12, zr1_0, zr1_1, zr14_0, zr14_1, zr14_2, zr14_3, zr14_4, zr14_6, zr14_7, zr14_10, zr14_11, zr14_12, zr13_0, zr25_0, zr25_1, zr25_2, zr25_3, zr25_4, zr25_6, zr25_7, zr25_10, zr25_11, zr25_12, zr13_1, zr1_2, zr37_0, zr1_3, zr39_0, zr39_1, zr39_2, zr39_5, zr39_7, zr39_8, zr1_4, zr46_1, zr46_2, zr46_3, zr46_4, zr46_0, zr1_5, zr51_2, zr51_10, zr51_0, zr51_1, zr54_1, zr54_2, zr54_3, zr1_6, zr58_1, zr58_2, zr58_3, zr58_0, zr1_7, zr62_2, zr62_3, zr62_0, zr62_1, zr1_8, zr1_9, zr1_10, zr1_15, zr68_2, zr68_3, zr68_4, zr68_5, zr68_7, zr68_8, zr68_9, zr68_12, zr68_13, zr68_14, zr68_22, zr68_23, zr68_24, zr68_26, zr68_35, zr68_36, zr68_37, zr68_38, zr68_39, zr68_40, zr68_41, zr68_42, e_within, n10, c36, eY, eU, ac]
    refine wpo_mono dev ?_
    intro q hq
    subst hq
    have b2 := zB_mup (r := 1) (i := 14) (v := 0) u1 (by decide +kernel)
    have b3 := zB_mup (r := 58) (i := 4) (v := 0) b2 (by decide +kernel)
    have x1 : ∀ i, mup (mup U.1 1 14 0) 58 4 0 1 i = if i = 14 then 0 else σ.1 1 i := fun i => by rw [mup_cell (by decide), mup_if, u3 1 (by decide), y3 1 (by decide)]
    have x58 : mup (mup U.1 1 14 0) 58 4 0 58 4 = 0 := mup_same
    have xY : ∀ u, u ≠ 1 → u ≠ 58 → mup (mup U.1 1 14 0) 58 4 0 u = U.1 u := fun u a d => by rw [mup_fun d, mup_fun a]
    generalize eX : ((mup (mup U.1 1 14 0) 58 4 0, U.2) : mS) = X
    have gB : zB X := by rw [← eX]; exact b3
    have g1 : ∀ i, X.1 1 i = if i = 14 then 0 else σ.1 1 i := fun i => by rw [← eX]; exact x1 i
    have g58 : X.1 58 4 = 0 := by rw [← eX]; exact x58
    have gU : ∀ u, u ≠ 1 → u ≠ 58 → X.1 u = U.1 u := fun u a d => by rw [← eX]; exact xY u a d
    have g2 : X.2 = σ.2 := by rw [← eX]; exact u2.trans y2
    have gY : ∀ u, u ≠ 1 → u ≠ 58 → u ≠ 48 → X.1 u = Y.1 u := fun u a d b => (gU u a d).trans (u3 u b)
    have gX : ∀ u, u ≠ 1 ∧ u ≠ 48 ∧ u ≠ 58 ∧ ¬ (2 ≤ u ∧ u ≤ 12) → X.1 u = σ.1 u := fun u x => (gY u x.1 x.2.2.1 x.2.1).trans (y3 u x.2.2.2)
    have g48 : ∀ p, 0 ≤ p → p < 64 → X.1 48 p = σ.1 48 p + 1 := fun p p0 p1 => by rw [gU 48 (by decide) (by decide), u4 p p0 p1, e48]
    clear eX x1 x58 xY dev b2 b3
    have h70x : X.1 70 = A := (gX 70 (by decide)).trans h70
    have v68 : X.1 68 = σ.1 68 := gX 68 (by decide)
    have x72 : X.1 72 1 = 1 := by rw [gX 72 (by decide)]; exact c1
    have rr := r_back (X := X) (i := 1) (vv := σ.1 68 1) gB (by decide) (by decide) (by rw [v68]) vk
    generalize hQ : (fun z => ∃ Z : mS, (zB Z ∧ Z.2 = X.2 ∧ (∀ u, u ≠ 70 → Z.1 u = X.1 u) ∧ (∀ j, Z.1 70 j = if 0 ≤ j ∧ j < 4994 then X.1 71 (4994 * 1 + j) else X.1 70 j)) ∧ z = ((0 : Int), (mup (mup Z.1 68 0 0) 68 1 (σ.1 68 1 + 1), Z.2))) = Q at rr
    have ref : wpo (M_Mo_back 68 1 X) Q := by
      unfold M_Mo_back
      simp (maxSteps := 5000000) (disch := first | assumption | omega) only [wpo_bind, wpo_some, wpo_gf, wpo_gk, wpo_ld, wpo_pf, wpo_pz, wpo_sd, wpo_sr, wpo_ln, wpo_idv, wpo_irm, wpo_lrm, wpo_ldv, wpo_cpy, mlet, mnar_int, mup_same, mup_cell, mup_slot, ite_true, ite_false, true_and, and_true, eq_self, or_true, true_or, and_self, Int.reduceLT, Int.reduceLE, Int.reduceEq, Int.reduceNe, Int.reduceAdd, Int.reduceSub, Int.reduceMul, Int.reduceNeg, ne_eq, not_false_eq_true, not_true_eq_false, false_or, or_false, zor_inl, zor_inr, Bool.false_eq_true, false_and, and_false, zk1, zk2, zk3, zk4, zk5, zk6, zk7, zk8, zk9, zk10, zk11, zk12, zk13, zk14, zk15, zk16, zk17, zk18, zk19, zk20, zk21, zk22, zk23, zk24, zk25, zk26, zk27, zk28, zk29, zk30, zk31, zk32, zk33, zk34, zk35, zk36, zk37, zk38, zk39, zk40, zk41, zk42, zk43, zk44, zk45, zk46, zk47, zk48, zk49, zk50, zk51, zk52, zk53, zk54, zk55, zk56, zk57, zk58, zk59, zk60, zk61, zk62, zk63, zk64, zk65, zk66, zk67, zk68, zk69, zk70, zk71, zk72, zk73, zk74, zk75, zk76, zk77, zk78, zk79, zk80, zk81, zk82, zk83, zk84, zk85, zk86, zk87, zk88, zk89, zk90, zr2_0, zr2_1, zr2_2, zr2_3, zr2_4, zr2_6, zr2_7, zr2_10, zr2_11, zr2_12, zr1_0, zr1_1, zr14_0, zr14_1, zr14_2, zr14_3, zr14_4, zr14_6, zr14_7, zr14_10, zr14_11, zr14_12, zr13_0, zr25_0, zr25_1, zr25_2, zr25_3, zr25_4, zr25_6, zr25_7, zr25_10, zr25_11, zr25_12, zr13_1, zr1_2, zr37_0, zr1_3, zr39_0, zr39_1, zr39_2, zr39_5, zr39_7, zr39_8, zr1_4, zr46_1, zr46_2, zr46_3, zr46_4, zr46_0, zr1_5, zr51_2, zr51_10, zr51_0, zr51_1, zr54_1, zr54_2, zr54_3, zr1_6, zr58_1, zr58_2, zr58_3, zr58_0, zr1_7, zr62_2, zr62_3, zr62_0, zr62_1, zr1_8, zr1_9, zr1_10, zr1_15, zr68_2, zr68_3, zr68_4, zr68_5, zr68_7, zr68_8, zr68_9, zr68_12, zr68_13, zr68_14, zr68_22, zr68_23, zr68_24, zr68_26, zr68_35, zr68_36, zr68_37, zr68_38, zr68_39, zr68_40, zr68_41, zr68_42, e_lies, n10, x72]
      exact rr
    clear rr
    refine wpo_mono ref ?_
    intro z hz
    rw [← hQ] at hz
    obtain ⟨Z, ⟨z1, z2, z3, z4⟩, ez⟩ := hz
    subst ez
    refine ⟨rfl, D2, Z.1 70, ?_⟩
    obtain ⟨zb, zx, z70, z68⟩ := zAcc_ref (σ := σ) (X := X) (Y := Z) z1 z2 z3 v68
    have hc : ∀ j, 0 ≤ j → j < 4994 → Z.1 70 j = A2 j := fun j j0 j1 => by rw [z4, if_pos ⟨j0, j1⟩, gX 71 (by decide)]; exact a2 j j0 j1
    have zk : ((mup (mup Z.1 68 0 0) 68 1 (σ.1 68 1 + 1), Z.2) : mS).2 = X.2 := z2
    generalize Z.1 70 = A3 at *
    generalize ((mup (mup Z.1 68 0 0) 68 1 (σ.1 68 1 + 1), Z.2) : mS) = W at *
    have a3' : zRoad 25 A2 σ.1 := a3
    have e186 : A3 186 = A2 186 := hc 186 (by decide) (by decide)
    have hn := a1.2.2.2.2.2.2.2.1
    have r9 := q4.2.2.2.2.2.2.2.2.1
    refine zChg (D := D) (A := A) (σ := σ) (σ1 := X) hI0 hk (zWF_cg a1 hc) (fun t t0 t1 => zLm_cg (a5 t t0 (by rw [← e186]; exact t1)) (fun j a b => hc j (by omega) b)) gB (by unfold zN; rw [g2]; exact q1.2.1) ⟨by rw [g2]; exact Int.le_refl _, by rw [g2]; omega⟩ (by rw [g2]; omega) (fun u _ => by rw [g2]) (fun u hu => gX u (by omega)) ?_ (zRoad_cg a1 (zRoad_cp (b := 25) (h := σ.1) a3' ?_ ?_ ?_ ?_ ?_) hc) ?_ g58 ?_ zb zk (fun u hu => zx u (by omega) (by omega)) z70 (by rw [z68, if_pos rfl]) (by rw [z68, if_neg (by decide), if_neg (by decide)]) (by rw [zx 81 (by decide) (by decide)]; exact gX 81 (by decide)) ?_
    · intro b hb t t0 t1 t2
      rcases hb with e | e | e <;> subst e
      · have e8 : X.1 2 8 = σ.1 25 8 := by rw [gY 2 (by decide) (by decide) (by decide)]; exact v6.2.1
        rw [e8] at t1
        show X.1 9 t = 0
        rw [gY 9 (by decide) (by decide) (by decide), v4 t t0 t2]
        exact q5.1 25 (by decide) t t0 t1 t2
      · rw [gX 14 (by decide)] at t1
        rw [gX (14 + 7) (by decide)]
        exact q5.1 14 (by decide) t t0 t1 t2
      · rw [gX 25 (by decide)] at t1
        rw [gX (25 + 7) (by decide)]
        exact q5.1 25 (by decide) t t0 t1 t2
    · intro j j0 j1
      show X.1 3 j = σ.1 26 j ∧ X.1 4 j = σ.1 27 j ∧ X.1 5 j = σ.1 28 j
      rw [gY 3 (by decide) (by decide) (by decide), gY 4 (by decide) (by decide) (by decide), gY 5 (by decide) (by decide) (by decide)]; exact v1 j j0 j1
    · intro j j0 j1
      show X.1 6 j = σ.1 29 j ∧ X.1 7 j = σ.1 30 j
      rw [gY 6 (by decide) (by decide) (by decide), gY 7 (by decide) (by decide) (by decide)]; exact v2 j j0 j1
    · intro j j0 j1
      show X.1 8 j = σ.1 31 j
      rw [gY 8 (by decide) (by decide) (by decide)]; exact v3 j j0 j1
    · intro j j0 j1
      show X.1 10 j = σ.1 33 j ∧ X.1 11 j = σ.1 34 j ∧ X.1 12 j = σ.1 35 j
      rw [gY 10 (by decide) (by decide) (by decide), gY 11 (by decide) (by decide) (by decide), gY 12 (by decide) (by decide) (by decide)]; exact v5 j j0 j1
    · show X.1 2 5 = σ.1 25 5 ∧ X.1 2 8 = σ.1 25 8 ∧ X.1 2 9 = σ.1 25 9 ∧ X.1 2 13 = σ.1 25 13
      rw [gY 2 (by decide) (by decide) (by decide)]; exact v6
    · intro t t0 t1
      rw [e186] at t1
      show zLaw X (X.1 9 t) (D2 t)
      rw [gY 9 (by decide) (by decide) (by decide), v4 t t0 (by omega)]
      have l : zLaw σ (σ.1 32 t) (D2 t) := a4 t t0 t1
      have lo := l.1.1
      exact zLaw_frame l (by rw [g2]; exact Int.le_refl _) (fun j a b => ⟨gX _ (by omega), by rw [g2]⟩)
    · intro p p0 p1
      have e := g48 p p0 p1
      have := r9 p p0 p1
      exact ⟨by omega, by omega, fun x => by omega⟩
    · refine zRs_acc q4 ?_ ?_ (fun u hu => ?_) (fun i hi => ?_) (fun i hi => ?_) (fun j j0 j1 => ?_) ?_
      · rw [zx 1 (by decide) (by decide), g1, if_pos rfl]
      · rw [z68, if_neg (by decide), if_pos rfl]
      · rw [zx u (by omega) (by omega)]; exact gX u (by omega)
      · rw [zx 1 (by decide) (by decide), g1, if_neg (by omega)]
      · rw [z68, if_neg (by omega), if_neg (by omega)]
      · rw [zx 48 (by decide) (by decide), g48 j j0 j1]; exact Int.le_refl _
      · rw [z68, if_pos rfl]
theorem s_image (k : Nat) (hk : k ≤ 1000) (i : Int) : zStp k (M_RW_image 1 i) (M_Mo_image 68 i) := by
  by_cases c : 0 ≤ i ∧ i ≤ 1
  · have : i = 0 ∨ i = 1 := by omega
    rcases this with e | e <;> subst e
    · exact s_image0 k hk
    · exact s_image1 k hk
  · intro D A σ hI
    have hB := hI.1.1.1
    refine zRefu (by' := -1) (m := 1) hI hk (by decide) (by decide) (fun rf => ?_) (fun σ1 hB1 _ rf => ?_)
    · unfold M_RW_image
      simp (maxSteps := 5000000) (disch := first | assumption | omega) only [wpo_bind, wpo_some, wpo_gf, wpo_gk, wpo_ld, wpo_pf, wpo_pz, wpo_sd, wpo_sr, wpo_ln, wpo_idv, wpo_irm, wpo_lrm, wpo_ldv, wpo_cpy, mlet, mnar_int, mup_same, mup_cell, mup_slot, ite_true, ite_false, true_and, and_true, eq_self, or_true, true_or, and_self, Int.reduceLT, Int.reduceLE, Int.reduceEq, Int.reduceNe, Int.reduceAdd, Int.reduceSub, Int.reduceMul, Int.reduceNeg, ne_eq, not_false_eq_true, not_true_eq_false, false_or, or_false, zor_inl, zor_inr, Bool.false_eq_true, false_and, and_false, zk1, zk2, zk3, zk4, zk5, zk6, zk7, zk8, zk9, zk10, zk11, zk12, zk13, zk14, zk15, zk16, zk17, zk18, zk19, zk20, zk21, zk22, zk23, zk24, zk25, zk26, zk27, zk28, zk29, zk30, zk31, zk32, zk33, zk34, zk35, zk36, zk37, zk38, zk39, zk40, zk41, zk42, zk43, zk44, zk45, zk46, zk47, zk48, zk49, zk50, zk51, zk52, zk53, zk54, zk55, zk56, zk57, zk58, zk59, zk60, zk61, zk62, zk63, zk64, zk65, zk66, zk67, zk68, zk69, zk70, zk71, zk72, zk73, zk74, zk75, zk76, zk77, zk78, zk79, zk80, zk81, zk82, zk83, zk84, zk85, zk86, zk87, zk88, zk89, zk90, zr2_0, zr2_1, zr2_2, zr2_3, zr2_4, zr2_6, zr2_7, zr2_10, zr2_11, zr2_12, zr1_0, zr1_1, zr14_0, zr14_1, zr14_2, zr14_3, zr14_4, zr14_6, zr14_7, zr14_10, zr14_11, zr14_12, zr13_0, zr25_0, zr25_1, zr25_2, zr25_3, zr25_4, zr25_6, zr25_7, zr25_10, zr25_11, zr25_12, zr13_1, zr1_2, zr37_0, zr1_3, zr39_0, zr39_1, zr39_2, zr39_5, zr39_7, zr39_8, zr1_4, zr46_1, zr46_2, zr46_3, zr46_4, zr46_0, zr1_5, zr51_2, zr51_10, zr51_0, zr51_1, zr54_1, zr54_2, zr54_3, zr1_6, zr58_1, zr58_2, zr58_3, zr58_0, zr1_7, zr62_2, zr62_3, zr62_0, zr62_1, zr1_8, zr1_9, zr1_10, zr1_15, zr68_2, zr68_3, zr68_4, zr68_5, zr68_7, zr68_8, zr68_9, zr68_12, zr68_13, zr68_14, zr68_22, zr68_23, zr68_24, zr68_26, zr68_35, zr68_36, zr68_37, zr68_38, zr68_39, zr68_40, zr68_41, zr68_42, e_within, c, rf]
    · unfold M_Mo_image
      simp (maxSteps := 5000000) (disch := first | assumption | omega) only [wpo_bind, wpo_some, wpo_gf, wpo_gk, wpo_ld, wpo_pf, wpo_pz, wpo_sd, wpo_sr, wpo_ln, wpo_idv, wpo_irm, wpo_lrm, wpo_ldv, wpo_cpy, mlet, mnar_int, mup_same, mup_cell, mup_slot, ite_true, ite_false, true_and, and_true, eq_self, or_true, true_or, and_self, Int.reduceLT, Int.reduceLE, Int.reduceEq, Int.reduceNe, Int.reduceAdd, Int.reduceSub, Int.reduceMul, Int.reduceNeg, ne_eq, not_false_eq_true, not_true_eq_false, false_or, or_false, zor_inl, zor_inr, Bool.false_eq_true, false_and, and_false, zk1, zk2, zk3, zk4, zk5, zk6, zk7, zk8, zk9, zk10, zk11, zk12, zk13, zk14, zk15, zk16, zk17, zk18, zk19, zk20, zk21, zk22, zk23, zk24, zk25, zk26, zk27, zk28, zk29, zk30, zk31, zk32, zk33, zk34, zk35, zk36, zk37, zk38, zk39, zk40, zk41, zk42, zk43, zk44, zk45, zk46, zk47, zk48, zk49, zk50, zk51, zk52, zk53, zk54, zk55, zk56, zk57, zk58, zk59, zk60, zk61, zk62, zk63, zk64, zk65, zk66, zk67, zk68, zk69, zk70, zk71, zk72, zk73, zk74, zk75, zk76, zk77, zk78, zk79, zk80, zk81, zk82, zk83, zk84, zk85, zk86, zk87, zk88, zk89, zk90, zr2_0, zr2_1, zr2_2, zr2_3, zr2_4, zr2_6, zr2_7, zr2_10, zr2_11, zr2_12, zr1_0, zr1_1, zr14_0, zr14_1, zr14_2, zr14_3, zr14_4, zr14_6, zr14_7, zr14_10, zr14_11, zr14_12, zr13_0, zr25_0, zr25_1, zr25_2, zr25_3, zr25_4, zr25_6, zr25_7, zr25_10, zr25_11, zr25_12, zr13_1, zr1_2, zr37_0, zr1_3, zr39_0, zr39_1, zr39_2, zr39_5, zr39_7, zr39_8, zr1_4, zr46_1, zr46_2, zr46_3, zr46_4, zr46_0, zr1_5, zr51_2, zr51_10, zr51_0, zr51_1, zr54_1, zr54_2, zr54_3, zr1_6, zr58_1, zr58_2, zr58_3, zr58_0, zr1_7, zr62_2, zr62_3, zr62_0, zr62_1, zr1_8, zr1_9, zr1_10, zr1_15, zr68_2, zr68_3, zr68_4, zr68_5, zr68_7, zr68_8, zr68_9, zr68_12, zr68_13, zr68_14, zr68_22, zr68_23, zr68_24, zr68_26, zr68_35, zr68_36, zr68_37, zr68_38, zr68_39, zr68_40, zr68_41, zr68_42, e_lies, c, rf]
theorem s_back (k : Nat) (hk : k ≤ 1000) (i : Int) : zStp k (M_RW_back 1 i) (M_Mo_back 68 i) := by
  by_cases c : 0 ≤ i ∧ i ≤ 1
  · have : i = 0 ∨ i = 1 := by omega
    rcases this with e | e <;> subst e
    · exact s_back0 k hk
    · exact s_back1 k hk
  · intro D A σ hI
    have hB := hI.1.1.1
    refine zRefu (by' := -1) (m := 1) hI hk (by decide) (by decide) (fun rf => ?_) (fun σ1 hB1 _ rf => ?_)
    · unfold M_RW_back
      simp (maxSteps := 5000000) (disch := first | assumption | omega) only [wpo_bind, wpo_some, wpo_gf, wpo_gk, wpo_ld, wpo_pf, wpo_pz, wpo_sd, wpo_sr, wpo_ln, wpo_idv, wpo_irm, wpo_lrm, wpo_ldv, wpo_cpy, mlet, mnar_int, mup_same, mup_cell, mup_slot, ite_true, ite_false, true_and, and_true, eq_self, or_true, true_or, and_self, Int.reduceLT, Int.reduceLE, Int.reduceEq, Int.reduceNe, Int.reduceAdd, Int.reduceSub, Int.reduceMul, Int.reduceNeg, ne_eq, not_false_eq_true, not_true_eq_false, false_or, or_false, zor_inl, zor_inr, Bool.false_eq_true, false_and, and_false, zk1, zk2, zk3, zk4, zk5, zk6, zk7, zk8, zk9, zk10, zk11, zk12, zk13, zk14, zk15, zk16, zk17, zk18, zk19, zk20, zk21, zk22, zk23, zk24, zk25, zk26, zk27, zk28, zk29, zk30, zk31, zk32, zk33, zk34, zk35, zk36, zk37, zk38, zk39, zk40, zk41, zk42, zk43, zk44, zk45, zk46, zk47, zk48, zk49, zk50, zk51, zk52, zk53, zk54, zk55, zk56, zk57, zk58, zk59, zk60, zk61, zk62, zk63, zk64, zk65, zk66, zk67, zk68, zk69, zk70, zk71, zk72, zk73, zk74, zk75, zk76, zk77, zk78, zk79, zk80, zk81, zk82, zk83, zk84, zk85, zk86, zk87, zk88, zk89, zk90, zr2_0, zr2_1, zr2_2, zr2_3, zr2_4, zr2_6, zr2_7, zr2_10, zr2_11, zr2_12, zr1_0, zr1_1, zr14_0, zr14_1, zr14_2, zr14_3, zr14_4, zr14_6, zr14_7, zr14_10, zr14_11, zr14_12, zr13_0, zr25_0, zr25_1, zr25_2, zr25_3, zr25_4, zr25_6, zr25_7, zr25_10, zr25_11, zr25_12, zr13_1, zr1_2, zr37_0, zr1_3, zr39_0, zr39_1, zr39_2, zr39_5, zr39_7, zr39_8, zr1_4, zr46_1, zr46_2, zr46_3, zr46_4, zr46_0, zr1_5, zr51_2, zr51_10, zr51_0, zr51_1, zr54_1, zr54_2, zr54_3, zr1_6, zr58_1, zr58_2, zr58_3, zr58_0, zr1_7, zr62_2, zr62_3, zr62_0, zr62_1, zr1_8, zr1_9, zr1_10, zr1_15, zr68_2, zr68_3, zr68_4, zr68_5, zr68_7, zr68_8, zr68_9, zr68_12, zr68_13, zr68_14, zr68_22, zr68_23, zr68_24, zr68_26, zr68_35, zr68_36, zr68_37, zr68_38, zr68_39, zr68_40, zr68_41, zr68_42, e_within, c, rf]
    · unfold M_Mo_back
      simp (maxSteps := 5000000) (disch := first | assumption | omega) only [wpo_bind, wpo_some, wpo_gf, wpo_gk, wpo_ld, wpo_pf, wpo_pz, wpo_sd, wpo_sr, wpo_ln, wpo_idv, wpo_irm, wpo_lrm, wpo_ldv, wpo_cpy, mlet, mnar_int, mup_same, mup_cell, mup_slot, ite_true, ite_false, true_and, and_true, eq_self, or_true, true_or, and_self, Int.reduceLT, Int.reduceLE, Int.reduceEq, Int.reduceNe, Int.reduceAdd, Int.reduceSub, Int.reduceMul, Int.reduceNeg, ne_eq, not_false_eq_true, not_true_eq_false, false_or, or_false, zor_inl, zor_inr, Bool.false_eq_true, false_and, and_false, zk1, zk2, zk3, zk4, zk5, zk6, zk7, zk8, zk9, zk10, zk11, zk12, zk13, zk14, zk15, zk16, zk17, zk18, zk19, zk20, zk21, zk22, zk23, zk24, zk25, zk26, zk27, zk28, zk29, zk30, zk31, zk32, zk33, zk34, zk35, zk36, zk37, zk38, zk39, zk40, zk41, zk42, zk43, zk44, zk45, zk46, zk47, zk48, zk49, zk50, zk51, zk52, zk53, zk54, zk55, zk56, zk57, zk58, zk59, zk60, zk61, zk62, zk63, zk64, zk65, zk66, zk67, zk68, zk69, zk70, zk71, zk72, zk73, zk74, zk75, zk76, zk77, zk78, zk79, zk80, zk81, zk82, zk83, zk84, zk85, zk86, zk87, zk88, zk89, zk90, zr2_0, zr2_1, zr2_2, zr2_3, zr2_4, zr2_6, zr2_7, zr2_10, zr2_11, zr2_12, zr1_0, zr1_1, zr14_0, zr14_1, zr14_2, zr14_3, zr14_4, zr14_6, zr14_7, zr14_10, zr14_11, zr14_12, zr13_0, zr25_0, zr25_1, zr25_2, zr25_3, zr25_4, zr25_6, zr25_7, zr25_10, zr25_11, zr25_12, zr13_1, zr1_2, zr37_0, zr1_3, zr39_0, zr39_1, zr39_2, zr39_5, zr39_7, zr39_8, zr1_4, zr46_1, zr46_2, zr46_3, zr46_4, zr46_0, zr1_5, zr51_2, zr51_10, zr51_0, zr51_1, zr54_1, zr54_2, zr54_3, zr1_6, zr58_1, zr58_2, zr58_3, zr58_0, zr1_7, zr62_2, zr62_3, zr62_0, zr62_1, zr1_8, zr1_9, zr1_10, zr1_15, zr68_2, zr68_3, zr68_4, zr68_5, zr68_7, zr68_8, zr68_9, zr68_12, zr68_13, zr68_14, zr68_22, zr68_23, zr68_24, zr68_26, zr68_35, zr68_36, zr68_37, zr68_38, zr68_39, zr68_40, zr68_41, zr68_42, e_lies, c, rf]
