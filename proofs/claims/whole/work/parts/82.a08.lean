/-! A ROAD IS COPIED -/
theorem cpy_st {σ : mS} {r r' n a b : Int} (hB : zB σ) (k1 : σ.2.1 r = (100, a)) (k2 : σ.2.1 r' = (100, b)) (r0 : 0 < r') (ne : r ≠ r') (n0 : 0 ≤ n) (l1 : n ≤ a) (l2 : n ≤ b) (nc : zcore r' = false) : ∃ Y : mS, cpy r 0 r' 0 n σ = some Y ∧ zB Y ∧ Y.2 = σ.2 ∧ (∀ u, u ≠ r' → Y.1 u = σ.1 u) ∧ ∀ i, 0 ≤ i → i < n → Y.1 r' i = σ.1 r i := by
  refine ⟨_, if_pos ⟨by rw [k1], by rw [k2], r0, ne, Int.le_refl _, Int.le_refl _, n0, by rw [k1]; show 0 + n ≤ a; omega, by rw [k2]; show 0 + n ≤ b; omega⟩, ?_, rfl, fun u hu => ?_, fun i i0 i1 => ?_⟩
  · refine zB_core hB (fun u _ => rfl) (fun u hu => ?_)
    funext i
    have : u ≠ r' := fun e => by rw [e, nc] at hu; exact absurd hu (by decide)
    exact if_neg this
  · funext i
    exact if_neg hu
  · show (if r' = r' then (if 0 ≤ i ∧ i < 0 + n then σ.1 r (0 + (i - 0)) else σ.1 r' i) else σ.1 r' i) = _
    rw [if_pos rfl, if_pos (by omega)]
    exact congrArg (σ.1 r) (by omega)
set_option maxHeartbeats 4000000 in
theorem d_laws_14_2 {σ : mS} (hB : zB σ) (hv : ∀ t, 0 ≤ t → t < 6 → σ.1 9 t = 0 ∨ 0 < σ.1 9 t ∧ (σ.2.1 (σ.1 9 t)).1 = 4) {Q : Int × mS → Prop} (he : ∀ Y : mS, zB Y → Y.2 = σ.2 → (∀ u, u ≠ 21 → Y.1 u = σ.1 u) → (∀ i, 0 ≤ i → i < 6 → Y.1 21 i = σ.1 9 i) → ∃ r, B_Road_copyFrom_54 14 2 6 Y = some (Sum.inr r) ∧ Q r) : wpo (M_Road_copyFrom_54 14 2 0 σ) Q := by
  unfold M_Road_copyFrom_54
  refine loopN (fun m y => y.1 = (m : Int) ∧ zB y.2 ∧ y.2.2 = σ.2 ∧ (∀ u, u ≠ 21 → y.2.1 u = σ.1 u) ∧ ∀ i, 0 ≤ i → i < (m : Int) → y.2.1 21 i = σ.1 9 i) 6 _ _ (by decide) ⟨rfl, hB, rfl, fun u _ => rfl, fun i a b => by omega⟩ ?_ ?_
  · intro m y hm ⟨y1, y2, y3, y4, y5⟩
    obtain ⟨l2, x⟩ := y
    simp only at y1 y2 y3 y4 y5
    have p0 : 0 ≤ l2 := by omega
    have p1 : l2 < 6 := by omega
    have vs : x.1 9 l2 = σ.1 9 l2 := by rw [y4 9 (by decide)]
    have ok := hv l2 p0 p1
    have ok2 : σ.1 9 l2 = 0 ∨ 0 < σ.1 9 l2 ∧ (x.2.1 (σ.1 9 l2)).1 = 4 := by rw [y3]; exact ok
    have w1 : ∀ u : Int, u = l2 → w32 (u + 1) = l2 + 1 := fun u hu => by rw [w32_in (by omega) (by omega)]; omega
    have e : B_Road_copyFrom_54 14 2 l2 x = some (Sum.inl (l2 + 1, (mup x.1 21 l2 (σ.1 9 l2), x.2))) := wpo_is (by
      unfold B_Road_copyFrom_54
      simp (maxSteps := 5000000) (disch := first | assumption | omega) only [wpo_bind, wpo_some, wpo_gf, wpo_gk, wpo_ld, wpo_pf, wpo_pz, wpo_sd, wpo_sr, wpo_ln, wpo_idv, wpo_irm, wpo_lrm, wpo_ldv, mlet, mnar_int, mup_same, mup_cell, mup_slot, ite_true, ite_false, true_and, and_true, eq_self, or_true, true_or, and_self, Int.reduceLT, Int.reduceLE, Int.reduceEq, Int.reduceNe, Int.reduceAdd, Int.reduceSub, Int.reduceMul, Int.reduceNeg, ne_eq, not_false_eq_true, not_true_eq_false, false_or, or_false, zor_inl, zor_inr, Bool.false_eq_true, false_and, and_false, zk1, zk2, zk3, zk4, zk5, zk6, zk7, zk8, zk9, zk10, zk11, zk12, zk13, zk14, zk15, zk16, zk17, zk18, zk19, zk20, zk21, zk22, zk23, zk24, zk25, zk26, zk27, zk28, zk29, zk30, zk31, zk32, zk33, zk34, zk35, zk36, zk37, zk38, zk39, zk40, zk41, zk42, zk43, zk44, zk45, zk46, zk47, zk48, zk49, zk50, zk51, zk52, zk53, zk54, zk55, zk56, zk57, zk58, zk59, zk60, zk61, zk62, zk63, zk64, zk65, zk66, zk67, zk68, zk69, zk70, zk71, zk72, zk73, zk74, zk75, zk76, zk77, zk78, zk79, zk80, zk81, zk82, zk83, zk84, zk85, zk86, zk87, zk88, zk89, zk90, zr2_0, zr2_1, zr2_2, zr2_3, zr2_4, zr2_6, zr2_7, zr2_10, zr2_11, zr2_12, zr1_0, zr1_1, zr14_0, zr14_1, zr14_2, zr14_3, zr14_4, zr14_6, zr14_7, zr14_10, zr14_11, zr14_12, zr13_0, zr25_0, zr25_1, zr25_2, zr25_3, zr25_4, zr25_6, zr25_7, zr25_10, zr25_11, zr25_12, zr13_1, zr1_2, zr37_0, zr1_3, zr39_0, zr39_1, zr39_2, zr39_5, zr39_7, zr39_8, zr1_4, zr46_1, zr46_2, zr46_3, zr46_4, zr46_0, zr1_5, zr51_2, zr51_10, zr51_0, zr51_1, zr54_1, zr54_2, zr54_3, zr1_6, zr58_1, zr58_2, zr58_3, zr58_0, zr1_7, zr62_2, zr62_3, zr62_0, zr62_1, zr1_8, zr1_9, zr1_10, zr1_15, zr68_2, zr68_3, zr68_4, zr68_5, zr68_7, zr68_8, zr68_9, zr68_12, zr68_13, zr68_14, zr68_22, zr68_23, zr68_24, zr68_26, zr68_35, zr68_36, zr68_37, zr68_38, zr68_39, zr68_40, zr68_41, zr68_42, p0, p1, vs, ok2, w1])
    refine ⟨_, e, ?_, zB_mup y2 (zokr_arr (by decide +kernel)), y3, fun u hu => ?_, fun i i0 i1 => ?_⟩
    · show l2 + 1 = ((m + 1 : Nat) : Int)
      omega
    · show mup x.1 21 l2 (σ.1 9 l2) u = _
      rw [mup_fun hu]; exact y4 u hu
    · show mup x.1 21 l2 (σ.1 9 l2) 21 i = _
      rw [mup_if]
      by_cases ci : i = l2
      · rw [if_pos ci, ci]
      · rw [if_neg ci]; exact y5 i i0 (by omega)
  · intro y ⟨y1, y2, y3, y4, y5⟩
    obtain ⟨l2, x⟩ := y
    simp only at y1 y2 y3 y4 y5
    subst y1
    exact he x y2 y3 y4 y5
set_option maxHeartbeats 8000000 in
theorem d_copy_14_2 {σ : mS} (hB : zB σ) (hv : ∀ t, 0 ≤ t → t < 6 → σ.1 9 t = 0 ∨ 0 < σ.1 9 t ∧ (σ.2.1 (σ.1 9 t)).1 = 4) : ∃ Y : mS, M_Road_copyFrom 14 2 σ = some (0, Y) ∧ zB Y ∧ Y.2 = σ.2 ∧ (∀ u, ¬ (14 ≤ u ∧ u ≤ 24) → Y.1 u = σ.1 u) ∧
    (∀ i, 0 ≤ i → i < 64 → Y.1 15 i = σ.1 3 i ∧ Y.1 16 i = σ.1 4 i ∧ Y.1 17 i = σ.1 5 i) ∧ (∀ i, 0 ≤ i → i < 8 → Y.1 18 i = σ.1 6 i ∧ Y.1 19 i = σ.1 7 i) ∧ (∀ i, 0 ≤ i → i < 4 → Y.1 20 i = σ.1 8 i) ∧ (∀ i, 0 ≤ i → i < 6 → Y.1 21 i = σ.1 9 i) ∧ (∀ i, 0 ≤ i → i < 12 → Y.1 22 i = σ.1 10 i ∧ Y.1 23 i = σ.1 11 i ∧ Y.1 24 i = σ.1 12 i) ∧ (Y.1 14 5 = σ.1 2 5 ∧ Y.1 14 8 = σ.1 2 8 ∧ Y.1 14 9 = σ.1 2 9 ∧ Y.1 14 13 = σ.1 2 13) := by
  obtain ⟨Y1, e1, b1, k1, f1, v1⟩ := cpy_st (r := 3) (r' := 15) (n := 64) hB (zk3 hB) (zk15 hB) (by decide) (by decide) (by decide) (by decide) (by decide) (by decide)
  obtain ⟨Y2, e2, b2, k2, f2, v2⟩ := cpy_st (r := 4) (r' := 16) (n := 64) b1 (zk4 b1) (zk16 b1) (by decide) (by decide) (by decide) (by decide) (by decide) (by decide)
  obtain ⟨Y3, e3, b3, k3, f3, v3⟩ := cpy_st (r := 5) (r' := 17) (n := 64) b2 (zk5 b2) (zk17 b2) (by decide) (by decide) (by decide) (by decide) (by decide) (by decide)
  obtain ⟨Y4, e4, b4, k4, f4, v4⟩ := cpy_st (r := 6) (r' := 18) (n := 8) b3 (zk6 b3) (zk18 b3) (by decide) (by decide) (by decide) (by decide) (by decide) (by decide)
  obtain ⟨Y5, e5, b5, k5, f5, v5⟩ := cpy_st (r := 7) (r' := 19) (n := 8) b4 (zk7 b4) (zk19 b4) (by decide) (by decide) (by decide) (by decide) (by decide) (by decide)
  have F5 : ∀ u, u ≠ 15 ∧ u ≠ 16 ∧ u ≠ 17 ∧ u ≠ 18 ∧ u ≠ 19 → Y5.1 u = σ.1 u := fun u x => (f5 u x.2.2.2.2).trans ((f4 u x.2.2.2.1).trans ((f3 u x.2.2.1).trans ((f2 u x.2.1).trans (f1 u x.1))))
  have x5 : Y5.1 2 5 = σ.1 2 5 := by rw [F5 2 (by decide)]
  have b6 := zB_mup (r := 14) (i := 5) (v := σ.1 2 5) b5 (by decide +kernel)
  obtain ⟨Y7, e7, b7, k7, f7, v7⟩ := cpy_st (r := 8) (r' := 20) (n := 4) b6 (zk8 b6) (zk20 b6) (by decide) (by decide) (by decide) (by decide) (by decide) (by decide)
  have K7 : Y7.2 = σ.2 := k7.trans (k5.trans (k4.trans (k3.trans (k2.trans k1))))
  have F7 : ∀ u, ¬ (14 ≤ u ∧ u ≤ 20) → Y7.1 u = σ.1 u := fun u x => by
    rw [f7 u (by omega)]
    show mup Y5.1 14 5 (σ.1 2 5) u = _
    rw [mup_fun (by omega)]
    exact F5 u (by omega)
  have key : wpo (M_Road_copyFrom 14 2 σ) (fun q => q.1 = 0 ∧ zB q.2 ∧ q.2.2 = σ.2 ∧ (∀ u, ¬ (14 ≤ u ∧ u ≤ 24) → q.2.1 u = σ.1 u) ∧
    (∀ i, 0 ≤ i → i < 64 → q.2.1 15 i = σ.1 3 i ∧ q.2.1 16 i = σ.1 4 i ∧ q.2.1 17 i = σ.1 5 i) ∧ (∀ i, 0 ≤ i → i < 8 → q.2.1 18 i = σ.1 6 i ∧ q.2.1 19 i = σ.1 7 i) ∧ (∀ i, 0 ≤ i → i < 4 → q.2.1 20 i = σ.1 8 i) ∧ (∀ i, 0 ≤ i → i < 6 → q.2.1 21 i = σ.1 9 i) ∧ (∀ i, 0 ≤ i → i < 12 → q.2.1 22 i = σ.1 10 i ∧ q.2.1 23 i = σ.1 11 i ∧ q.2.1 24 i = σ.1 12 i) ∧ (q.2.1 14 5 = σ.1 2 5 ∧ q.2.1 14 8 = σ.1 2 8 ∧ q.2.1 14 9 = σ.1 2 9 ∧ q.2.1 14 13 = σ.1 2 13)) := by
    generalize hQ : (fun q : Int × mS => q.1 = 0 ∧ zB q.2 ∧ q.2.2 = σ.2 ∧ (∀ u, ¬ (14 ≤ u ∧ u ≤ 24) → q.2.1 u = σ.1 u) ∧
    (∀ i, 0 ≤ i → i < 64 → q.2.1 15 i = σ.1 3 i ∧ q.2.1 16 i = σ.1 4 i ∧ q.2.1 17 i = σ.1 5 i) ∧ (∀ i, 0 ≤ i → i < 8 → q.2.1 18 i = σ.1 6 i ∧ q.2.1 19 i = σ.1 7 i) ∧ (∀ i, 0 ≤ i → i < 4 → q.2.1 20 i = σ.1 8 i) ∧ (∀ i, 0 ≤ i → i < 6 → q.2.1 21 i = σ.1 9 i) ∧ (∀ i, 0 ≤ i → i < 12 → q.2.1 22 i = σ.1 10 i ∧ q.2.1 23 i = σ.1 11 i ∧ q.2.1 24 i = σ.1 12 i) ∧ (q.2.1 14 5 = σ.1 2 5 ∧ q.2.1 14 8 = σ.1 2 8 ∧ q.2.1 14 9 = σ.1 2 9 ∧ q.2.1 14 13 = σ.1 2 13)) = Q
    unfold M_Road_copyFrom
    simp (maxSteps := 5000000) (disch := first | assumption | omega) only [wpo_bind, wpo_some, wpo_gf, wpo_gk, wpo_ld, wpo_pf, wpo_pz, wpo_sd, wpo_sr, wpo_ln, wpo_idv, wpo_irm, wpo_lrm, wpo_ldv, mlet, mnar_int, mup_same, mup_cell, mup_slot, ite_true, ite_false, true_and, and_true, eq_self, or_true, true_or, and_self, Int.reduceLT, Int.reduceLE, Int.reduceEq, Int.reduceNe, Int.reduceAdd, Int.reduceSub, Int.reduceMul, Int.reduceNeg, ne_eq, not_false_eq_true, not_true_eq_false, false_or, or_false, zor_inl, zor_inr, Bool.false_eq_true, false_and, and_false, zk1, zk2, zk3, zk4, zk5, zk6, zk7, zk8, zk9, zk10, zk11, zk12, zk13, zk14, zk15, zk16, zk17, zk18, zk19, zk20, zk21, zk22, zk23, zk24, zk25, zk26, zk27, zk28, zk29, zk30, zk31, zk32, zk33, zk34, zk35, zk36, zk37, zk38, zk39, zk40, zk41, zk42, zk43, zk44, zk45, zk46, zk47, zk48, zk49, zk50, zk51, zk52, zk53, zk54, zk55, zk56, zk57, zk58, zk59, zk60, zk61, zk62, zk63, zk64, zk65, zk66, zk67, zk68, zk69, zk70, zk71, zk72, zk73, zk74, zk75, zk76, zk77, zk78, zk79, zk80, zk81, zk82, zk83, zk84, zk85, zk86, zk87, zk88, zk89, zk90, zr2_0, zr2_1, zr2_2, zr2_3, zr2_4, zr2_6, zr2_7, zr2_10, zr2_11, zr2_12, zr1_0, zr1_1, zr14_0, zr14_1, zr14_2, zr14_3, zr14_4, zr14_6, zr14_7, zr14_10, zr14_11, zr14_12, zr13_0, zr25_0, zr25_1, zr25_2, zr25_3, zr25_4, zr25_6, zr25_7, zr25_10, zr25_11, zr25_12, zr13_1, zr1_2, zr37_0, zr1_3, zr39_0, zr39_1, zr39_2, zr39_5, zr39_7, zr39_8, zr1_4, zr46_1, zr46_2, zr46_3, zr46_4, zr46_0, zr1_5, zr51_2, zr51_10, zr51_0, zr51_1, zr54_1, zr54_2, zr54_3, zr1_6, zr58_1, zr58_2, zr58_3, zr58_0, zr1_7, zr62_2, zr62_3, zr62_0, zr62_1, zr1_8, zr1_9, zr1_10, zr1_15, zr68_2, zr68_3, zr68_4, zr68_5, zr68_7, zr68_8, zr68_9, zr68_12, zr68_13, zr68_14, zr68_22, zr68_23, zr68_24, zr68_26, zr68_35, zr68_36, zr68_37, zr68_38, zr68_39, zr68_40, zr68_41, zr68_42, e1, e2, e3, e4, e5, x5, e7]
    refine d_laws_14_2 b7 (fun t t0 t1 => by rw [F7 9 (by decide), K7]; exact hv t t0 t1) (fun L l1 l2 l3 l4 => ?_)
    have x8 : L.1 2 8 = σ.1 2 8 := by rw [l3 2 (by decide), F7 2 (by decide)]
    have x9 : L.1 2 9 = σ.1 2 9 := by rw [l3 2 (by decide), F7 2 (by decide)]
    have x13 : L.1 2 13 = σ.1 2 13 := by rw [l3 2 (by decide), F7 2 (by decide)]
    have c1 := zB_mup (r := 14) (i := 8) (v := σ.1 2 8) l1 (by decide +kernel)
    have c2 := zB_mup (r := 14) (i := 9) (v := σ.1 2 9) c1 (by decide +kernel)
    obtain ⟨Z1, e8, b8, k8, f8, v8⟩ := cpy_st (r := 10) (r' := 22) (n := 12) c2 (zk10 c2) (zk22 c2) (by decide) (by decide) (by decide) (by decide) (by decide) (by decide)
    obtain ⟨Z2, e9, b9, k9, f9, v9⟩ := cpy_st (r := 11) (r' := 23) (n := 12) b8 (zk11 b8) (zk23 b8) (by decide) (by decide) (by decide) (by decide) (by decide) (by decide)
    obtain ⟨Z3, e10, b10, k10, f10, v10⟩ := cpy_st (r := 12) (r' := 24) (n := 12) b9 (zk12 b9) (zk24 b9) (by decide) (by decide) (by decide) (by decide) (by decide) (by decide)
    have FZ : ∀ u, u ≠ 22 ∧ u ≠ 23 ∧ u ≠ 24 → Z3.1 u = mup (mup L.1 14 8 (σ.1 2 8)) 14 9 (σ.1 2 9) u := fun u x => (f10 u x.2.2).trans ((f9 u x.2.1).trans (f8 u x.1))
    have z13 : Z3.1 2 13 = σ.1 2 13 := by rw [FZ 2 (by decide), mup_cell (by decide), mup_cell (by decide)]; exact x13
    have FL : ∀ u, u ≠ 14 → mup (mup L.1 14 8 (σ.1 2 8)) 14 9 (σ.1 2 9) u = L.1 u := fun u x => by rw [mup_fun x, mup_fun x]
    have e : B_Road_copyFrom_54 14 2 6 L = some (Sum.inr (0, (mup Z3.1 14 13 (σ.1 2 13), Z3.2))) := wpo_is (by
      unfold B_Road_copyFrom_54
      simp (maxSteps := 5000000) (disch := first | assumption | omega) only [wpo_bind, wpo_some, wpo_gf, wpo_gk, wpo_ld, wpo_pf, wpo_pz, wpo_sd, wpo_sr, wpo_ln, wpo_idv, wpo_irm, wpo_lrm, wpo_ldv, mlet, mnar_int, mup_same, mup_cell, mup_slot, ite_true, ite_false, true_and, and_true, eq_self, or_true, true_or, and_self, Int.reduceLT, Int.reduceLE, Int.reduceEq, Int.reduceNe, Int.reduceAdd, Int.reduceSub, Int.reduceMul, Int.reduceNeg, ne_eq, not_false_eq_true, not_true_eq_false, false_or, or_false, zor_inl, zor_inr, Bool.false_eq_true, false_and, and_false, zk1, zk2, zk3, zk4, zk5, zk6, zk7, zk8, zk9, zk10, zk11, zk12, zk13, zk14, zk15, zk16, zk17, zk18, zk19, zk20, zk21, zk22, zk23, zk24, zk25, zk26, zk27, zk28, zk29, zk30, zk31, zk32, zk33, zk34, zk35, zk36, zk37, zk38, zk39, zk40, zk41, zk42, zk43, zk44, zk45, zk46, zk47, zk48, zk49, zk50, zk51, zk52, zk53, zk54, zk55, zk56, zk57, zk58, zk59, zk60, zk61, zk62, zk63, zk64, zk65, zk66, zk67, zk68, zk69, zk70, zk71, zk72, zk73, zk74, zk75, zk76, zk77, zk78, zk79, zk80, zk81, zk82, zk83, zk84, zk85, zk86, zk87, zk88, zk89, zk90, zr2_0, zr2_1, zr2_2, zr2_3, zr2_4, zr2_6, zr2_7, zr2_10, zr2_11, zr2_12, zr1_0, zr1_1, zr14_0, zr14_1, zr14_2, zr14_3, zr14_4, zr14_6, zr14_7, zr14_10, zr14_11, zr14_12, zr13_0, zr25_0, zr25_1, zr25_2, zr25_3, zr25_4, zr25_6, zr25_7, zr25_10, zr25_11, zr25_12, zr13_1, zr1_2, zr37_0, zr1_3, zr39_0, zr39_1, zr39_2, zr39_5, zr39_7, zr39_8, zr1_4, zr46_1, zr46_2, zr46_3, zr46_4, zr46_0, zr1_5, zr51_2, zr51_10, zr51_0, zr51_1, zr54_1, zr54_2, zr54_3, zr1_6, zr58_1, zr58_2, zr58_3, zr58_0, zr1_7, zr62_2, zr62_3, zr62_0, zr62_1, zr1_8, zr1_9, zr1_10, zr1_15, zr68_2, zr68_3, zr68_4, zr68_5, zr68_7, zr68_8, zr68_9, zr68_12, zr68_13, zr68_14, zr68_22, zr68_23, zr68_24, zr68_26, zr68_35, zr68_36, zr68_37, zr68_38, zr68_39, zr68_40, zr68_41, zr68_42, x8, x9, e8, e9, e10, z13])
    have FW : ∀ u, u ≠ 14 → mup Z3.1 14 13 (σ.1 2 13) u = Z3.1 u := fun u x => mup_fun x
    refine ⟨_, e, ?_⟩
    rw [← hQ]
    have l7 : ∀ u, u ≠ 14 ∧ u ≠ 21 ∧ u ≠ 22 ∧ u ≠ 23 ∧ u ≠ 24 → mup Z3.1 14 13 (σ.1 2 13) u = Y7.1 u := fun u x => by rw [FW u x.1, FZ u ⟨x.2.2.1, x.2.2.2.1, x.2.2.2.2⟩, FL u x.1]; exact l3 u x.2.1
    have y5 : ∀ u, u ≠ 14 ∧ u ≠ 20 → Y7.1 u = Y5.1 u := fun u x => by rw [f7 u x.2]; exact mup_fun x.1
    refine ⟨rfl, zB_mup b10 (by decide +kernel), k10.trans (k9.trans (k8.trans (l2.trans K7))), fun u x => ?_, fun i i0 i1 => ⟨?_, ?_, ?_⟩, fun i i0 i1 => ⟨?_, ?_⟩, fun i i0 i1 => ?_, fun i i0 i1 => ?_, fun i i0 i1 => ⟨?_, ?_, ?_⟩, ?_, ?_, ?_, ?_⟩
    · show mup Z3.1 14 13 (σ.1 2 13) u = _
      rw [l7 u (by omega)]; exact F7 u (by omega)
    · show mup Z3.1 14 13 (σ.1 2 13) 15 i = _
      rw [l7 15 (by decide), y5 15 (by decide), f5 15 (by decide), f4 15 (by decide), f3 15 (by decide), f2 15 (by decide)]; exact v1 i i0 i1
    · show mup Z3.1 14 13 (σ.1 2 13) 16 i = _
      rw [l7 16 (by decide), y5 16 (by decide), f5 16 (by decide), f4 16 (by decide), f3 16 (by decide), v2 i i0 i1, f1 4 (by decide)]
    · show mup Z3.1 14 13 (σ.1 2 13) 17 i = _
      rw [l7 17 (by decide), y5 17 (by decide), f5 17 (by decide), f4 17 (by decide), v3 i i0 i1, f2 5 (by decide), f1 5 (by decide)]
    · show mup Z3.1 14 13 (σ.1 2 13) 18 i = _
      rw [l7 18 (by decide), y5 18 (by decide), f5 18 (by decide), v4 i i0 i1, f3 6 (by decide), f2 6 (by decide), f1 6 (by decide)]
    · show mup Z3.1 14 13 (σ.1 2 13) 19 i = _
      rw [l7 19 (by decide), y5 19 (by decide), v5 i i0 i1, f4 7 (by decide), f3 7 (by decide), f2 7 (by decide), f1 7 (by decide)]
    · show mup Z3.1 14 13 (σ.1 2 13) 20 i = _
      rw [l7 20 (by decide), v7 i i0 i1]
      show mup Y5.1 14 5 (σ.1 2 5) 8 i = _
      rw [mup_cell (by decide), F5 8 (by decide)]
    · show mup Z3.1 14 13 (σ.1 2 13) 21 i = _
      rw [FW 21 (by decide), FZ 21 (by decide), FL 21 (by decide), l4 i i0 i1, F7 9 (by decide)]
    · show mup Z3.1 14 13 (σ.1 2 13) 22 i = _
      rw [FW 22 (by decide), f10 22 (by decide), f9 22 (by decide), v8 i i0 i1]
      show mup (mup L.1 14 8 (σ.1 2 8)) 14 9 (σ.1 2 9) 10 i = _
      rw [FL 10 (by decide), l3 10 (by decide), F7 10 (by decide)]
    · show mup Z3.1 14 13 (σ.1 2 13) 23 i = _
      rw [FW 23 (by decide), f10 23 (by decide), v9 i i0 i1, f8 11 (by decide)]
      show mup (mup L.1 14 8 (σ.1 2 8)) 14 9 (σ.1 2 9) 11 i = _
      rw [FL 11 (by decide), l3 11 (by decide), F7 11 (by decide)]
    · show mup Z3.1 14 13 (σ.1 2 13) 24 i = _
      rw [FW 24 (by decide), v10 i i0 i1, f9 12 (by decide), f8 12 (by decide)]
      show mup (mup L.1 14 8 (σ.1 2 8)) 14 9 (σ.1 2 9) 12 i = _
      rw [FL 12 (by decide), l3 12 (by decide), F7 12 (by decide)]
    · show mup Z3.1 14 13 (σ.1 2 13) 14 5 = _
      rw [mup_slot (by decide), FZ 14 (by decide), mup_slot (by decide), mup_slot (by decide), l3 14 (by decide), f7 14 (by decide)]
      show mup Y5.1 14 5 (σ.1 2 5) 14 5 = _
      rw [mup_same]
    · show mup Z3.1 14 13 (σ.1 2 13) 14 8 = _
      rw [mup_slot (by decide), FZ 14 (by decide), mup_slot (by decide), mup_same]
    · show mup Z3.1 14 13 (σ.1 2 13) 14 9 = _
      rw [mup_slot (by decide), FZ 14 (by decide), mup_same]
    · show mup Z3.1 14 13 (σ.1 2 13) 14 13 = _
      rw [mup_same]
  obtain ⟨⟨v, Y⟩, e, ev, rest⟩ := key
  simp only at ev rest
  subst ev
  exact ⟨Y, e, rest⟩
set_option maxHeartbeats 4000000 in
theorem d_laws_25_2 {σ : mS} (hB : zB σ) (hv : ∀ t, 0 ≤ t → t < 6 → σ.1 9 t = 0 ∨ 0 < σ.1 9 t ∧ (σ.2.1 (σ.1 9 t)).1 = 4) {Q : Int × mS → Prop} (he : ∀ Y : mS, zB Y → Y.2 = σ.2 → (∀ u, u ≠ 32 → Y.1 u = σ.1 u) → (∀ i, 0 ≤ i → i < 6 → Y.1 32 i = σ.1 9 i) → ∃ r, B_Road_copyFrom_54 25 2 6 Y = some (Sum.inr r) ∧ Q r) : wpo (M_Road_copyFrom_54 25 2 0 σ) Q := by
  unfold M_Road_copyFrom_54
  refine loopN (fun m y => y.1 = (m : Int) ∧ zB y.2 ∧ y.2.2 = σ.2 ∧ (∀ u, u ≠ 32 → y.2.1 u = σ.1 u) ∧ ∀ i, 0 ≤ i → i < (m : Int) → y.2.1 32 i = σ.1 9 i) 6 _ _ (by decide) ⟨rfl, hB, rfl, fun u _ => rfl, fun i a b => by omega⟩ ?_ ?_
  · intro m y hm ⟨y1, y2, y3, y4, y5⟩
    obtain ⟨l2, x⟩ := y
    simp only at y1 y2 y3 y4 y5
    have p0 : 0 ≤ l2 := by omega
    have p1 : l2 < 6 := by omega
    have vs : x.1 9 l2 = σ.1 9 l2 := by rw [y4 9 (by decide)]
    have ok := hv l2 p0 p1
    have ok2 : σ.1 9 l2 = 0 ∨ 0 < σ.1 9 l2 ∧ (x.2.1 (σ.1 9 l2)).1 = 4 := by rw [y3]; exact ok
    have w1 : ∀ u : Int, u = l2 → w32 (u + 1) = l2 + 1 := fun u hu => by rw [w32_in (by omega) (by omega)]; omega
    have e : B_Road_copyFrom_54 25 2 l2 x = some (Sum.inl (l2 + 1, (mup x.1 32 l2 (σ.1 9 l2), x.2))) := wpo_is (by
      unfold B_Road_copyFrom_54
      simp (maxSteps := 5000000) (disch := first | assumption | omega) only [wpo_bind, wpo_some, wpo_gf, wpo_gk, wpo_ld, wpo_pf, wpo_pz, wpo_sd, wpo_sr, wpo_ln, wpo_idv, wpo_irm, wpo_lrm, wpo_ldv, mlet, mnar_int, mup_same, mup_cell, mup_slot, ite_true, ite_false, true_and, and_true, eq_self, or_true, true_or, and_self, Int.reduceLT, Int.reduceLE, Int.reduceEq, Int.reduceNe, Int.reduceAdd, Int.reduceSub, Int.reduceMul, Int.reduceNeg, ne_eq, not_false_eq_true, not_true_eq_false, false_or, or_false, zor_inl, zor_inr, Bool.false_eq_true, false_and, and_false, zk1, zk2, zk3, zk4, zk5, zk6, zk7, zk8, zk9, zk10, zk11, zk12, zk13, zk14, zk15, zk16, zk17, zk18, zk19, zk20, zk21, zk22, zk23, zk24, zk25, zk26, zk27, zk28, zk29, zk30, zk31, zk32, zk33, zk34, zk35, zk36, zk37, zk38, zk39, zk40, zk41, zk42, zk43, zk44, zk45, zk46, zk47, zk48, zk49, zk50, zk51, zk52, zk53, zk54, zk55, zk56, zk57, zk58, zk59, zk60, zk61, zk62, zk63, zk64, zk65, zk66, zk67, zk68, zk69, zk70, zk71, zk72, zk73, zk74, zk75, zk76, zk77, zk78, zk79, zk80, zk81, zk82, zk83, zk84, zk85, zk86, zk87, zk88, zk89, zk90, zr2_0, zr2_1, zr2_2, zr2_3, zr2_4, zr2_6, zr2_7, zr2_10, zr2_11, zr2_12, zr1_0, zr1_1, zr14_0, zr14_1, zr14_2, zr14_3, zr14_4, zr14_6, zr14_7, zr14_10, zr14_11, zr14_12, zr13_0, zr25_0, zr25_1, zr25_2, zr25_3, zr25_4, zr25_6, zr25_7, zr25_10, zr25_11, zr25_12, zr13_1, zr1_2, zr37_0, zr1_3, zr39_0, zr39_1, zr39_2, zr39_5, zr39_7, zr39_8, zr1_4, zr46_1, zr46_2, zr46_3, zr46_4, zr46_0, zr1_5, zr51_2, zr51_10, zr51_0, zr51_1, zr54_1, zr54_2, zr54_3, zr1_6, zr58_1, zr58_2, zr58_3, zr58_0, zr1_7, zr62_2, zr62_3, zr62_0, zr62_1, zr1_8, zr1_9, zr1_10, zr1_15, zr68_2, zr68_3, zr68_4, zr68_5, zr68_7, zr68_8, zr68_9, zr68_12, zr68_13, zr68_14, zr68_22, zr68_23, zr68_24, zr68_26, zr68_35, zr68_36, zr68_37, zr68_38, zr68_39, zr68_40, zr68_41, zr68_42, p0, p1, vs, ok2, w1])
    refine ⟨_, e, ?_, zB_mup y2 (zokr_arr (by decide +kernel)), y3, fun u hu => ?_, fun i i0 i1 => ?_⟩
    · show l2 + 1 = ((m + 1 : Nat) : Int)
      omega
    · show mup x.1 32 l2 (σ.1 9 l2) u = _
      rw [mup_fun hu]; exact y4 u hu
    · show mup x.1 32 l2 (σ.1 9 l2) 32 i = _
      rw [mup_if]
      by_cases ci : i = l2
      · rw [if_pos ci, ci]
      · rw [if_neg ci]; exact y5 i i0 (by omega)
  · intro y ⟨y1, y2, y3, y4, y5⟩
    obtain ⟨l2, x⟩ := y
    simp only at y1 y2 y3 y4 y5
    subst y1
    exact he x y2 y3 y4 y5
set_option maxHeartbeats 8000000 in
theorem d_copy_25_2 {σ : mS} (hB : zB σ) (hv : ∀ t, 0 ≤ t → t < 6 → σ.1 9 t = 0 ∨ 0 < σ.1 9 t ∧ (σ.2.1 (σ.1 9 t)).1 = 4) : ∃ Y : mS, M_Road_copyFrom 25 2 σ = some (0, Y) ∧ zB Y ∧ Y.2 = σ.2 ∧ (∀ u, ¬ (25 ≤ u ∧ u ≤ 35) → Y.1 u = σ.1 u) ∧
    (∀ i, 0 ≤ i → i < 64 → Y.1 26 i = σ.1 3 i ∧ Y.1 27 i = σ.1 4 i ∧ Y.1 28 i = σ.1 5 i) ∧ (∀ i, 0 ≤ i → i < 8 → Y.1 29 i = σ.1 6 i ∧ Y.1 30 i = σ.1 7 i) ∧ (∀ i, 0 ≤ i → i < 4 → Y.1 31 i = σ.1 8 i) ∧ (∀ i, 0 ≤ i → i < 6 → Y.1 32 i = σ.1 9 i) ∧ (∀ i, 0 ≤ i → i < 12 → Y.1 33 i = σ.1 10 i ∧ Y.1 34 i = σ.1 11 i ∧ Y.1 35 i = σ.1 12 i) ∧ (Y.1 25 5 = σ.1 2 5 ∧ Y.1 25 8 = σ.1 2 8 ∧ Y.1 25 9 = σ.1 2 9 ∧ Y.1 25 13 = σ.1 2 13) := by
  obtain ⟨Y1, e1, b1, k1, f1, v1⟩ := cpy_st (r := 3) (r' := 26) (n := 64) hB (zk3 hB) (zk26 hB) (by decide) (by decide) (by decide) (by decide) (by decide) (by decide)
  obtain ⟨Y2, e2, b2, k2, f2, v2⟩ := cpy_st (r := 4) (r' := 27) (n := 64) b1 (zk4 b1) (zk27 b1) (by decide) (by decide) (by decide) (by decide) (by decide) (by decide)
  obtain ⟨Y3, e3, b3, k3, f3, v3⟩ := cpy_st (r := 5) (r' := 28) (n := 64) b2 (zk5 b2) (zk28 b2) (by decide) (by decide) (by decide) (by decide) (by decide) (by decide)
  obtain ⟨Y4, e4, b4, k4, f4, v4⟩ := cpy_st (r := 6) (r' := 29) (n := 8) b3 (zk6 b3) (zk29 b3) (by decide) (by decide) (by decide) (by decide) (by decide) (by decide)
  obtain ⟨Y5, e5, b5, k5, f5, v5⟩ := cpy_st (r := 7) (r' := 30) (n := 8) b4 (zk7 b4) (zk30 b4) (by decide) (by decide) (by decide) (by decide) (by decide) (by decide)
  have F5 : ∀ u, u ≠ 26 ∧ u ≠ 27 ∧ u ≠ 28 ∧ u ≠ 29 ∧ u ≠ 30 → Y5.1 u = σ.1 u := fun u x => (f5 u x.2.2.2.2).trans ((f4 u x.2.2.2.1).trans ((f3 u x.2.2.1).trans ((f2 u x.2.1).trans (f1 u x.1))))
  have x5 : Y5.1 2 5 = σ.1 2 5 := by rw [F5 2 (by decide)]
  have b6 := zB_mup (r := 25) (i := 5) (v := σ.1 2 5) b5 (by decide +kernel)
  obtain ⟨Y7, e7, b7, k7, f7, v7⟩ := cpy_st (r := 8) (r' := 31) (n := 4) b6 (zk8 b6) (zk31 b6) (by decide) (by decide) (by decide) (by decide) (by decide) (by decide)
  have K7 : Y7.2 = σ.2 := k7.trans (k5.trans (k4.trans (k3.trans (k2.trans k1))))
  have F7 : ∀ u, ¬ (25 ≤ u ∧ u ≤ 31) → Y7.1 u = σ.1 u := fun u x => by
    rw [f7 u (by omega)]
    show mup Y5.1 25 5 (σ.1 2 5) u = _
    rw [mup_fun (by omega)]
    exact F5 u (by omega)
  have key : wpo (M_Road_copyFrom 25 2 σ) (fun q => q.1 = 0 ∧ zB q.2 ∧ q.2.2 = σ.2 ∧ (∀ u, ¬ (25 ≤ u ∧ u ≤ 35) → q.2.1 u = σ.1 u) ∧
    (∀ i, 0 ≤ i → i < 64 → q.2.1 26 i = σ.1 3 i ∧ q.2.1 27 i = σ.1 4 i ∧ q.2.1 28 i = σ.1 5 i) ∧ (∀ i, 0 ≤ i → i < 8 → q.2.1 29 i = σ.1 6 i ∧ q.2.1 30 i = σ.1 7 i) ∧ (∀ i, 0 ≤ i → i < 4 → q.2.1 31 i = σ.1 8 i) ∧ (∀ i, 0 ≤ i → i < 6 → q.2.1 32 i = σ.1 9 i) ∧ (∀ i, 0 ≤ i → i < 12 → q.2.1 33 i = σ.1 10 i ∧ q.2.1 34 i = σ.1 11 i ∧ q.2.1 35 i = σ.1 12 i) ∧ (q.2.1 25 5 = σ.1 2 5 ∧ q.2.1 25 8 = σ.1 2 8 ∧ q.2.1 25 9 = σ.1 2 9 ∧ q.2.1 25 13 = σ.1 2 13)) := by
    generalize hQ : (fun q : Int × mS => q.1 = 0 ∧ zB q.2 ∧ q.2.2 = σ.2 ∧ (∀ u, ¬ (25 ≤ u ∧ u ≤ 35) → q.2.1 u = σ.1 u) ∧
    (∀ i, 0 ≤ i → i < 64 → q.2.1 26 i = σ.1 3 i ∧ q.2.1 27 i = σ.1 4 i ∧ q.2.1 28 i = σ.1 5 i) ∧ (∀ i, 0 ≤ i → i < 8 → q.2.1 29 i = σ.1 6 i ∧ q.2.1 30 i = σ.1 7 i) ∧ (∀ i, 0 ≤ i → i < 4 → q.2.1 31 i = σ.1 8 i) ∧ (∀ i, 0 ≤ i → i < 6 → q.2.1 32 i = σ.1 9 i) ∧ (∀ i, 0 ≤ i → i < 12 → q.2.1 33 i = σ.1 10 i ∧ q.2.1 34 i = σ.1 11 i ∧ q.2.1 35 i = σ.1 12 i) ∧ (q.2.1 25 5 = σ.1 2 5 ∧ q.2.1 25 8 = σ.1 2 8 ∧ q.2.1 25 9 = σ.1 2 9 ∧ q.2.1 25 13 = σ.1 2 13)) = Q
    unfold M_Road_copyFrom
    simp (maxSteps := 5000000) (disch := first | assumption | omega) only [wpo_bind, wpo_some, wpo_gf, wpo_gk, wpo_ld, wpo_pf, wpo_pz, wpo_sd, wpo_sr, wpo_ln, wpo_idv, wpo_irm, wpo_lrm, wpo_ldv, mlet, mnar_int, mup_same, mup_cell, mup_slot, ite_true, ite_false, true_and, and_true, eq_self, or_true, true_or, and_self, Int.reduceLT, Int.reduceLE, Int.reduceEq, Int.reduceNe, Int.reduceAdd, Int.reduceSub, Int.reduceMul, Int.reduceNeg, ne_eq, not_false_eq_true, not_true_eq_false, false_or, or_false, zor_inl, zor_inr, Bool.false_eq_true, false_and, and_false, zk1, zk2, zk3, zk4, zk5, zk6, zk7, zk8, zk9, zk10, zk11, zk12, zk13, zk14, zk15, zk16, zk17, zk18, zk19, zk20, zk21, zk22, zk23, zk24, zk25, zk26, zk27, zk28, zk29, zk30, zk31, zk32, zk33, zk34, zk35, zk36, zk37, zk38, zk39, zk40, zk41, zk42, zk43, zk44, zk45, zk46, zk47, zk48, zk49, zk50, zk51, zk52, zk53, zk54, zk55, zk56, zk57, zk58, zk59, zk60, zk61, zk62, zk63, zk64, zk65, zk66, zk67, zk68, zk69, zk70, zk71, zk72, zk73, zk74, zk75, zk76, zk77, zk78, zk79, zk80, zk81, zk82, zk83, zk84, zk85, zk86, zk87, zk88, zk89, zk90, zr2_0, zr2_1, zr2_2, zr2_3, zr2_4, zr2_6, zr2_7, zr2_10, zr2_11, zr2_12, zr1_0, zr1_1, zr14_0, zr14_1, zr14_2, zr14_3, zr14_4, zr14_6, zr14_7, zr14_10, zr14_11, zr14_12, zr13_0, zr25_0, zr25_1, zr25_2, zr25_3, zr25_4, zr25_6, zr25_7, zr25_10, zr25_11, zr25_12, zr13_1, zr1_2, zr37_0, zr1_3, zr39_0, zr39_1, zr39_2, zr39_5, zr39_7, zr39_8, zr1_4, zr46_1, zr46_2, zr46_3, zr46_4, zr46_0, zr1_5, zr51_2, zr51_10, zr51_0, zr51_1, zr54_1, zr54_2, zr54_3, zr1_6, zr58_1, zr58_2, zr58_3, zr58_0, zr1_7, zr62_2, zr62_3, zr62_0, zr62_1, zr1_8, zr1_9, zr1_10, zr1_15, zr68_2, zr68_3, zr68_4, zr68_5, zr68_7, zr68_8, zr68_9, zr68_12, zr68_13, zr68_14, zr68_22, zr68_23, zr68_24, zr68_26, zr68_35, zr68_36, zr68_37, zr68_38, zr68_39, zr68_40, zr68_41, zr68_42, e1, e2, e3, e4, e5, x5, e7]
    refine d_laws_25_2 b7 (fun t t0 t1 => by rw [F7 9 (by decide), K7]; exact hv t t0 t1) (fun L l1 l2 l3 l4 => ?_)
    have x8 : L.1 2 8 = σ.1 2 8 := by rw [l3 2 (by decide), F7 2 (by decide)]
    have x9 : L.1 2 9 = σ.1 2 9 := by rw [l3 2 (by decide), F7 2 (by decide)]
    have x13 : L.1 2 13 = σ.1 2 13 := by rw [l3 2 (by decide), F7 2 (by decide)]
    have c1 := zB_mup (r := 25) (i := 8) (v := σ.1 2 8) l1 (by decide +kernel)
    have c2 := zB_mup (r := 25) (i := 9) (v := σ.1 2 9) c1 (by decide +kernel)
    obtain ⟨Z1, e8, b8, k8, f8, v8⟩ := cpy_st (r := 10) (r' := 33) (n := 12) c2 (zk10 c2) (zk33 c2) (by decide) (by decide) (by decide) (by decide) (by decide) (by decide)
    obtain ⟨Z2, e9, b9, k9, f9, v9⟩ := cpy_st (r := 11) (r' := 34) (n := 12) b8 (zk11 b8) (zk34 b8) (by decide) (by decide) (by decide) (by decide) (by decide) (by decide)
    obtain ⟨Z3, e10, b10, k10, f10, v10⟩ := cpy_st (r := 12) (r' := 35) (n := 12) b9 (zk12 b9) (zk35 b9) (by decide) (by decide) (by decide) (by decide) (by decide) (by decide)
    have FZ : ∀ u, u ≠ 33 ∧ u ≠ 34 ∧ u ≠ 35 → Z3.1 u = mup (mup L.1 25 8 (σ.1 2 8)) 25 9 (σ.1 2 9) u := fun u x => (f10 u x.2.2).trans ((f9 u x.2.1).trans (f8 u x.1))
    have z13 : Z3.1 2 13 = σ.1 2 13 := by rw [FZ 2 (by decide), mup_cell (by decide), mup_cell (by decide)]; exact x13
    have FL : ∀ u, u ≠ 25 → mup (mup L.1 25 8 (σ.1 2 8)) 25 9 (σ.1 2 9) u = L.1 u := fun u x => by rw [mup_fun x, mup_fun x]
    have e : B_Road_copyFrom_54 25 2 6 L = some (Sum.inr (0, (mup Z3.1 25 13 (σ.1 2 13), Z3.2))) := wpo_is (by
      unfold B_Road_copyFrom_54
      simp (maxSteps := 5000000) (disch := first | assumption | omega) only [wpo_bind, wpo_some, wpo_gf, wpo_gk, wpo_ld, wpo_pf, wpo_pz, wpo_sd, wpo_sr, wpo_ln, wpo_idv, wpo_irm, wpo_lrm, wpo_ldv, mlet, mnar_int, mup_same, mup_cell, mup_slot, ite_true, ite_false, true_and, and_true, eq_self, or_true, true_or, and_self, Int.reduceLT, Int.reduceLE, Int.reduceEq, Int.reduceNe, Int.reduceAdd, Int.reduceSub, Int.reduceMul, Int.reduceNeg, ne_eq, not_false_eq_true, not_true_eq_false, false_or, or_false, zor_inl, zor_inr, Bool.false_eq_true, false_and, and_false, zk1, zk2, zk3, zk4, zk5, zk6, zk7, zk8, zk9, zk10, zk11, zk12, zk13, zk14, zk15, zk16, zk17, zk18, zk19, zk20, zk21, zk22, zk23, zk24, zk25, zk26, zk27, zk28, zk29, zk30, zk31, zk32, zk33, zk34, zk35, zk36, zk37, zk38, zk39, zk40, zk41, zk42, zk43, zk44, zk45, zk46, zk47, zk48, zk49, zk50, zk51, zk52, zk53, zk54, zk55, zk56, zk57, zk58, zk59, zk60, zk61, zk62, zk63, zk64, zk65, zk66, zk67, zk68, zk69, zk70, zk71, zk72, zk73, zk74, zk75, zk76, zk77, zk78, zk79, zk80, zk81, zk82, zk83, zk84, zk85, zk86, zk87, zk88, zk89, zk90, zr2_0, zr2_1, zr2_2, zr2_3, zr2_4, zr2_6, zr2_7, zr2_10, zr2_11, zr2_12, zr1_0, zr1_1, zr14_0, zr14_1, zr14_2, zr14_3, zr14_4, zr14_6, zr14_7, zr14_10, zr14_11, zr14_12, zr13_0, zr25_0, zr25_1, zr25_2, zr25_3, zr25_4, zr25_6, zr25_7, zr25_10, zr25_11, zr25_12, zr13_1, zr1_2, zr37_0, zr1_3, zr39_0, zr39_1, zr39_2, zr39_5, zr39_7, zr39_8, zr1_4, zr46_1, zr46_2, zr46_3, zr46_4, zr46_0, zr1_5, zr51_2, zr51_10, zr51_0, zr51_1, zr54_1, zr54_2, zr54_3, zr1_6, zr58_1, zr58_2, zr58_3, zr58_0, zr1_7, zr62_2, zr62_3, zr62_0, zr62_1, zr1_8, zr1_9, zr1_10, zr1_15, zr68_2, zr68_3, zr68_4, zr68_5, zr68_7, zr68_8, zr68_9, zr68_12, zr68_13, zr68_14, zr68_22, zr68_23, zr68_24, zr68_26, zr68_35, zr68_36, zr68_37, zr68_38, zr68_39, zr68_40, zr68_41, zr68_42, x8, x9, e8, e9, e10, z13])
    have FW : ∀ u, u ≠ 25 → mup Z3.1 25 13 (σ.1 2 13) u = Z3.1 u := fun u x => mup_fun x
    refine ⟨_, e, ?_⟩
    rw [← hQ]
    have l7 : ∀ u, u ≠ 25 ∧ u ≠ 32 ∧ u ≠ 33 ∧ u ≠ 34 ∧ u ≠ 35 → mup Z3.1 25 13 (σ.1 2 13) u = Y7.1 u := fun u x => by rw [FW u x.1, FZ u ⟨x.2.2.1, x.2.2.2.1, x.2.2.2.2⟩, FL u x.1]; exact l3 u x.2.1
    have y5 : ∀ u, u ≠ 25 ∧ u ≠ 31 → Y7.1 u = Y5.1 u := fun u x => by rw [f7 u x.2]; exact mup_fun x.1
    refine ⟨rfl, zB_mup b10 (by decide +kernel), k10.trans (k9.trans (k8.trans (l2.trans K7))), fun u x => ?_, fun i i0 i1 => ⟨?_, ?_, ?_⟩, fun i i0 i1 => ⟨?_, ?_⟩, fun i i0 i1 => ?_, fun i i0 i1 => ?_, fun i i0 i1 => ⟨?_, ?_, ?_⟩, ?_, ?_, ?_, ?_⟩
    · show mup Z3.1 25 13 (σ.1 2 13) u = _
      rw [l7 u (by omega)]; exact F7 u (by omega)
    · show mup Z3.1 25 13 (σ.1 2 13) 26 i = _
      rw [l7 26 (by decide), y5 26 (by decide), f5 26 (by decide), f4 26 (by decide), f3 26 (by decide), f2 26 (by decide)]; exact v1 i i0 i1
    · show mup Z3.1 25 13 (σ.1 2 13) 27 i = _
      rw [l7 27 (by decide), y5 27 (by decide), f5 27 (by decide), f4 27 (by decide), f3 27 (by decide), v2 i i0 i1, f1 4 (by decide)]
    · show mup Z3.1 25 13 (σ.1 2 13) 28 i = _
      rw [l7 28 (by decide), y5 28 (by decide), f5 28 (by decide), f4 28 (by decide), v3 i i0 i1, f2 5 (by decide), f1 5 (by decide)]
    · show mup Z3.1 25 13 (σ.1 2 13) 29 i = _
      rw [l7 29 (by decide), y5 29 (by decide), f5 29 (by decide), v4 i i0 i1, f3 6 (by decide), f2 6 (by decide), f1 6 (by decide)]
    · show mup Z3.1 25 13 (σ.1 2 13) 30 i = _
      rw [l7 30 (by decide), y5 30 (by decide), v5 i i0 i1, f4 7 (by decide), f3 7 (by decide), f2 7 (by decide), f1 7 (by decide)]
    · show mup Z3.1 25 13 (σ.1 2 13) 31 i = _
      rw [l7 31 (by decide), v7 i i0 i1]
      show mup Y5.1 25 5 (σ.1 2 5) 8 i = _
      rw [mup_cell (by decide), F5 8 (by decide)]
    · show mup Z3.1 25 13 (σ.1 2 13) 32 i = _
      rw [FW 32 (by decide), FZ 32 (by decide), FL 32 (by decide), l4 i i0 i1, F7 9 (by decide)]
    · show mup Z3.1 25 13 (σ.1 2 13) 33 i = _
      rw [FW 33 (by decide), f10 33 (by decide), f9 33 (by decide), v8 i i0 i1]
      show mup (mup L.1 25 8 (σ.1 2 8)) 25 9 (σ.1 2 9) 10 i = _
      rw [FL 10 (by decide), l3 10 (by decide), F7 10 (by decide)]
    · show mup Z3.1 25 13 (σ.1 2 13) 34 i = _
      rw [FW 34 (by decide), f10 34 (by decide), v9 i i0 i1, f8 11 (by decide)]
      show mup (mup L.1 25 8 (σ.1 2 8)) 25 9 (σ.1 2 9) 11 i = _
      rw [FL 11 (by decide), l3 11 (by decide), F7 11 (by decide)]
    · show mup Z3.1 25 13 (σ.1 2 13) 35 i = _
      rw [FW 35 (by decide), v10 i i0 i1, f9 12 (by decide), f8 12 (by decide)]
      show mup (mup L.1 25 8 (σ.1 2 8)) 25 9 (σ.1 2 9) 12 i = _
      rw [FL 12 (by decide), l3 12 (by decide), F7 12 (by decide)]
    · show mup Z3.1 25 13 (σ.1 2 13) 25 5 = _
      rw [mup_slot (by decide), FZ 25 (by decide), mup_slot (by decide), mup_slot (by decide), l3 25 (by decide), f7 25 (by decide)]
      show mup Y5.1 25 5 (σ.1 2 5) 25 5 = _
      rw [mup_same]
    · show mup Z3.1 25 13 (σ.1 2 13) 25 8 = _
      rw [mup_slot (by decide), FZ 25 (by decide), mup_slot (by decide), mup_same]
    · show mup Z3.1 25 13 (σ.1 2 13) 25 9 = _
      rw [mup_slot (by decide), FZ 25 (by decide), mup_same]
    · show mup Z3.1 25 13 (σ.1 2 13) 25 13 = _
      rw [mup_same]
  obtain ⟨⟨v, Y⟩, e, ev, rest⟩ := key
  simp only at ev rest
  subst ev
  exact ⟨Y, e, rest⟩
set_option maxHeartbeats 4000000 in
theorem d_laws_2_14 {σ : mS} (hB : zB σ) (hv : ∀ t, 0 ≤ t → t < 6 → σ.1 21 t = 0 ∨ 0 < σ.1 21 t ∧ (σ.2.1 (σ.1 21 t)).1 = 4) {Q : Int × mS → Prop} (he : ∀ Y : mS, zB Y → Y.2 = σ.2 → (∀ u, u ≠ 9 → Y.1 u = σ.1 u) → (∀ i, 0 ≤ i → i < 6 → Y.1 9 i = σ.1 21 i) → ∃ r, B_Road_copyFrom_54 2 14 6 Y = some (Sum.inr r) ∧ Q r) : wpo (M_Road_copyFrom_54 2 14 0 σ) Q := by
  unfold M_Road_copyFrom_54
  refine loopN (fun m y => y.1 = (m : Int) ∧ zB y.2 ∧ y.2.2 = σ.2 ∧ (∀ u, u ≠ 9 → y.2.1 u = σ.1 u) ∧ ∀ i, 0 ≤ i → i < (m : Int) → y.2.1 9 i = σ.1 21 i) 6 _ _ (by decide) ⟨rfl, hB, rfl, fun u _ => rfl, fun i a b => by omega⟩ ?_ ?_
  · intro m y hm ⟨y1, y2, y3, y4, y5⟩
    obtain ⟨l2, x⟩ := y
    simp only at y1 y2 y3 y4 y5
    have p0 : 0 ≤ l2 := by omega
    have p1 : l2 < 6 := by omega
    have vs : x.1 21 l2 = σ.1 21 l2 := by rw [y4 21 (by decide)]
    have ok := hv l2 p0 p1
    have ok2 : σ.1 21 l2 = 0 ∨ 0 < σ.1 21 l2 ∧ (x.2.1 (σ.1 21 l2)).1 = 4 := by rw [y3]; exact ok
    have w1 : ∀ u : Int, u = l2 → w32 (u + 1) = l2 + 1 := fun u hu => by rw [w32_in (by omega) (by omega)]; omega
    have e : B_Road_copyFrom_54 2 14 l2 x = some (Sum.inl (l2 + 1, (mup x.1 9 l2 (σ.1 21 l2), x.2))) := wpo_is (by
      unfold B_Road_copyFrom_54
      simp (maxSteps := 5000000) (disch := first | assumption | omega) only [wpo_bind, wpo_some, wpo_gf, wpo_gk, wpo_ld, wpo_pf, wpo_pz, wpo_sd, wpo_sr, wpo_ln, wpo_idv, wpo_irm, wpo_lrm, wpo_ldv, mlet, mnar_int, mup_same, mup_cell, mup_slot, ite_true, ite_false, true_and, and_true, eq_self, or_true, true_or, and_self, Int.reduceLT, Int.reduceLE, Int.reduceEq, Int.reduceNe, Int.reduceAdd, Int.reduceSub, Int.reduceMul, Int.reduceNeg, ne_eq, not_false_eq_true, not_true_eq_false, false_or, or_false, zor_inl, zor_inr, Bool.false_eq_true, false_and, and_false, zk1, zk2, zk3, zk4, zk5, zk6, zk7, zk8, zk9, zk10, zk11, zk12, zk13, zk14, zk15, zk16, zk17, zk18, zk19, zk20, zk21, zk22, zk23, zk24, zk25, zk26, zk27, zk28, zk29, zk30, zk31, zk32, zk33, zk34, zk35, zk36, zk37, zk38, zk39, zk40, zk41, zk42, zk43, zk44, zk45, zk46, zk47, zk48, zk49, zk50, zk51, zk52, zk53, zk54, zk55, zk56, zk57, zk58, zk59, zk60, zk61, zk62, zk63, zk64, zk65, zk66, zk67, zk68, zk69, zk70, zk71, zk72, zk73, zk74, zk75, zk76, zk77, zk78, zk79, zk80, zk81, zk82, zk83, zk84, zk85, zk86, zk87, zk88, zk89, zk90, zr2_0, zr2_1, zr2_2, zr2_3, zr2_4, zr2_6, zr2_7, zr2_10, zr2_11, zr2_12, zr1_0, zr1_1, zr14_0, zr14_1, zr14_2, zr14_3, zr14_4, zr14_6, zr14_7, zr14_10, zr14_11, zr14_12, zr13_0, zr25_0, zr25_1, zr25_2, zr25_3, zr25_4, zr25_6, zr25_7, zr25_10, zr25_11, zr25_12, zr13_1, zr1_2, zr37_0, zr1_3, zr39_0, zr39_1, zr39_2, zr39_5, zr39_7, zr39_8, zr1_4, zr46_1, zr46_2, zr46_3, zr46_4, zr46_0, zr1_5, zr51_2, zr51_10, zr51_0, zr51_1, zr54_1, zr54_2, zr54_3, zr1_6, zr58_1, zr58_2, zr58_3, zr58_0, zr1_7, zr62_2, zr62_3, zr62_0, zr62_1, zr1_8, zr1_9, zr1_10, zr1_15, zr68_2, zr68_3, zr68_4, zr68_5, zr68_7, zr68_8, zr68_9, zr68_12, zr68_13, zr68_14, zr68_22, zr68_23, zr68_24, zr68_26, zr68_35, zr68_36, zr68_37, zr68_38, zr68_39, zr68_40, zr68_41, zr68_42, p0, p1, vs, ok2, w1])
    refine ⟨_, e, ?_, zB_mup y2 (zokr_arr (by decide +kernel)), y3, fun u hu => ?_, fun i i0 i1 => ?_⟩
    · show l2 + 1 = ((m + 1 : Nat) : Int)
      omega
    · show mup x.1 9 l2 (σ.1 21 l2) u = _
      rw [mup_fun hu]; exact y4 u hu
    · show mup x.1 9 l2 (σ.1 21 l2) 9 i = _
      rw [mup_if]
      by_cases ci : i = l2
      · rw [if_pos ci, ci]
      · rw [if_neg ci]; exact y5 i i0 (by omega)
  · intro y ⟨y1, y2, y3, y4, y5⟩
    obtain ⟨l2, x⟩ := y
    simp only at y1 y2 y3 y4 y5
    subst y1
    exact he x y2 y3 y4 y5
set_option maxHeartbeats 8000000 in
theorem d_copy_2_14 {σ : mS} (hB : zB σ) (hv : ∀ t, 0 ≤ t → t < 6 → σ.1 21 t = 0 ∨ 0 < σ.1 21 t ∧ (σ.2.1 (σ.1 21 t)).1 = 4) : ∃ Y : mS, M_Road_copyFrom 2 14 σ = some (0, Y) ∧ zB Y ∧ Y.2 = σ.2 ∧ (∀ u, ¬ (2 ≤ u ∧ u ≤ 12) → Y.1 u = σ.1 u) ∧
    (∀ i, 0 ≤ i → i < 64 → Y.1 3 i = σ.1 15 i ∧ Y.1 4 i = σ.1 16 i ∧ Y.1 5 i = σ.1 17 i) ∧ (∀ i, 0 ≤ i → i < 8 → Y.1 6 i = σ.1 18 i ∧ Y.1 7 i = σ.1 19 i) ∧ (∀ i, 0 ≤ i → i < 4 → Y.1 8 i = σ.1 20 i) ∧ (∀ i, 0 ≤ i → i < 6 → Y.1 9 i = σ.1 21 i) ∧ (∀ i, 0 ≤ i → i < 12 → Y.1 10 i = σ.1 22 i ∧ Y.1 11 i = σ.1 23 i ∧ Y.1 12 i = σ.1 24 i) ∧ (Y.1 2 5 = σ.1 14 5 ∧ Y.1 2 8 = σ.1 14 8 ∧ Y.1 2 9 = σ.1 14 9 ∧ Y.1 2 13 = σ.1 14 13) := by
  obtain ⟨Y1, e1, b1, k1, f1, v1⟩ := cpy_st (r := 15) (r' := 3) (n := 64) hB (zk15 hB) (zk3 hB) (by decide) (by decide) (by decide) (by decide) (by decide) (by decide)
  obtain ⟨Y2, e2, b2, k2, f2, v2⟩ := cpy_st (r := 16) (r' := 4) (n := 64) b1 (zk16 b1) (zk4 b1) (by decide) (by decide) (by decide) (by decide) (by decide) (by decide)
  obtain ⟨Y3, e3, b3, k3, f3, v3⟩ := cpy_st (r := 17) (r' := 5) (n := 64) b2 (zk17 b2) (zk5 b2) (by decide) (by decide) (by decide) (by decide) (by decide) (by decide)
  obtain ⟨Y4, e4, b4, k4, f4, v4⟩ := cpy_st (r := 18) (r' := 6) (n := 8) b3 (zk18 b3) (zk6 b3) (by decide) (by decide) (by decide) (by decide) (by decide) (by decide)
  obtain ⟨Y5, e5, b5, k5, f5, v5⟩ := cpy_st (r := 19) (r' := 7) (n := 8) b4 (zk19 b4) (zk7 b4) (by decide) (by decide) (by decide) (by decide) (by decide) (by decide)
  have F5 : ∀ u, u ≠ 3 ∧ u ≠ 4 ∧ u ≠ 5 ∧ u ≠ 6 ∧ u ≠ 7 → Y5.1 u = σ.1 u := fun u x => (f5 u x.2.2.2.2).trans ((f4 u x.2.2.2.1).trans ((f3 u x.2.2.1).trans ((f2 u x.2.1).trans (f1 u x.1))))
  have x5 : Y5.1 14 5 = σ.1 14 5 := by rw [F5 14 (by decide)]
  have b6 := zB_mup (r := 2) (i := 5) (v := σ.1 14 5) b5 (by decide +kernel)
  obtain ⟨Y7, e7, b7, k7, f7, v7⟩ := cpy_st (r := 20) (r' := 8) (n := 4) b6 (zk20 b6) (zk8 b6) (by decide) (by decide) (by decide) (by decide) (by decide) (by decide)
  have K7 : Y7.2 = σ.2 := k7.trans (k5.trans (k4.trans (k3.trans (k2.trans k1))))
  have F7 : ∀ u, ¬ (2 ≤ u ∧ u ≤ 8) → Y7.1 u = σ.1 u := fun u x => by
    rw [f7 u (by omega)]
    show mup Y5.1 2 5 (σ.1 14 5) u = _
    rw [mup_fun (by omega)]
    exact F5 u (by omega)
  have key : wpo (M_Road_copyFrom 2 14 σ) (fun q => q.1 = 0 ∧ zB q.2 ∧ q.2.2 = σ.2 ∧ (∀ u, ¬ (2 ≤ u ∧ u ≤ 12) → q.2.1 u = σ.1 u) ∧
    (∀ i, 0 ≤ i → i < 64 → q.2.1 3 i = σ.1 15 i ∧ q.2.1 4 i = σ.1 16 i ∧ q.2.1 5 i = σ.1 17 i) ∧ (∀ i, 0 ≤ i → i < 8 → q.2.1 6 i = σ.1 18 i ∧ q.2.1 7 i = σ.1 19 i) ∧ (∀ i, 0 ≤ i → i < 4 → q.2.1 8 i = σ.1 20 i) ∧ (∀ i, 0 ≤ i → i < 6 → q.2.1 9 i = σ.1 21 i) ∧ (∀ i, 0 ≤ i → i < 12 → q.2.1 10 i = σ.1 22 i ∧ q.2.1 11 i = σ.1 23 i ∧ q.2.1 12 i = σ.1 24 i) ∧ (q.2.1 2 5 = σ.1 14 5 ∧ q.2.1 2 8 = σ.1 14 8 ∧ q.2.1 2 9 = σ.1 14 9 ∧ q.2.1 2 13 = σ.1 14 13)) := by
    generalize hQ : (fun q : Int × mS => q.1 = 0 ∧ zB q.2 ∧ q.2.2 = σ.2 ∧ (∀ u, ¬ (2 ≤ u ∧ u ≤ 12) → q.2.1 u = σ.1 u) ∧
    (∀ i, 0 ≤ i → i < 64 → q.2.1 3 i = σ.1 15 i ∧ q.2.1 4 i = σ.1 16 i ∧ q.2.1 5 i = σ.1 17 i) ∧ (∀ i, 0 ≤ i → i < 8 → q.2.1 6 i = σ.1 18 i ∧ q.2.1 7 i = σ.1 19 i) ∧ (∀ i, 0 ≤ i → i < 4 → q.2.1 8 i = σ.1 20 i) ∧ (∀ i, 0 ≤ i → i < 6 → q.2.1 9 i = σ.1 21 i) ∧ (∀ i, 0 ≤ i → i < 12 → q.2.1 10 i = σ.1 22 i ∧ q.2.1 11 i = σ.1 23 i ∧ q.2.1 12 i = σ.1 24 i) ∧ (q.2.1 2 5 = σ.1 14 5 ∧ q.2.1 2 8 = σ.1 14 8 ∧ q.2.1 2 9 = σ.1 14 9 ∧ q.2.1 2 13 = σ.1 14 13)) = Q
    unfold M_Road_copyFrom
    simp (maxSteps := 5000000) (disch := first | assumption | omega) only [wpo_bind, wpo_some, wpo_gf, wpo_gk, wpo_ld, wpo_pf, wpo_pz, wpo_sd, wpo_sr, wpo_ln, wpo_idv, wpo_irm, wpo_lrm, wpo_ldv, mlet, mnar_int, mup_same, mup_cell, mup_slot, ite_true, ite_false, true_and, and_true, eq_self, or_true, true_or, and_self, Int.reduceLT, Int.reduceLE, Int.reduceEq, Int.reduceNe, Int.reduceAdd, Int.reduceSub, Int.reduceMul, Int.reduceNeg, ne_eq, not_false_eq_true, not_true_eq_false, false_or, or_false, zor_inl, zor_inr, Bool.false_eq_true, false_and, and_false, zk1, zk2, zk3, zk4, zk5, zk6, zk7, zk8, zk9, zk10, zk11, zk12, zk13, zk14, zk15, zk16, zk17, zk18, zk19, zk20, zk21, zk22, zk23, zk24, zk25, zk26, zk27, zk28, zk29, zk30, zk31, zk32, zk33, zk34, zk35, zk36, zk37, zk38, zk39, zk40, zk41, zk42, zk43, zk44, zk45, zk46, zk47, zk48, zk49, zk50, zk51, zk52, zk53, zk54, zk55, zk56, zk57, zk58, zk59, zk60, zk61, zk62, zk63, zk64, zk65, zk66, zk67, zk68, zk69, zk70, zk71, zk72, zk73, zk74, zk75, zk76, zk77, zk78, zk79, zk80, zk81, zk82, zk83, zk84, zk85, zk86, zk87, zk88, zk89, zk90, zr2_0, zr2_1, zr2_2, zr2_3, zr2_4, zr2_6, zr2_7, zr2_10, zr2_11, zr2_12, zr1_0, zr1_1, zr14_0, zr14_1, zr14_2, zr14_3, zr14_4, zr14_6, zr14_7, zr14_10, zr14_11, zr14_12, zr13_0, zr25_0, zr25_1, zr25_2, zr25_3, zr25_4, zr25_6, zr25_7, zr25_10, zr25_11, zr25_12, zr13_1, zr1_2, zr37_0, zr1_3, zr39_0, zr39_1, zr39_2, zr39_5, zr39_7, zr39_8, zr1_4, zr46_1, zr46_2, zr46_3, zr46_4, zr46_0, zr1_5, zr51_2, zr51_10, zr51_0, zr51_1, zr54_1, zr54_2, zr54_3, zr1_6, zr58_1, zr58_2, zr58_3, zr58_0, zr1_7, zr62_2, zr62_3, zr62_0, zr62_1, zr1_8, zr1_9, zr1_10, zr1_15, zr68_2, zr68_3, zr68_4, zr68_5, zr68_7, zr68_8, zr68_9, zr68_12, zr68_13, zr68_14, zr68_22, zr68_23, zr68_24, zr68_26, zr68_35, zr68_36, zr68_37, zr68_38, zr68_39, zr68_40, zr68_41, zr68_42, e1, e2, e3, e4, e5, x5, e7]
    refine d_laws_2_14 b7 (fun t t0 t1 => by rw [F7 21 (by decide), K7]; exact hv t t0 t1) (fun L l1 l2 l3 l4 => ?_)
    have x8 : L.1 14 8 = σ.1 14 8 := by rw [l3 14 (by decide), F7 14 (by decide)]
    have x9 : L.1 14 9 = σ.1 14 9 := by rw [l3 14 (by decide), F7 14 (by decide)]
    have x13 : L.1 14 13 = σ.1 14 13 := by rw [l3 14 (by decide), F7 14 (by decide)]
    have c1 := zB_mup (r := 2) (i := 8) (v := σ.1 14 8) l1 (by decide +kernel)
    have c2 := zB_mup (r := 2) (i := 9) (v := σ.1 14 9) c1 (by decide +kernel)
    obtain ⟨Z1, e8, b8, k8, f8, v8⟩ := cpy_st (r := 22) (r' := 10) (n := 12) c2 (zk22 c2) (zk10 c2) (by decide) (by decide) (by decide) (by decide) (by decide) (by decide)
    obtain ⟨Z2, e9, b9, k9, f9, v9⟩ := cpy_st (r := 23) (r' := 11) (n := 12) b8 (zk23 b8) (zk11 b8) (by decide) (by decide) (by decide) (by decide) (by decide) (by decide)
    obtain ⟨Z3, e10, b10, k10, f10, v10⟩ := cpy_st (r := 24) (r' := 12) (n := 12) b9 (zk24 b9) (zk12 b9) (by decide) (by decide) (by decide) (by decide) (by decide) (by decide)
    have FZ : ∀ u, u ≠ 10 ∧ u ≠ 11 ∧ u ≠ 12 → Z3.1 u = mup (mup L.1 2 8 (σ.1 14 8)) 2 9 (σ.1 14 9) u := fun u x => (f10 u x.2.2).trans ((f9 u x.2.1).trans (f8 u x.1))
    have z13 : Z3.1 14 13 = σ.1 14 13 := by rw [FZ 14 (by decide), mup_cell (by decide), mup_cell (by decide)]; exact x13
    have FL : ∀ u, u ≠ 2 → mup (mup L.1 2 8 (σ.1 14 8)) 2 9 (σ.1 14 9) u = L.1 u := fun u x => by rw [mup_fun x, mup_fun x]
    have e : B_Road_copyFrom_54 2 14 6 L = some (Sum.inr (0, (mup Z3.1 2 13 (σ.1 14 13), Z3.2))) := wpo_is (by
      unfold B_Road_copyFrom_54
      simp (maxSteps := 5000000) (disch := first | assumption | omega) only [wpo_bind, wpo_some, wpo_gf, wpo_gk, wpo_ld, wpo_pf, wpo_pz, wpo_sd, wpo_sr, wpo_ln, wpo_idv, wpo_irm, wpo_lrm, wpo_ldv, mlet, mnar_int, mup_same, mup_cell, mup_slot, ite_true, ite_false, true_and, and_true, eq_self, or_true, true_or, and_self, Int.reduceLT, Int.reduceLE, Int.reduceEq, Int.reduceNe, Int.reduceAdd, Int.reduceSub, Int.reduceMul, Int.reduceNeg, ne_eq, not_false_eq_true, not_true_eq_false, false_or, or_false, zor_inl, zor_inr, Bool.false_eq_true, false_and, and_false, zk1, zk2, zk3, zk4, zk5, zk6, zk7, zk8, zk9, zk10, zk11, zk12, zk13, zk14, zk15, zk16, zk17, zk18, zk19, zk20, zk21, zk22, zk23, zk24, zk25, zk26, zk27, zk28, zk29, zk30, zk31, zk32, zk33, zk34, zk35, zk36, zk37, zk38, zk39, zk40, zk41, zk42, zk43, zk44, zk45, zk46, zk47, zk48, zk49, zk50, zk51, zk52, zk53, zk54, zk55, zk56, zk57, zk58, zk59, zk60, zk61, zk62, zk63, zk64, zk65, zk66, zk67, zk68, zk69, zk70, zk71, zk72, zk73, zk74, zk75, zk76, zk77, zk78, zk79, zk80, zk81, zk82, zk83, zk84, zk85, zk86, zk87, zk88, zk89, zk90, zr2_0, zr2_1, zr2_2, zr2_3, zr2_4, zr2_6, zr2_7, zr2_10, zr2_11, zr2_12, zr1_0, zr1_1, zr14_0, zr14_1, zr14_2, zr14_3, zr14_4, zr14_6, zr14_7, zr14_10, zr14_11, zr14_12, zr13_0, zr25_0, zr25_1, zr25_2, zr25_3, zr25_4, zr25_6, zr25_7, zr25_10, zr25_11, zr25_12, zr13_1, zr1_2, zr37_0, zr1_3, zr39_0, zr39_1, zr39_2, zr39_5, zr39_7, zr39_8, zr1_4, zr46_1, zr46_2, zr46_3, zr46_4, zr46_0, zr1_5, zr51_2, zr51_10, zr51_0, zr51_1, zr54_1, zr54_2, zr54_3, zr1_6, zr58_1, zr58_2, zr58_3, zr58_0, zr1_7, zr62_2, zr62_3, zr62_0, zr62_1, zr1_8, zr1_9, zr1_10, zr1_15, zr68_2, zr68_3, zr68_4, zr68_5, zr68_7, zr68_8, zr68_9, zr68_12, zr68_13, zr68_14, zr68_22, zr68_23, zr68_24, zr68_26, zr68_35, zr68_36, zr68_37, zr68_38, zr68_39, zr68_40, zr68_41, zr68_42, x8, x9, e8, e9, e10, z13])
    have FW : ∀ u, u ≠ 2 → mup Z3.1 2 13 (σ.1 14 13) u = Z3.1 u := fun u x => mup_fun x
    refine ⟨_, e, ?_⟩
    rw [← hQ]
    have l7 : ∀ u, u ≠ 2 ∧ u ≠ 9 ∧ u ≠ 10 ∧ u ≠ 11 ∧ u ≠ 12 → mup Z3.1 2 13 (σ.1 14 13) u = Y7.1 u := fun u x => by rw [FW u x.1, FZ u ⟨x.2.2.1, x.2.2.2.1, x.2.2.2.2⟩, FL u x.1]; exact l3 u x.2.1
    have y5 : ∀ u, u ≠ 2 ∧ u ≠ 8 → Y7.1 u = Y5.1 u := fun u x => by rw [f7 u x.2]; exact mup_fun x.1
    refine ⟨rfl, zB_mup b10 (by decide +kernel), k10.trans (k9.trans (k8.trans (l2.trans K7))), fun u x => ?_, fun i i0 i1 => ⟨?_, ?_, ?_⟩, fun i i0 i1 => ⟨?_, ?_⟩, fun i i0 i1 => ?_, fun i i0 i1 => ?_, fun i i0 i1 => ⟨?_, ?_, ?_⟩, ?_, ?_, ?_, ?_⟩
    · show mup Z3.1 2 13 (σ.1 14 13) u = _
      rw [l7 u (by omega)]; exact F7 u (by omega)
    · show mup Z3.1 2 13 (σ.1 14 13) 3 i = _
      rw [l7 3 (by decide), y5 3 (by decide), f5 3 (by decide), f4 3 (by decide), f3 3 (by decide), f2 3 (by decide)]; exact v1 i i0 i1
    · show mup Z3.1 2 13 (σ.1 14 13) 4 i = _
      rw [l7 4 (by decide), y5 4 (by decide), f5 4 (by decide), f4 4 (by decide), f3 4 (by decide), v2 i i0 i1, f1 16 (by decide)]
    · show mup Z3.1 2 13 (σ.1 14 13) 5 i = _
      rw [l7 5 (by decide), y5 5 (by decide), f5 5 (by decide), f4 5 (by decide), v3 i i0 i1, f2 17 (by decide), f1 17 (by decide)]
    · show mup Z3.1 2 13 (σ.1 14 13) 6 i = _
      rw [l7 6 (by decide), y5 6 (by decide), f5 6 (by decide), v4 i i0 i1, f3 18 (by decide), f2 18 (by decide), f1 18 (by decide)]
    · show mup Z3.1 2 13 (σ.1 14 13) 7 i = _
      rw [l7 7 (by decide), y5 7 (by decide), v5 i i0 i1, f4 19 (by decide), f3 19 (by decide), f2 19 (by decide), f1 19 (by decide)]
    · show mup Z3.1 2 13 (σ.1 14 13) 8 i = _
      rw [l7 8 (by decide), v7 i i0 i1]
      show mup Y5.1 2 5 (σ.1 14 5) 20 i = _
      rw [mup_cell (by decide), F5 20 (by decide)]
    · show mup Z3.1 2 13 (σ.1 14 13) 9 i = _
      rw [FW 9 (by decide), FZ 9 (by decide), FL 9 (by decide), l4 i i0 i1, F7 21 (by decide)]
    · show mup Z3.1 2 13 (σ.1 14 13) 10 i = _
      rw [FW 10 (by decide), f10 10 (by decide), f9 10 (by decide), v8 i i0 i1]
      show mup (mup L.1 2 8 (σ.1 14 8)) 2 9 (σ.1 14 9) 22 i = _
      rw [FL 22 (by decide), l3 22 (by decide), F7 22 (by decide)]
    · show mup Z3.1 2 13 (σ.1 14 13) 11 i = _
      rw [FW 11 (by decide), f10 11 (by decide), v9 i i0 i1, f8 23 (by decide)]
      show mup (mup L.1 2 8 (σ.1 14 8)) 2 9 (σ.1 14 9) 23 i = _
      rw [FL 23 (by decide), l3 23 (by decide), F7 23 (by decide)]
    · show mup Z3.1 2 13 (σ.1 14 13) 12 i = _
      rw [FW 12 (by decide), v10 i i0 i1, f9 24 (by decide), f8 24 (by decide)]
      show mup (mup L.1 2 8 (σ.1 14 8)) 2 9 (σ.1 14 9) 24 i = _
      rw [FL 24 (by decide), l3 24 (by decide), F7 24 (by decide)]
    · show mup Z3.1 2 13 (σ.1 14 13) 2 5 = _
      rw [mup_slot (by decide), FZ 2 (by decide), mup_slot (by decide), mup_slot (by decide), l3 2 (by decide), f7 2 (by decide)]
      show mup Y5.1 2 5 (σ.1 14 5) 2 5 = _
      rw [mup_same]
    · show mup Z3.1 2 13 (σ.1 14 13) 2 8 = _
      rw [mup_slot (by decide), FZ 2 (by decide), mup_slot (by decide), mup_same]
    · show mup Z3.1 2 13 (σ.1 14 13) 2 9 = _
      rw [mup_slot (by decide), FZ 2 (by decide), mup_same]
    · show mup Z3.1 2 13 (σ.1 14 13) 2 13 = _
      rw [mup_same]
  obtain ⟨⟨v, Y⟩, e, ev, rest⟩ := key
  simp only at ev rest
  subst ev
  exact ⟨Y, e, rest⟩
set_option maxHeartbeats 4000000 in
theorem d_laws_2_25 {σ : mS} (hB : zB σ) (hv : ∀ t, 0 ≤ t → t < 6 → σ.1 32 t = 0 ∨ 0 < σ.1 32 t ∧ (σ.2.1 (σ.1 32 t)).1 = 4) {Q : Int × mS → Prop} (he : ∀ Y : mS, zB Y → Y.2 = σ.2 → (∀ u, u ≠ 9 → Y.1 u = σ.1 u) → (∀ i, 0 ≤ i → i < 6 → Y.1 9 i = σ.1 32 i) → ∃ r, B_Road_copyFrom_54 2 25 6 Y = some (Sum.inr r) ∧ Q r) : wpo (M_Road_copyFrom_54 2 25 0 σ) Q := by
  unfold M_Road_copyFrom_54
  refine loopN (fun m y => y.1 = (m : Int) ∧ zB y.2 ∧ y.2.2 = σ.2 ∧ (∀ u, u ≠ 9 → y.2.1 u = σ.1 u) ∧ ∀ i, 0 ≤ i → i < (m : Int) → y.2.1 9 i = σ.1 32 i) 6 _ _ (by decide) ⟨rfl, hB, rfl, fun u _ => rfl, fun i a b => by omega⟩ ?_ ?_
  · intro m y hm ⟨y1, y2, y3, y4, y5⟩
    obtain ⟨l2, x⟩ := y
    simp only at y1 y2 y3 y4 y5
    have p0 : 0 ≤ l2 := by omega
    have p1 : l2 < 6 := by omega
    have vs : x.1 32 l2 = σ.1 32 l2 := by rw [y4 32 (by decide)]
    have ok := hv l2 p0 p1
    have ok2 : σ.1 32 l2 = 0 ∨ 0 < σ.1 32 l2 ∧ (x.2.1 (σ.1 32 l2)).1 = 4 := by rw [y3]; exact ok
    have w1 : ∀ u : Int, u = l2 → w32 (u + 1) = l2 + 1 := fun u hu => by rw [w32_in (by omega) (by omega)]; omega
    have e : B_Road_copyFrom_54 2 25 l2 x = some (Sum.inl (l2 + 1, (mup x.1 9 l2 (σ.1 32 l2), x.2))) := wpo_is (by
      unfold B_Road_copyFrom_54
      simp (maxSteps := 5000000) (disch := first | assumption | omega) only [wpo_bind, wpo_some, wpo_gf, wpo_gk, wpo_ld, wpo_pf, wpo_pz, wpo_sd, wpo_sr, wpo_ln, wpo_idv, wpo_irm, wpo_lrm, wpo_ldv, mlet, mnar_int, mup_same, mup_cell, mup_slot, ite_true, ite_false, true_and, and_true, eq_self, or_true, true_or, and_self, Int.reduceLT, Int.reduceLE, Int.reduceEq, Int.reduceNe, Int.reduceAdd, Int.reduceSub, Int.reduceMul, Int.reduceNeg, ne_eq, not_false_eq_true, not_true_eq_false, false_or, or_false, zor_inl, zor_inr, Bool.false_eq_true, false_and, and_false, zk1, zk2, zk3, zk4, zk5, zk6, zk7, zk8, zk9, zk10, zk11, zk12, zk13, zk14, zk15, zk16, zk17, zk18, zk19, zk20, zk21, zk22, zk23, zk24, zk25, zk26, zk27, zk28, zk29, zk30, zk31, zk32, zk33, zk34, zk35, zk36, zk37, zk38, zk39, zk40, zk41, zk42, zk43, zk44, zk45, zk46, zk47, zk48, zk49, zk50, zk51, zk52, zk53, zk54, zk55, zk56, zk57, zk58, zk59, zk60, zk61, zk62, zk63, zk64, zk65, zk66, zk67, zk68, zk69, zk70, zk71, zk72, zk73, zk74, zk75, zk76, zk77, zk78, zk79, zk80, zk81, zk82, zk83, zk84, zk85, zk86, zk87, zk88, zk89, zk90, zr2_0, zr2_1, zr2_2, zr2_3, zr2_4, zr2_6, zr2_7, zr2_10, zr2_11, zr2_12, zr1_0, zr1_1, zr14_0, zr14_1, zr14_2, zr14_3, zr14_4, zr14_6, zr14_7, zr14_10, zr14_11, zr14_12, zr13_0, zr25_0, zr25_1, zr25_2, zr25_3, zr25_4, zr25_6, zr25_7, zr25_10, zr25_11, zr25_12, zr13_1, zr1_2, zr37_0, zr1_3, zr39_0, zr39_1, zr39_2, zr39_5, zr39_7, zr39_8, zr1_4, zr46_1, zr46_2, zr46_3, zr46_4, zr46_0, zr1_5, zr51_2, zr51_10, zr51_0, zr51_1, zr54_1, zr54_2, zr54_3, zr1_6, zr58_1, zr58_2, zr58_3, zr58_0, zr1_7, zr62_2, zr62_3, zr62_0, zr62_1, zr1_8, zr1_9, zr1_10, zr1_15, zr68_2, zr68_3, zr68_4, zr68_5, zr68_7, zr68_8, zr68_9, zr68_12, zr68_13, zr68_14, zr68_22, zr68_23, zr68_24, zr68_26, zr68_35, zr68_36, zr68_37, zr68_38, zr68_39, zr68_40, zr68_41, zr68_42, p0, p1, vs, ok2, w1])
    refine ⟨_, e, ?_, zB_mup y2 (zokr_arr (by decide +kernel)), y3, fun u hu => ?_, fun i i0 i1 => ?_⟩
    · show l2 + 1 = ((m + 1 : Nat) : Int)
      omega
    · show mup x.1 9 l2 (σ.1 32 l2) u = _
      rw [mup_fun hu]; exact y4 u hu
    · show mup x.1 9 l2 (σ.1 32 l2) 9 i = _
      rw [mup_if]
      by_cases ci : i = l2
      · rw [if_pos ci, ci]
      · rw [if_neg ci]; exact y5 i i0 (by omega)
  · intro y ⟨y1, y2, y3, y4, y5⟩
    obtain ⟨l2, x⟩ := y
    simp only at y1 y2 y3 y4 y5
    subst y1
    exact he x y2 y3 y4 y5
set_option maxHeartbeats 8000000 in
theorem d_copy_2_25 {σ : mS} (hB : zB σ) (hv : ∀ t, 0 ≤ t → t < 6 → σ.1 32 t = 0 ∨ 0 < σ.1 32 t ∧ (σ.2.1 (σ.1 32 t)).1 = 4) : ∃ Y : mS, M_Road_copyFrom 2 25 σ = some (0, Y) ∧ zB Y ∧ Y.2 = σ.2 ∧ (∀ u, ¬ (2 ≤ u ∧ u ≤ 12) → Y.1 u = σ.1 u) ∧
    (∀ i, 0 ≤ i → i < 64 → Y.1 3 i = σ.1 26 i ∧ Y.1 4 i = σ.1 27 i ∧ Y.1 5 i = σ.1 28 i) ∧ (∀ i, 0 ≤ i → i < 8 → Y.1 6 i = σ.1 29 i ∧ Y.1 7 i = σ.1 30 i) ∧ (∀ i, 0 ≤ i → i < 4 → Y.1 8 i = σ.1 31 i) ∧ (∀ i, 0 ≤ i → i < 6 → Y.1 9 i = σ.1 32 i) ∧ (∀ i, 0 ≤ i → i < 12 → Y.1 10 i = σ.1 33 i ∧ Y.1 11 i = σ.1 34 i ∧ Y.1 12 i = σ.1 35 i) ∧ (Y.1 2 5 = σ.1 25 5 ∧ Y.1 2 8 = σ.1 25 8 ∧ Y.1 2 9 = σ.1 25 9 ∧ Y.1 2 13 = σ.1 25 13) := by
  obtain ⟨Y1, e1, b1, k1, f1, v1⟩ := cpy_st (r := 26) (r' := 3) (n := 64) hB (zk26 hB) (zk3 hB) (by decide) (by decide) (by decide) (by decide) (by decide) (by decide)
  obtain ⟨Y2, e2, b2, k2, f2, v2⟩ := cpy_st (r := 27) (r' := 4) (n := 64) b1 (zk27 b1) (zk4 b1) (by decide) (by decide) (by decide) (by decide) (by decide) (by decide)
  obtain ⟨Y3, e3, b3, k3, f3, v3⟩ := cpy_st (r := 28) (r' := 5) (n := 64) b2 (zk28 b2) (zk5 b2) (by decide) (by decide) (by decide) (by decide) (by decide) (by decide)
  obtain ⟨Y4, e4, b4, k4, f4, v4⟩ := cpy_st (r := 29) (r' := 6) (n := 8) b3 (zk29 b3) (zk6 b3) (by decide) (by decide) (by decide) (by decide) (by decide) (by decide)
  obtain ⟨Y5, e5, b5, k5, f5, v5⟩ := cpy_st (r := 30) (r' := 7) (n := 8) b4 (zk30 b4) (zk7 b4) (by decide) (by decide) (by decide) (by decide) (by decide) (by decide)
  have F5 : ∀ u, u ≠ 3 ∧ u ≠ 4 ∧ u ≠ 5 ∧ u ≠ 6 ∧ u ≠ 7 → Y5.1 u = σ.1 u := fun u x => (f5 u x.2.2.2.2).trans ((f4 u x.2.2.2.1).trans ((f3 u x.2.2.1).trans ((f2 u x.2.1).trans (f1 u x.1))))
  have x5 : Y5.1 25 5 = σ.1 25 5 := by rw [F5 25 (by decide)]
  have b6 := zB_mup (r := 2) (i := 5) (v := σ.1 25 5) b5 (by decide +kernel)
  obtain ⟨Y7, e7, b7, k7, f7, v7⟩ := cpy_st (r := 31) (r' := 8) (n := 4) b6 (zk31 b6) (zk8 b6) (by decide) (by decide) (by decide) (by decide) (by decide) (by decide)
  have K7 : Y7.2 = σ.2 := k7.trans (k5.trans (k4.trans (k3.trans (k2.trans k1))))
  have F7 : ∀ u, ¬ (2 ≤ u ∧ u ≤ 8) → Y7.1 u = σ.1 u := fun u x => by
    rw [f7 u (by omega)]
    show mup Y5.1 2 5 (σ.1 25 5) u = _
    rw [mup_fun (by omega)]
    exact F5 u (by omega)
  have key : wpo (M_Road_copyFrom 2 25 σ) (fun q => q.1 = 0 ∧ zB q.2 ∧ q.2.2 = σ.2 ∧ (∀ u, ¬ (2 ≤ u ∧ u ≤ 12) → q.2.1 u = σ.1 u) ∧
    (∀ i, 0 ≤ i → i < 64 → q.2.1 3 i = σ.1 26 i ∧ q.2.1 4 i = σ.1 27 i ∧ q.2.1 5 i = σ.1 28 i) ∧ (∀ i, 0 ≤ i → i < 8 → q.2.1 6 i = σ.1 29 i ∧ q.2.1 7 i = σ.1 30 i) ∧ (∀ i, 0 ≤ i → i < 4 → q.2.1 8 i = σ.1 31 i) ∧ (∀ i, 0 ≤ i → i < 6 → q.2.1 9 i = σ.1 32 i) ∧ (∀ i, 0 ≤ i → i < 12 → q.2.1 10 i = σ.1 33 i ∧ q.2.1 11 i = σ.1 34 i ∧ q.2.1 12 i = σ.1 35 i) ∧ (q.2.1 2 5 = σ.1 25 5 ∧ q.2.1 2 8 = σ.1 25 8 ∧ q.2.1 2 9 = σ.1 25 9 ∧ q.2.1 2 13 = σ.1 25 13)) := by
    generalize hQ : (fun q : Int × mS => q.1 = 0 ∧ zB q.2 ∧ q.2.2 = σ.2 ∧ (∀ u, ¬ (2 ≤ u ∧ u ≤ 12) → q.2.1 u = σ.1 u) ∧
    (∀ i, 0 ≤ i → i < 64 → q.2.1 3 i = σ.1 26 i ∧ q.2.1 4 i = σ.1 27 i ∧ q.2.1 5 i = σ.1 28 i) ∧ (∀ i, 0 ≤ i → i < 8 → q.2.1 6 i = σ.1 29 i ∧ q.2.1 7 i = σ.1 30 i) ∧ (∀ i, 0 ≤ i → i < 4 → q.2.1 8 i = σ.1 31 i) ∧ (∀ i, 0 ≤ i → i < 6 → q.2.1 9 i = σ.1 32 i) ∧ (∀ i, 0 ≤ i → i < 12 → q.2.1 10 i = σ.1 33 i ∧ q.2.1 11 i = σ.1 34 i ∧ q.2.1 12 i = σ.1 35 i) ∧ (q.2.1 2 5 = σ.1 25 5 ∧ q.2.1 2 8 = σ.1 25 8 ∧ q.2.1 2 9 = σ.1 25 9 ∧ q.2.1 2 13 = σ.1 25 13)) = Q
    unfold M_Road_copyFrom
    simp (maxSteps := 5000000) (disch := first | assumption | omega) only [wpo_bind, wpo_some, wpo_gf, wpo_gk, wpo_ld, wpo_pf, wpo_pz, wpo_sd, wpo_sr, wpo_ln, wpo_idv, wpo_irm, wpo_lrm, wpo_ldv, mlet, mnar_int, mup_same, mup_cell, mup_slot, ite_true, ite_false, true_and, and_true, eq_self, or_true, true_or, and_self, Int.reduceLT, Int.reduceLE, Int.reduceEq, Int.reduceNe, Int.reduceAdd, Int.reduceSub, Int.reduceMul, Int.reduceNeg, ne_eq, not_false_eq_true, not_true_eq_false, false_or, or_false, zor_inl, zor_inr, Bool.false_eq_true, false_and, and_false, zk1, zk2, zk3, zk4, zk5, zk6, zk7, zk8, zk9, zk10, zk11, zk12, zk13, zk14, zk15, zk16, zk17, zk18, zk19, zk20, zk21, zk22, zk23, zk24, zk25, zk26, zk27, zk28, zk29, zk30, zk31, zk32, zk33, zk34, zk35, zk36, zk37, zk38, zk39, zk40, zk41, zk42, zk43, zk44, zk45, zk46, zk47, zk48, zk49, zk50, zk51, zk52, zk53, zk54, zk55, zk56, zk57, zk58, zk59, zk60, zk61, zk62, zk63, zk64, zk65, zk66, zk67, zk68, zk69, zk70, zk71, zk72, zk73, zk74, zk75, zk76, zk77, zk78, zk79, zk80, zk81, zk82, zk83, zk84, zk85, zk86, zk87, zk88, zk89, zk90, zr2_0, zr2_1, zr2_2, zr2_3, zr2_4, zr2_6, zr2_7, zr2_10, zr2_11, zr2_12, zr1_0, zr1_1, zr14_0, zr14_1, zr14_2, zr14_3, zr14_4, zr14_6, zr14_7, zr14_10, zr14_11, zr14_12, zr13_0, zr25_0, zr25_1, zr25_2, zr25_3, zr25_4, zr25_6, zr25_7, zr25_10, zr25_11, zr25_12, zr13_1, zr1_2, zr37_0, zr1_3, zr39_0, zr39_1, zr39_2, zr39_5, zr39_7, zr39_8, zr1_4, zr46_1, zr46_2, zr46_3, zr46_4, zr46_0, zr1_5, zr51_2, zr51_10, zr51_0, zr51_1, zr54_1, zr54_2, zr54_3, zr1_6, zr58_1, zr58_2, zr58_3, zr58_0, zr1_7, zr62_2, zr62_3, zr62_0, zr62_1, zr1_8, zr1_9, zr1_10, zr1_15, zr68_2, zr68_3, zr68_4, zr68_5, zr68_7, zr68_8, zr68_9, zr68_12, zr68_13, zr68_14, zr68_22, zr68_23, zr68_24, zr68_26, zr68_35, zr68_36, zr68_37, zr68_38, zr68_39, zr68_40, zr68_41, zr68_42, e1, e2, e3, e4, e5, x5, e7]
    refine d_laws_2_25 b7 (fun t t0 t1 => by rw [F7 32 (by decide), K7]; exact hv t t0 t1) (fun L l1 l2 l3 l4 => ?_)
    have x8 : L.1 25 8 = σ.1 25 8 := by rw [l3 25 (by decide), F7 25 (by decide)]
    have x9 : L.1 25 9 = σ.1 25 9 := by rw [l3 25 (by decide), F7 25 (by decide)]
    have x13 : L.1 25 13 = σ.1 25 13 := by rw [l3 25 (by decide), F7 25 (by decide)]
    have c1 := zB_mup (r := 2) (i := 8) (v := σ.1 25 8) l1 (by decide +kernel)
    have c2 := zB_mup (r := 2) (i := 9) (v := σ.1 25 9) c1 (by decide +kernel)
    obtain ⟨Z1, e8, b8, k8, f8, v8⟩ := cpy_st (r := 33) (r' := 10) (n := 12) c2 (zk33 c2) (zk10 c2) (by decide) (by decide) (by decide) (by decide) (by decide) (by decide)
    obtain ⟨Z2, e9, b9, k9, f9, v9⟩ := cpy_st (r := 34) (r' := 11) (n := 12) b8 (zk34 b8) (zk11 b8) (by decide) (by decide) (by decide) (by decide) (by decide) (by decide)
    obtain ⟨Z3, e10, b10, k10, f10, v10⟩ := cpy_st (r := 35) (r' := 12) (n := 12) b9 (zk35 b9) (zk12 b9) (by decide) (by decide) (by decide) (by decide) (by decide) (by decide)
    have FZ : ∀ u, u ≠ 10 ∧ u ≠ 11 ∧ u ≠ 12 → Z3.1 u = mup (mup L.1 2 8 (σ.1 25 8)) 2 9 (σ.1 25 9) u := fun u x => (f10 u x.2.2).trans ((f9 u x.2.1).trans (f8 u x.1))
    have z13 : Z3.1 25 13 = σ.1 25 13 := by rw [FZ 25 (by decide), mup_cell (by decide), mup_cell (by decide)]; exact x13
    have FL : ∀ u, u ≠ 2 → mup (mup L.1 2 8 (σ.1 25 8)) 2 9 (σ.1 25 9) u = L.1 u := fun u x => by rw [mup_fun x, mup_fun x]
    have e : B_Road_copyFrom_54 2 25 6 L = some (Sum.inr (0, (mup Z3.1 2 13 (σ.1 25 13), Z3.2))) := wpo_is (by
      unfold B_Road_copyFrom_54
      simp (maxSteps := 5000000) (disch := first | assumption | omega) only [wpo_bind, wpo_some, wpo_gf, wpo_gk, wpo_ld, wpo_pf, wpo_pz, wpo_sd, wpo_sr, wpo_ln, wpo_idv, wpo_irm, wpo_lrm, wpo_ldv, mlet, mnar_int, mup_same, mup_cell, mup_slot, ite_true, ite_false, true_and, and_true, eq_self, or_true, true_or, and_self, Int.reduceLT, Int.reduceLE, Int.reduceEq, Int.reduceNe, Int.reduceAdd, Int.reduceSub, Int.reduceMul, Int.reduceNeg, ne_eq, not_false_eq_true, not_true_eq_false, false_or, or_false, zor_inl, zor_inr, Bool.false_eq_true, false_and, and_false, zk1, zk2, zk3, zk4, zk5, zk6, zk7, zk8, zk9, zk10, zk11, zk12, zk13, zk14, zk15, zk16, zk17, zk18, zk19, zk20, zk21, zk22, zk23, zk24, zk25, zk26, zk27, zk28, zk29, zk30, zk31, zk32, zk33, zk34, zk35, zk36, zk37, zk38, zk39, zk40, zk41, zk42, zk43, zk44, zk45, zk46, zk47, zk48, zk49, zk50, zk51, zk52, zk53, zk54, zk55, zk56, zk57, zk58, zk59, zk60, zk61, zk62, zk63, zk64, zk65, zk66, zk67, zk68, zk69, zk70, zk71, zk72, zk73, zk74, zk75, zk76, zk77, zk78, zk79, zk80, zk81, zk82, zk83, zk84, zk85, zk86, zk87, zk88, zk89, zk90, zr2_0, zr2_1, zr2_2, zr2_3, zr2_4, zr2_6, zr2_7, zr2_10, zr2_11, zr2_12, zr1_0, zr1_1, zr14_0, zr14_1, zr14_2, zr14_3, zr14_4, zr14_6, zr14_7, zr14_10, zr14_11, zr14_12, zr13_0, zr25_0, zr25_1, zr25_2, zr25_3, zr25_4, zr25_6, zr25_7, zr25_10, zr25_11, zr25_12, zr13_1, zr1_2, zr37_0, zr1_3, zr39_0, zr39_1, zr39_2, zr39_5, zr39_7, zr39_8, zr1_4, zr46_1, zr46_2, zr46_3, zr46_4, zr46_0, zr1_5, zr51_2, zr51_10, zr51_0, zr51_1, zr54_1, zr54_2, zr54_3, zr1_6, zr58_1, zr58_2, zr58_3, zr58_0, zr1_7, zr62_2, zr62_3, zr62_0, zr62_1, zr1_8, zr1_9, zr1_10, zr1_15, zr68_2, zr68_3, zr68_4, zr68_5, zr68_7, zr68_8, zr68_9, zr68_12, zr68_13, zr68_14, zr68_22, zr68_23, zr68_24, zr68_26, zr68_35, zr68_36, zr68_37, zr68_38, zr68_39, zr68_40, zr68_41, zr68_42, x8, x9, e8, e9, e10, z13])
    have FW : ∀ u, u ≠ 2 → mup Z3.1 2 13 (σ.1 25 13) u = Z3.1 u := fun u x => mup_fun x
    refine ⟨_, e, ?_⟩
    rw [← hQ]
    have l7 : ∀ u, u ≠ 2 ∧ u ≠ 9 ∧ u ≠ 10 ∧ u ≠ 11 ∧ u ≠ 12 → mup Z3.1 2 13 (σ.1 25 13) u = Y7.1 u := fun u x => by rw [FW u x.1, FZ u ⟨x.2.2.1, x.2.2.2.1, x.2.2.2.2⟩, FL u x.1]; exact l3 u x.2.1
    have y5 : ∀ u, u ≠ 2 ∧ u ≠ 8 → Y7.1 u = Y5.1 u := fun u x => by rw [f7 u x.2]; exact mup_fun x.1
    refine ⟨rfl, zB_mup b10 (by decide +kernel), k10.trans (k9.trans (k8.trans (l2.trans K7))), fun u x => ?_, fun i i0 i1 => ⟨?_, ?_, ?_⟩, fun i i0 i1 => ⟨?_, ?_⟩, fun i i0 i1 => ?_, fun i i0 i1 => ?_, fun i i0 i1 => ⟨?_, ?_, ?_⟩, ?_, ?_, ?_, ?_⟩
    · show mup Z3.1 2 13 (σ.1 25 13) u = _
      rw [l7 u (by omega)]; exact F7 u (by omega)
    · show mup Z3.1 2 13 (σ.1 25 13) 3 i = _
      rw [l7 3 (by decide), y5 3 (by decide), f5 3 (by decide), f4 3 (by decide), f3 3 (by decide), f2 3 (by decide)]; exact v1 i i0 i1
    · show mup Z3.1 2 13 (σ.1 25 13) 4 i = _
      rw [l7 4 (by decide), y5 4 (by decide), f5 4 (by decide), f4 4 (by decide), f3 4 (by decide), v2 i i0 i1, f1 27 (by decide)]
    · show mup Z3.1 2 13 (σ.1 25 13) 5 i = _
      rw [l7 5 (by decide), y5 5 (by decide), f5 5 (by decide), f4 5 (by decide), v3 i i0 i1, f2 28 (by decide), f1 28 (by decide)]
    · show mup Z3.1 2 13 (σ.1 25 13) 6 i = _
      rw [l7 6 (by decide), y5 6 (by decide), f5 6 (by decide), v4 i i0 i1, f3 29 (by decide), f2 29 (by decide), f1 29 (by decide)]
    · show mup Z3.1 2 13 (σ.1 25 13) 7 i = _
      rw [l7 7 (by decide), y5 7 (by decide), v5 i i0 i1, f4 30 (by decide), f3 30 (by decide), f2 30 (by decide), f1 30 (by decide)]
    · show mup Z3.1 2 13 (σ.1 25 13) 8 i = _
      rw [l7 8 (by decide), v7 i i0 i1]
      show mup Y5.1 2 5 (σ.1 25 5) 31 i = _
      rw [mup_cell (by decide), F5 31 (by decide)]
    · show mup Z3.1 2 13 (σ.1 25 13) 9 i = _
      rw [FW 9 (by decide), FZ 9 (by decide), FL 9 (by decide), l4 i i0 i1, F7 32 (by decide)]
    · show mup Z3.1 2 13 (σ.1 25 13) 10 i = _
      rw [FW 10 (by decide), f10 10 (by decide), f9 10 (by decide), v8 i i0 i1]
      show mup (mup L.1 2 8 (σ.1 25 8)) 2 9 (σ.1 25 9) 33 i = _
      rw [FL 33 (by decide), l3 33 (by decide), F7 33 (by decide)]
    · show mup Z3.1 2 13 (σ.1 25 13) 11 i = _
      rw [FW 11 (by decide), f10 11 (by decide), v9 i i0 i1, f8 34 (by decide)]
      show mup (mup L.1 2 8 (σ.1 25 8)) 2 9 (σ.1 25 9) 34 i = _
      rw [FL 34 (by decide), l3 34 (by decide), F7 34 (by decide)]
    · show mup Z3.1 2 13 (σ.1 25 13) 12 i = _
      rw [FW 12 (by decide), v10 i i0 i1, f9 35 (by decide), f8 35 (by decide)]
      show mup (mup L.1 2 8 (σ.1 25 8)) 2 9 (σ.1 25 9) 35 i = _
      rw [FL 35 (by decide), l3 35 (by decide), F7 35 (by decide)]
    · show mup Z3.1 2 13 (σ.1 25 13) 2 5 = _
      rw [mup_slot (by decide), FZ 2 (by decide), mup_slot (by decide), mup_slot (by decide), l3 2 (by decide), f7 2 (by decide)]
      show mup Y5.1 2 5 (σ.1 25 5) 2 5 = _
      rw [mup_same]
    · show mup Z3.1 2 13 (σ.1 25 13) 2 8 = _
      rw [mup_slot (by decide), FZ 2 (by decide), mup_slot (by decide), mup_same]
    · show mup Z3.1 2 13 (σ.1 25 13) 2 9 = _
      rw [mup_slot (by decide), FZ 2 (by decide), mup_same]
    · show mup Z3.1 2 13 (σ.1 25 13) 2 13 = _
      rw [mup_same]
  obtain ⟨⟨v, Y⟩, e, ev, rest⟩ := key
  simp only at ev rest
  subst ev
  exact ⟨Y, e, rest⟩
