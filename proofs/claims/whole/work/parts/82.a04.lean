/-! SIGHT -/
def zSgq (A : Int → Int) (a t i : Int) : Int → Int := zset (zset (zset (zset A (144 + 3 * A 185) a) (145 + 3 * A 185) t) (146 + 3 * A 185) i) 185 (A 185 + 1)
theorem zSgq_o {A : Int → Int} {a t i j : Int} (n0 : 0 ≤ A 185) (n1 : A 185 < 12) (hj : j < 144 ∨ 180 ≤ j) (h5 : j ≠ 185) : zSgq A a t i j = A j := by
  unfold zSgq
  rw [zset_ne h5, zset_ne (by omega), zset_ne (by omega), zset_ne (by omega)]
theorem zSgq_n {A : Int → Int} {a t i : Int} : zSgq A a t i 185 = A 185 + 1 := zset_same
theorem zSgq_a {A : Int → Int} {a t i j : Int} (n0 : 0 ≤ A 185) (n1 : A 185 < 12) (j0 : 0 ≤ j) (j1 : j < 12) : zSgq A a t i (144 + 3 * j) = if j = A 185 then a else A (144 + 3 * j) := by
  unfold zSgq
  rw [zset_ne (by omega), zset_ne (by omega), zset_ne (by omega)]
  by_cases c : j = A 185
  · rw [if_pos c, c, zset_same]
  · rw [if_neg c, zset_ne (by omega)]
theorem zSgq_t {A : Int → Int} {a t i j : Int} (n0 : 0 ≤ A 185) (n1 : A 185 < 12) (j0 : 0 ≤ j) (j1 : j < 12) : zSgq A a t i (145 + 3 * j) = if j = A 185 then t else A (145 + 3 * j) := by
  unfold zSgq
  rw [zset_ne (by omega), zset_ne (by omega)]
  by_cases c : j = A 185
  · rw [if_pos c, c, zset_same]
  · rw [if_neg c, zset_ne (by omega), zset_ne (by omega)]
theorem zSgq_i {A : Int → Int} {a t i j : Int} (n0 : 0 ≤ A 185) (n1 : A 185 < 12) (j0 : 0 ≤ j) (j1 : j < 12) : zSgq A a t i (146 + 3 * j) = if j = A 185 then i else A (146 + 3 * j) := by
  unfold zSgq
  rw [zset_ne (by omega)]
  by_cases c : j = A 185
  · rw [if_pos c, c, zset_same]
  · rw [if_neg c, zset_ne (by omega), zset_ne (by omega), zset_ne (by omega)]
theorem zWF_sg {A : Int → Int} {a t i : Int} (hW : zWF A) (n1 : A 185 < 12) (ha : -500 ≤ a ∧ a ≤ 500) (ht : 0 ≤ t ∧ t < A 184) (hi : -1 ≤ i ∧ i ≤ 31) : zWF (zSgq A a t i) := by
  obtain ⟨w1, w2, w3, w4, w5, w6, w7, w8, w9⟩ := hW
  have n0 := w6.1
  have o : ∀ j, (j < 144 ∨ 180 ≤ j) → j ≠ 185 → zSgq A a t i j = A j := fun j x y => zSgq_o n0 n1 x y
  have e184 := o 184 (by omega) (by omega)
  refine ⟨fun j j0 j1 => by rw [o j (by omega) (by omega), o (64 + j) (by omega) (by omega)]; exact w1 j j0 j1, by rw [e184]; exact w2, fun u u0 u1 => ?_, fun u v u0 u1 v0 v1 e => ?_, by rw [o 180 (by omega) (by omega), o 181 (by omega) (by omega), o 182 (by omega) (by omega), o 183 (by omega) (by omega)]; exact w5, by rw [zSgq_n]; omega, fun j j0 j1 => ?_, by rw [o 186 (by omega) (by omega)]; exact w8, by rw [o 186 (by omega) (by omega), o 187 (by omega) (by omega)]; exact w9⟩
  · rw [e184] at u1
    rw [o _ (by omega) (by omega), o (136 + u) (by omega) (by omega)]; exact w3 u u0 u1
  · rw [e184] at u1 v1
    rw [o _ (by omega) (by omega), o (128 + v) (by omega) (by omega)] at e
    exact w4 u v u0 u1 v0 v1 e
  · rw [zSgq_n] at j1
    rw [zSgq_a n0 n1 j0 (by omega), zSgq_t n0 n1 j0 (by omega), zSgq_i n0 n1 j0 (by omega), e184]
    by_cases c : j = A 185
    · rw [if_pos c, if_pos c, if_pos c]; omega
    · rw [if_neg c, if_neg c, if_neg c]; exact w7 j j0 (by omega)
set_option maxHeartbeats 4000000 in
theorem s_sight (k : Nat) (hk : k ≤ 1000) (a t i : Int) : zStp k (M_RW_sight 1 a t i) (M_Mo_sight 68 a t i) := by
  intro D A σ hI
  have hB := hI.1.1.1
  have hW := hI.1.1.2.1
  have hR := hI.1.1.2.2.1
  have h70 := hI.2.1.2.2.2.1
  have vk := hI.2.1.2.2.2.2.2.1
  have n10 : ¬ (1 : Int) = 0 := by decide
  have nb := hW.2.1
  have sb := hW.2.2.2.2.2.1
  have h5 : σ.1 2 5 = A 184 := hR.2.2.1
  have h13 : σ.1 2 13 = A 185 := hR.2.2.2.2.2.2.2
  have ht := e_hasThing (t := t) hB
  rw [h5] at ht
  by_cases c : (-500 ≤ a ∧ a ≤ 500) ∧ (-1 ≤ i ∧ i ≤ 31)
  · obtain ⟨ca, ci⟩ := c
    by_cases ct : 0 ≤ t ∧ t < A 184
    · rw [if_pos ct] at ht
      by_cases cn : A 185 < 12
      · have n0 := sb.1
        have cn12 : ¬ A 185 = 12 := by omega
        have o : ∀ j, (j < 144 ∨ 180 ≤ j) → j ≠ 185 → zSgq A a t i j = A j := fun j x y => zSgq_o n0 cn x y
        refine zBoth (A' := zSgq A a t i) (v := A 185 + 1) hI hk (zWF_sg hW cn ca ct ci) (fun j _ _ => o j (by omega) (by omega)) (o 186 (by omega) (by omega)) ?_ (fun X xB x70 xf => ?_)
        · have b1 := zB_mup (r := 10) (i := A 185) (v := a) hB (zokr_arr (by decide +kernel))
          have b2 := zB_mup (r := 11) (i := A 185) (v := t) b1 (zokr_arr (by decide +kernel))
          have b3 := zB_mup (r := 12) (i := A 185) (v := i) b2 (zokr_arr (by decide +kernel))
          have b4 := zB_mup (r := 2) (i := 13) (v := A 185 + 1) b3 (by decide +kernel)
          have ac := e_accept (v := A 185 + 1) b4
          have w1 : ∀ u : Int, u = A 185 → w32 (u + 1) = A 185 + 1 := fun u hu => by rw [w32_in (by omega) (by omega)]; omega
          refine wpo_mono (Q := fun q => q = (A 185 + 1, (mup (mup (mup (mup (mup (mup σ.1 10 (A 185) a) 11 (A 185) t) 12 (A 185) i) 2 13 (A 185 + 1)) 1 14 0) 58 4 0, σ.2))) ?_ (fun q hq => ⟨(mup (mup (mup (mup σ.1 10 (A 185) a) 11 (A 185) t) 12 (A 185) i) 2 13 (A 185 + 1), σ.2), ⟨b4, rfl, ?_, ?_, ?_, ?_⟩, hq⟩)
          · unfold M_RW_sight
            simp (maxSteps := 5000000) (disch := first | assumption | omega) only [wpo_bind, wpo_some, wpo_gf, wpo_gk, wpo_ld, wpo_pf, wpo_pz, wpo_sd, wpo_sr, wpo_ln, wpo_idv, wpo_irm, wpo_lrm, wpo_ldv, wpo_cpy, mlet, mnar_int, mup_same, mup_cell, mup_slot, ite_true, ite_false, true_and, and_true, eq_self, or_true, true_or, and_self, Int.reduceLT, Int.reduceLE, Int.reduceEq, Int.reduceNe, Int.reduceAdd, Int.reduceSub, Int.reduceMul, Int.reduceNeg, ne_eq, not_false_eq_true, not_true_eq_false, false_or, or_false, zor_inl, zor_inr, Bool.false_eq_true, false_and, and_false, zk1, zk2, zk3, zk4, zk5, zk6, zk7, zk8, zk9, zk10, zk11, zk12, zk13, zk14, zk15, zk16, zk17, zk18, zk19, zk20, zk21, zk22, zk23, zk24, zk25, zk26, zk27, zk28, zk29, zk30, zk31, zk32, zk33, zk34, zk35, zk36, zk37, zk38, zk39, zk40, zk41, zk42, zk43, zk44, zk45, zk46, zk47, zk48, zk49, zk50, zk51, zk52, zk53, zk54, zk55, zk56, zk57, zk58, zk59, zk60, zk61, zk62, zk63, zk64, zk65, zk66, zk67, zk68, zk69, zk70, zk71, zk72, zk73, zk74, zk75, zk76, zk77, zk78, zk79, zk80, zk81, zk82, zk83, zk84, zk85, zk86, zk87, zk88, zk89, zk90, zr2_0, zr2_1, zr2_2, zr2_3, zr2_4, zr2_6, zr2_7, zr2_10, zr2_11, zr2_12, zr1_0, zr1_1, zr14_0, zr14_1, zr14_2, zr14_3, zr14_4, zr14_6, zr14_7, zr14_10, zr14_11, zr14_12, zr13_0, zr25_0, zr25_1, zr25_2, zr25_3, zr25_4, zr25_6, zr25_7, zr25_10, zr25_11, zr25_12, zr13_1, zr1_2, zr37_0, zr1_3, zr39_0, zr39_1, zr39_2, zr39_5, zr39_7, zr39_8, zr1_4, zr46_1, zr46_2, zr46_3, zr46_4, zr46_0, zr1_5, zr51_2, zr51_10, zr51_0, zr51_1, zr54_1, zr54_2, zr54_3, zr1_6, zr58_1, zr58_2, zr58_3, zr58_0, zr1_7, zr62_2, zr62_3, zr62_0, zr62_1, zr1_8, zr1_9, zr1_10, zr1_15, zr68_2, zr68_3, zr68_4, zr68_5, zr68_7, zr68_8, zr68_9, zr68_12, zr68_13, zr68_14, zr68_22, zr68_23, zr68_24, zr68_26, zr68_35, zr68_36, zr68_37, zr68_38, zr68_39, zr68_40, zr68_41, zr68_42, e_isAngle, e_within, ca, ci, n10, ht, h13, cn, n0, w1, ac]
          · intro u x y
            show mup (mup (mup (mup σ.1 10 (A 185) a) 11 (A 185) t) 12 (A 185) i) 2 13 (A 185 + 1) u = σ.1 u
            rw [mup_fun (by omega), mup_fun (by omega), mup_fun (by omega), mup_fun (by omega)]
          · show mup (mup (mup (mup σ.1 10 (A 185) a) 11 (A 185) t) 12 (A 185) i) 2 13 (A 185 + 1) 9 = σ.1 9
            rw [mup_fun (by omega), mup_fun (by omega), mup_fun (by omega), mup_fun (by omega)]
          · generalize hY : mup (mup (mup (mup σ.1 10 (A 185) a) 11 (A 185) t) 12 (A 185) i) 2 13 (A 185 + 1) = Y
            have f : ∀ u, u ≠ 2 ∧ u ≠ 10 ∧ u ≠ 11 ∧ u ≠ 12 → Y u = σ.1 u := fun u x => by rw [← hY, mup_fun (by omega), mup_fun (by omega), mup_fun (by omega), mup_fun (by omega)]
            have f2 : ∀ u, Y 2 u = if u = 13 then A 185 + 1 else σ.1 2 u := fun u => by rw [← hY, mup_if, mup_cell (by decide), mup_cell (by decide), mup_cell (by decide)]
            have f10 : ∀ u, Y 10 u = if u = A 185 then a else σ.1 10 u := fun u => by rw [← hY, mup_cell (by decide), mup_cell (by decide), mup_cell (by decide), mup_if]
            have f11 : ∀ u, Y 11 u = if u = A 185 then t else σ.1 11 u := fun u => by rw [← hY, mup_cell (by decide), mup_cell (by decide), mup_if, mup_cell (by decide)]
            have f12 : ∀ u, Y 12 u = if u = A 185 then i else σ.1 12 u := fun u => by rw [← hY, mup_cell (by decide), mup_if, mup_cell (by decide), mup_cell (by decide)]
            obtain ⟨o1, o2, o3, o4, o5, o6, o7, o8⟩ := hR
            refine ⟨fun j j0 j1 => ?_, fun u u0 u1 => ?_, ?_, fun j j0 j1 => ?_, ?_, ?_, fun j j0 j1 => ?_, ?_⟩
            · show Y 3 j = _ ∧ Y 4 j = _ ∧ Y 5 j = _
              rw [f 3 (by decide), f 4 (by decide), f 5 (by decide), o j (by omega) (by omega), o (64 + j) (by omega) (by omega), ztA_cg (o 184 (by omega) (by omega)) (fun u u0 u1 => o _ (by omega) (by omega))]
              exact o1 j j0 j1
            · show Y 6 u = _ ∧ Y 7 u = _
              rw [f 6 (by decide), f 7 (by decide), o _ (by omega) (by omega), o (136 + u) (by omega) (by omega)]
              exact o2 u u0 u1
            · show Y 2 5 = _
              rw [f2, if_neg (by decide), o 184 (by omega) (by omega)]; exact o3
            · show Y 8 j = _
              rw [f 8 (by decide), o _ (by omega) (by omega)]; exact o4 j j0 j1
            · show Y 2 8 = _
              rw [f2, if_neg (by decide), o 186 (by omega) (by omega)]; exact o5
            · show Y 2 9 = _
              rw [f2, if_neg (by decide), o 187 (by omega) (by omega)]; exact o6
            · show Y 10 j = _ ∧ Y 11 j = _ ∧ Y 12 j = _
              have oj := o7 j j0 j1
              have oj1 : σ.1 10 j = A (144 + 3 * j) := oj.1
              have oj2 : σ.1 11 j = A (145 + 3 * j) := oj.2.1
              have oj3 : σ.1 12 j = A (146 + 3 * j) := oj.2.2
              rw [f10, f11, f12, zSgq_a n0 cn j0 j1, zSgq_t n0 cn j0 j1, zSgq_i n0 cn j0 j1, oj1, oj2, oj3]
              exact ⟨rfl, rfl, rfl⟩
            · show Y 2 13 = _
              rw [f2, if_pos rfl, zSgq_n]
          · intro j j0 j1
            have e48 : mup (mup (mup (mup σ.1 10 (A 185) a) 11 (A 185) t) 12 (A 185) i) 2 13 (A 185 + 1) 48 j = σ.1 48 j := by rw [mup_fun (by decide), mup_fun (by decide), mup_fun (by decide), mup_fun (by decide)]
            show σ.1 48 j ≤ mup (mup (mup (mup σ.1 10 (A 185) a) 11 (A 185) t) 12 (A 185) i) 2 13 (A 185 + 1) 48 j ∧ mup (mup (mup (mup σ.1 10 (A 185) a) 11 (A 185) t) 12 (A 185) i) 2 13 (A 185 + 1) 48 j ≤ _ ∧ _
            rw [e48]
            refine ⟨Int.le_refl _, by omega, fun _ s u => ?_⟩
            unfold zWd
            rw [o 187 (by omega) (by omega), o j (by omega) (by omega), o (64 + j) (by omega) (by omega)]
        · have b1 := zB_mup (r := 70) (i := 144 + 3 * A 185) (v := a) xB (zokr_arr (by decide +kernel))
          have b2 := zB_mup (r := 70) (i := 145 + 3 * A 185) (v := t) b1 (zokr_arr (by decide +kernel))
          have b3 := zB_mup (r := 70) (i := 146 + 3 * A 185) (v := i) b2 (zokr_arr (by decide +kernel))
          have b4 := zB_mup (r := 70) (i := 185) (v := A 185 + 1) b3 (zokr_arr (by decide +kernel))
          have pz : zPZ (zSgq A a t i) X (mup (mup (mup (mup X.1 70 (144 + 3 * A 185) a) 70 (145 + 3 * A 185) t) 70 (146 + 3 * A 185) i) 70 185 (A 185 + 1), X.2) := by
            refine ⟨b4, rfl, fun u hu => ?_, ?_⟩
            · show mup (mup (mup (mup X.1 70 (144 + 3 * A 185) a) 70 (145 + 3 * A 185) t) 70 (146 + 3 * A 185) i) 70 185 (A 185 + 1) u = X.1 u
              rw [mup_fun hu, mup_fun hu, mup_fun hu, mup_fun hu]
            · show mup (mup (mup (mup X.1 70 (144 + 3 * A 185) a) 70 (145 + 3 * A 185) t) 70 (146 + 3 * A 185) i) 70 185 (A 185 + 1) 70 = _
              rw [mup_zset, mup_zset, mup_zset, mup_zset, x70]
              rfl
          have gd := f_good2 (v := A 185 + 1) pz (congrFun (xf 68 (by decide) (by decide)) 1) vk
          have it := f_isThing (t := t) xB x70 nb
          rw [if_pos ct] at it
          have w1 : ∀ u : Int, u = A 185 → w32 (u + 1) = A 185 + 1 := fun u hu => by rw [w32_in (by omega) (by omega)]; omega
          have w2 : ∀ u : Int, u = A 185 → w32 (3 * u) = 3 * A 185 := fun u hu => by rw [w32_in (by omega) (by omega)]; omega
          have w3 : ∀ u : Int, u = A 185 → w32 (144 + 3 * u) = 144 + 3 * A 185 := fun u hu => by rw [w32_in (by omega) (by omega)]; omega
          have w4 : ∀ u : Int, u = A 185 → w32 (144 + 3 * u + 1) = 145 + 3 * A 185 := fun u hu => by rw [w32_in (by omega) (by omega)]; omega
          have w5 : ∀ u : Int, u = A 185 → w32 (144 + 3 * u + 2) = 146 + 3 * A 185 := fun u hu => by rw [w32_in (by omega) (by omega)]; omega
          have x70k : ∀ j, X.1 70 j = A j := fun j => by rw [x70]
          have d1 : 0 ≤ 144 + 3 * A 185 ∧ 144 + 3 * A 185 < 4994 := by omega
          have d2 : 0 ≤ 145 + 3 * A 185 ∧ 145 + 3 * A 185 < 4994 := by omega
          have d3 : 0 ≤ 146 + 3 * A 185 ∧ 146 + 3 * A 185 < 4994 := by omega
          refine wpo_mono (Q := fun z => z = (A 185 + 1, (mup (mup (mup (mup (mup (mup X.1 70 (144 + 3 * A 185) a) 70 (145 + 3 * A 185) t) 70 (146 + 3 * A 185) i) 70 185 (A 185 + 1)) 68 0 0) 68 1 (σ.1 68 1 + 1), X.2))) ?_ (fun z hz => ⟨_, pz, hz⟩)
          unfold M_Mo_sight
          simp (maxSteps := 5000000) (disch := first | assumption | omega) only [wpo_bind, wpo_some, wpo_gf, wpo_gk, wpo_ld, wpo_pf, wpo_pz, wpo_sd, wpo_sr, wpo_ln, wpo_idv, wpo_irm, wpo_lrm, wpo_ldv, wpo_cpy, mlet, mnar_int, mup_same, mup_cell, mup_slot, ite_true, ite_false, true_and, and_true, eq_self, or_true, true_or, and_self, Int.reduceLT, Int.reduceLE, Int.reduceEq, Int.reduceNe, Int.reduceAdd, Int.reduceSub, Int.reduceMul, Int.reduceNeg, ne_eq, not_false_eq_true, not_true_eq_false, false_or, or_false, zor_inl, zor_inr, Bool.false_eq_true, false_and, and_false, zk1, zk2, zk3, zk4, zk5, zk6, zk7, zk8, zk9, zk10, zk11, zk12, zk13, zk14, zk15, zk16, zk17, zk18, zk19, zk20, zk21, zk22, zk23, zk24, zk25, zk26, zk27, zk28, zk29, zk30, zk31, zk32, zk33, zk34, zk35, zk36, zk37, zk38, zk39, zk40, zk41, zk42, zk43, zk44, zk45, zk46, zk47, zk48, zk49, zk50, zk51, zk52, zk53, zk54, zk55, zk56, zk57, zk58, zk59, zk60, zk61, zk62, zk63, zk64, zk65, zk66, zk67, zk68, zk69, zk70, zk71, zk72, zk73, zk74, zk75, zk76, zk77, zk78, zk79, zk80, zk81, zk82, zk83, zk84, zk85, zk86, zk87, zk88, zk89, zk90, zr2_0, zr2_1, zr2_2, zr2_3, zr2_4, zr2_6, zr2_7, zr2_10, zr2_11, zr2_12, zr1_0, zr1_1, zr14_0, zr14_1, zr14_2, zr14_3, zr14_4, zr14_6, zr14_7, zr14_10, zr14_11, zr14_12, zr13_0, zr25_0, zr25_1, zr25_2, zr25_3, zr25_4, zr25_6, zr25_7, zr25_10, zr25_11, zr25_12, zr13_1, zr1_2, zr37_0, zr1_3, zr39_0, zr39_1, zr39_2, zr39_5, zr39_7, zr39_8, zr1_4, zr46_1, zr46_2, zr46_3, zr46_4, zr46_0, zr1_5, zr51_2, zr51_10, zr51_0, zr51_1, zr54_1, zr54_2, zr54_3, zr1_6, zr58_1, zr58_2, zr58_3, zr58_0, zr1_7, zr62_2, zr62_3, zr62_0, zr62_1, zr1_8, zr1_9, zr1_10, zr1_15, zr68_2, zr68_3, zr68_4, zr68_5, zr68_7, zr68_8, zr68_9, zr68_12, zr68_13, zr68_14, zr68_22, zr68_23, zr68_24, zr68_26, zr68_35, zr68_36, zr68_37, zr68_38, zr68_39, zr68_40, zr68_41, zr68_42, f_isAngle, e_lies, ca, ci, n10, it, x70k, cn12, w1, w2, w3, w4, w5, d1, d2, d3, gd]
      · have cn12 : A 185 = 12 := by omega
        refine zRefu (by' := -5) (m := 5) hI hk (by decide) (by decide) (fun rf => ?_) (fun σ1 hB1 xf rf => ?_)
        · unfold M_RW_sight
          simp (maxSteps := 5000000) (disch := first | assumption | omega) only [wpo_bind, wpo_some, wpo_gf, wpo_gk, wpo_ld, wpo_pf, wpo_pz, wpo_sd, wpo_sr, wpo_ln, wpo_idv, wpo_irm, wpo_lrm, wpo_ldv, wpo_cpy, mlet, mnar_int, mup_same, mup_cell, mup_slot, ite_true, ite_false, true_and, and_true, eq_self, or_true, true_or, and_self, Int.reduceLT, Int.reduceLE, Int.reduceEq, Int.reduceNe, Int.reduceAdd, Int.reduceSub, Int.reduceMul, Int.reduceNeg, ne_eq, not_false_eq_true, not_true_eq_false, false_or, or_false, zor_inl, zor_inr, Bool.false_eq_true, false_and, and_false, zk1, zk2, zk3, zk4, zk5, zk6, zk7, zk8, zk9, zk10, zk11, zk12, zk13, zk14, zk15, zk16, zk17, zk18, zk19, zk20, zk21, zk22, zk23, zk24, zk25, zk26, zk27, zk28, zk29, zk30, zk31, zk32, zk33, zk34, zk35, zk36, zk37, zk38, zk39, zk40, zk41, zk42, zk43, zk44, zk45, zk46, zk47, zk48, zk49, zk50, zk51, zk52, zk53, zk54, zk55, zk56, zk57, zk58, zk59, zk60, zk61, zk62, zk63, zk64, zk65, zk66, zk67, zk68, zk69, zk70, zk71, zk72, zk73, zk74, zk75, zk76, zk77, zk78, zk79, zk80, zk81, zk82, zk83, zk84, zk85, zk86, zk87, zk88, zk89, zk90, zr2_0, zr2_1, zr2_2, zr2_3, zr2_4, zr2_6, zr2_7, zr2_10, zr2_11, zr2_12, zr1_0, zr1_1, zr14_0, zr14_1, zr14_2, zr14_3, zr14_4, zr14_6, zr14_7, zr14_10, zr14_11, zr14_12, zr13_0, zr25_0, zr25_1, zr25_2, zr25_3, zr25_4, zr25_6, zr25_7, zr25_10, zr25_11, zr25_12, zr13_1, zr1_2, zr37_0, zr1_3, zr39_0, zr39_1, zr39_2, zr39_5, zr39_7, zr39_8, zr1_4, zr46_1, zr46_2, zr46_3, zr46_4, zr46_0, zr1_5, zr51_2, zr51_10, zr51_0, zr51_1, zr54_1, zr54_2, zr54_3, zr1_6, zr58_1, zr58_2, zr58_3, zr58_0, zr1_7, zr62_2, zr62_3, zr62_0, zr62_1, zr1_8, zr1_9, zr1_10, zr1_15, zr68_2, zr68_3, zr68_4, zr68_5, zr68_7, zr68_8, zr68_9, zr68_12, zr68_13, zr68_14, zr68_22, zr68_23, zr68_24, zr68_26, zr68_35, zr68_36, zr68_37, zr68_38, zr68_39, zr68_40, zr68_41, zr68_42, e_isAngle, e_within, ca, ci, n10, ht, h13, cn, rf]
        · have x70 : σ1.1 70 = A := (xf 70 (by decide) (by decide)).trans h70
          have x70k : ∀ j, σ1.1 70 j = A j := fun j => by rw [x70]
          have it := f_isThing (t := t) hB1 x70 nb
          rw [if_pos ct] at it
          unfold M_Mo_sight
          simp (maxSteps := 5000000) (disch := first | assumption | omega) only [wpo_bind, wpo_some, wpo_gf, wpo_gk, wpo_ld, wpo_pf, wpo_pz, wpo_sd, wpo_sr, wpo_ln, wpo_idv, wpo_irm, wpo_lrm, wpo_ldv, wpo_cpy, mlet, mnar_int, mup_same, mup_cell, mup_slot, ite_true, ite_false, true_and, and_true, eq_self, or_true, true_or, and_self, Int.reduceLT, Int.reduceLE, Int.reduceEq, Int.reduceNe, Int.reduceAdd, Int.reduceSub, Int.reduceMul, Int.reduceNeg, ne_eq, not_false_eq_true, not_true_eq_false, false_or, or_false, zor_inl, zor_inr, Bool.false_eq_true, false_and, and_false, zk1, zk2, zk3, zk4, zk5, zk6, zk7, zk8, zk9, zk10, zk11, zk12, zk13, zk14, zk15, zk16, zk17, zk18, zk19, zk20, zk21, zk22, zk23, zk24, zk25, zk26, zk27, zk28, zk29, zk30, zk31, zk32, zk33, zk34, zk35, zk36, zk37, zk38, zk39, zk40, zk41, zk42, zk43, zk44, zk45, zk46, zk47, zk48, zk49, zk50, zk51, zk52, zk53, zk54, zk55, zk56, zk57, zk58, zk59, zk60, zk61, zk62, zk63, zk64, zk65, zk66, zk67, zk68, zk69, zk70, zk71, zk72, zk73, zk74, zk75, zk76, zk77, zk78, zk79, zk80, zk81, zk82, zk83, zk84, zk85, zk86, zk87, zk88, zk89, zk90, zr2_0, zr2_1, zr2_2, zr2_3, zr2_4, zr2_6, zr2_7, zr2_10, zr2_11, zr2_12, zr1_0, zr1_1, zr14_0, zr14_1, zr14_2, zr14_3, zr14_4, zr14_6, zr14_7, zr14_10, zr14_11, zr14_12, zr13_0, zr25_0, zr25_1, zr25_2, zr25_3, zr25_4, zr25_6, zr25_7, zr25_10, zr25_11, zr25_12, zr13_1, zr1_2, zr37_0, zr1_3, zr39_0, zr39_1, zr39_2, zr39_5, zr39_7, zr39_8, zr1_4, zr46_1, zr46_2, zr46_3, zr46_4, zr46_0, zr1_5, zr51_2, zr51_10, zr51_0, zr51_1, zr54_1, zr54_2, zr54_3, zr1_6, zr58_1, zr58_2, zr58_3, zr58_0, zr1_7, zr62_2, zr62_3, zr62_0, zr62_1, zr1_8, zr1_9, zr1_10, zr1_15, zr68_2, zr68_3, zr68_4, zr68_5, zr68_7, zr68_8, zr68_9, zr68_12, zr68_13, zr68_14, zr68_22, zr68_23, zr68_24, zr68_26, zr68_35, zr68_36, zr68_37, zr68_38, zr68_39, zr68_40, zr68_41, zr68_42, f_isAngle, e_lies, ca, ci, n10, it, x70k, cn12, rf]
    · rw [if_neg ct] at ht
      refine zRefu (by' := -2) (m := 2) hI hk (by decide) (by decide) (fun rf => ?_) (fun σ1 hB1 xf rf => ?_)
      · unfold M_RW_sight
        simp (maxSteps := 5000000) (disch := first | assumption | omega) only [wpo_bind, wpo_some, wpo_gf, wpo_gk, wpo_ld, wpo_pf, wpo_pz, wpo_sd, wpo_sr, wpo_ln, wpo_idv, wpo_irm, wpo_lrm, wpo_ldv, wpo_cpy, mlet, mnar_int, mup_same, mup_cell, mup_slot, ite_true, ite_false, true_and, and_true, eq_self, or_true, true_or, and_self, Int.reduceLT, Int.reduceLE, Int.reduceEq, Int.reduceNe, Int.reduceAdd, Int.reduceSub, Int.reduceMul, Int.reduceNeg, ne_eq, not_false_eq_true, not_true_eq_false, false_or, or_false, zor_inl, zor_inr, Bool.false_eq_true, false_and, and_false, zk1, zk2, zk3, zk4, zk5, zk6, zk7, zk8, zk9, zk10, zk11, zk12, zk13, zk14, zk15, zk16, zk17, zk18, zk19, zk20, zk21, zk22, zk23, zk24, zk25, zk26, zk27, zk28, zk29, zk30, zk31, zk32, zk33, zk34, zk35, zk36, zk37, zk38, zk39, zk40, zk41, zk42, zk43, zk44, zk45, zk46, zk47, zk48, zk49, zk50, zk51, zk52, zk53, zk54, zk55, zk56, zk57, zk58, zk59, zk60, zk61, zk62, zk63, zk64, zk65, zk66, zk67, zk68, zk69, zk70, zk71, zk72, zk73, zk74, zk75, zk76, zk77, zk78, zk79, zk80, zk81, zk82, zk83, zk84, zk85, zk86, zk87, zk88, zk89, zk90, zr2_0, zr2_1, zr2_2, zr2_3, zr2_4, zr2_6, zr2_7, zr2_10, zr2_11, zr2_12, zr1_0, zr1_1, zr14_0, zr14_1, zr14_2, zr14_3, zr14_4, zr14_6, zr14_7, zr14_10, zr14_11, zr14_12, zr13_0, zr25_0, zr25_1, zr25_2, zr25_3, zr25_4, zr25_6, zr25_7, zr25_10, zr25_11, zr25_12, zr13_1, zr1_2, zr37_0, zr1_3, zr39_0, zr39_1, zr39_2, zr39_5, zr39_7, zr39_8, zr1_4, zr46_1, zr46_2, zr46_3, zr46_4, zr46_0, zr1_5, zr51_2, zr51_10, zr51_0, zr51_1, zr54_1, zr54_2, zr54_3, zr1_6, zr58_1, zr58_2, zr58_3, zr58_0, zr1_7, zr62_2, zr62_3, zr62_0, zr62_1, zr1_8, zr1_9, zr1_10, zr1_15, zr68_2, zr68_3, zr68_4, zr68_5, zr68_7, zr68_8, zr68_9, zr68_12, zr68_13, zr68_14, zr68_22, zr68_23, zr68_24, zr68_26, zr68_35, zr68_36, zr68_37, zr68_38, zr68_39, zr68_40, zr68_41, zr68_42, e_isAngle, e_within, ca, ci, n10, ht, rf]
      · have x70 : σ1.1 70 = A := (xf 70 (by decide) (by decide)).trans h70
        have it := f_isThing (t := t) hB1 x70 nb
        rw [if_neg ct] at it
        unfold M_Mo_sight
        simp (maxSteps := 5000000) (disch := first | assumption | omega) only [wpo_bind, wpo_some, wpo_gf, wpo_gk, wpo_ld, wpo_pf, wpo_pz, wpo_sd, wpo_sr, wpo_ln, wpo_idv, wpo_irm, wpo_lrm, wpo_ldv, wpo_cpy, mlet, mnar_int, mup_same, mup_cell, mup_slot, ite_true, ite_false, true_and, and_true, eq_self, or_true, true_or, and_self, Int.reduceLT, Int.reduceLE, Int.reduceEq, Int.reduceNe, Int.reduceAdd, Int.reduceSub, Int.reduceMul, Int.reduceNeg, ne_eq, not_false_eq_true, not_true_eq_false, false_or, or_false, zor_inl, zor_inr, Bool.false_eq_true, false_and, and_false, zk1, zk2, zk3, zk4, zk5, zk6, zk7, zk8, zk9, zk10, zk11, zk12, zk13, zk14, zk15, zk16, zk17, zk18, zk19, zk20, zk21, zk22, zk23, zk24, zk25, zk26, zk27, zk28, zk29, zk30, zk31, zk32, zk33, zk34, zk35, zk36, zk37, zk38, zk39, zk40, zk41, zk42, zk43, zk44, zk45, zk46, zk47, zk48, zk49, zk50, zk51, zk52, zk53, zk54, zk55, zk56, zk57, zk58, zk59, zk60, zk61, zk62, zk63, zk64, zk65, zk66, zk67, zk68, zk69, zk70, zk71, zk72, zk73, zk74, zk75, zk76, zk77, zk78, zk79, zk80, zk81, zk82, zk83, zk84, zk85, zk86, zk87, zk88, zk89, zk90, zr2_0, zr2_1, zr2_2, zr2_3, zr2_4, zr2_6, zr2_7, zr2_10, zr2_11, zr2_12, zr1_0, zr1_1, zr14_0, zr14_1, zr14_2, zr14_3, zr14_4, zr14_6, zr14_7, zr14_10, zr14_11, zr14_12, zr13_0, zr25_0, zr25_1, zr25_2, zr25_3, zr25_4, zr25_6, zr25_7, zr25_10, zr25_11, zr25_12, zr13_1, zr1_2, zr37_0, zr1_3, zr39_0, zr39_1, zr39_2, zr39_5, zr39_7, zr39_8, zr1_4, zr46_1, zr46_2, zr46_3, zr46_4, zr46_0, zr1_5, zr51_2, zr51_10, zr51_0, zr51_1, zr54_1, zr54_2, zr54_3, zr1_6, zr58_1, zr58_2, zr58_3, zr58_0, zr1_7, zr62_2, zr62_3, zr62_0, zr62_1, zr1_8, zr1_9, zr1_10, zr1_15, zr68_2, zr68_3, zr68_4, zr68_5, zr68_7, zr68_8, zr68_9, zr68_12, zr68_13, zr68_14, zr68_22, zr68_23, zr68_24, zr68_26, zr68_35, zr68_36, zr68_37, zr68_38, zr68_39, zr68_40, zr68_41, zr68_42, f_isAngle, e_lies, ca, ci, n10, it, rf]
  · refine zRefu (by' := -1) (m := 1) hI hk (by decide) (by decide) (fun rf => ?_) (fun σ1 hB1 _ rf => ?_)
    · unfold M_RW_sight
      by_cases cp : -500 ≤ a ∧ a ≤ 500
      · have cr : ¬ (-1 ≤ i ∧ i ≤ 31) := fun x => c ⟨cp, x⟩
        simp (maxSteps := 5000000) (disch := first | assumption | omega) only [wpo_bind, wpo_some, wpo_gf, wpo_gk, wpo_ld, wpo_pf, wpo_pz, wpo_sd, wpo_sr, wpo_ln, wpo_idv, wpo_irm, wpo_lrm, wpo_ldv, wpo_cpy, mlet, mnar_int, mup_same, mup_cell, mup_slot, ite_true, ite_false, true_and, and_true, eq_self, or_true, true_or, and_self, Int.reduceLT, Int.reduceLE, Int.reduceEq, Int.reduceNe, Int.reduceAdd, Int.reduceSub, Int.reduceMul, Int.reduceNeg, ne_eq, not_false_eq_true, not_true_eq_false, false_or, or_false, zor_inl, zor_inr, Bool.false_eq_true, false_and, and_false, zk1, zk2, zk3, zk4, zk5, zk6, zk7, zk8, zk9, zk10, zk11, zk12, zk13, zk14, zk15, zk16, zk17, zk18, zk19, zk20, zk21, zk22, zk23, zk24, zk25, zk26, zk27, zk28, zk29, zk30, zk31, zk32, zk33, zk34, zk35, zk36, zk37, zk38, zk39, zk40, zk41, zk42, zk43, zk44, zk45, zk46, zk47, zk48, zk49, zk50, zk51, zk52, zk53, zk54, zk55, zk56, zk57, zk58, zk59, zk60, zk61, zk62, zk63, zk64, zk65, zk66, zk67, zk68, zk69, zk70, zk71, zk72, zk73, zk74, zk75, zk76, zk77, zk78, zk79, zk80, zk81, zk82, zk83, zk84, zk85, zk86, zk87, zk88, zk89, zk90, zr2_0, zr2_1, zr2_2, zr2_3, zr2_4, zr2_6, zr2_7, zr2_10, zr2_11, zr2_12, zr1_0, zr1_1, zr14_0, zr14_1, zr14_2, zr14_3, zr14_4, zr14_6, zr14_7, zr14_10, zr14_11, zr14_12, zr13_0, zr25_0, zr25_1, zr25_2, zr25_3, zr25_4, zr25_6, zr25_7, zr25_10, zr25_11, zr25_12, zr13_1, zr1_2, zr37_0, zr1_3, zr39_0, zr39_1, zr39_2, zr39_5, zr39_7, zr39_8, zr1_4, zr46_1, zr46_2, zr46_3, zr46_4, zr46_0, zr1_5, zr51_2, zr51_10, zr51_0, zr51_1, zr54_1, zr54_2, zr54_3, zr1_6, zr58_1, zr58_2, zr58_3, zr58_0, zr1_7, zr62_2, zr62_3, zr62_0, zr62_1, zr1_8, zr1_9, zr1_10, zr1_15, zr68_2, zr68_3, zr68_4, zr68_5, zr68_7, zr68_8, zr68_9, zr68_12, zr68_13, zr68_14, zr68_22, zr68_23, zr68_24, zr68_26, zr68_35, zr68_36, zr68_37, zr68_38, zr68_39, zr68_40, zr68_41, zr68_42, e_isAngle, e_within, cp, cr, n10, rf]
      · simp (maxSteps := 5000000) (disch := first | assumption | omega) only [wpo_bind, wpo_some, wpo_gf, wpo_gk, wpo_ld, wpo_pf, wpo_pz, wpo_sd, wpo_sr, wpo_ln, wpo_idv, wpo_irm, wpo_lrm, wpo_ldv, wpo_cpy, mlet, mnar_int, mup_same, mup_cell, mup_slot, ite_true, ite_false, true_and, and_true, eq_self, or_true, true_or, and_self, Int.reduceLT, Int.reduceLE, Int.reduceEq, Int.reduceNe, Int.reduceAdd, Int.reduceSub, Int.reduceMul, Int.reduceNeg, ne_eq, not_false_eq_true, not_true_eq_false, false_or, or_false, zor_inl, zor_inr, Bool.false_eq_true, false_and, and_false, zk1, zk2, zk3, zk4, zk5, zk6, zk7, zk8, zk9, zk10, zk11, zk12, zk13, zk14, zk15, zk16, zk17, zk18, zk19, zk20, zk21, zk22, zk23, zk24, zk25, zk26, zk27, zk28, zk29, zk30, zk31, zk32, zk33, zk34, zk35, zk36, zk37, zk38, zk39, zk40, zk41, zk42, zk43, zk44, zk45, zk46, zk47, zk48, zk49, zk50, zk51, zk52, zk53, zk54, zk55, zk56, zk57, zk58, zk59, zk60, zk61, zk62, zk63, zk64, zk65, zk66, zk67, zk68, zk69, zk70, zk71, zk72, zk73, zk74, zk75, zk76, zk77, zk78, zk79, zk80, zk81, zk82, zk83, zk84, zk85, zk86, zk87, zk88, zk89, zk90, zr2_0, zr2_1, zr2_2, zr2_3, zr2_4, zr2_6, zr2_7, zr2_10, zr2_11, zr2_12, zr1_0, zr1_1, zr14_0, zr14_1, zr14_2, zr14_3, zr14_4, zr14_6, zr14_7, zr14_10, zr14_11, zr14_12, zr13_0, zr25_0, zr25_1, zr25_2, zr25_3, zr25_4, zr25_6, zr25_7, zr25_10, zr25_11, zr25_12, zr13_1, zr1_2, zr37_0, zr1_3, zr39_0, zr39_1, zr39_2, zr39_5, zr39_7, zr39_8, zr1_4, zr46_1, zr46_2, zr46_3, zr46_4, zr46_0, zr1_5, zr51_2, zr51_10, zr51_0, zr51_1, zr54_1, zr54_2, zr54_3, zr1_6, zr58_1, zr58_2, zr58_3, zr58_0, zr1_7, zr62_2, zr62_3, zr62_0, zr62_1, zr1_8, zr1_9, zr1_10, zr1_15, zr68_2, zr68_3, zr68_4, zr68_5, zr68_7, zr68_8, zr68_9, zr68_12, zr68_13, zr68_14, zr68_22, zr68_23, zr68_24, zr68_26, zr68_35, zr68_36, zr68_37, zr68_38, zr68_39, zr68_40, zr68_41, zr68_42, e_isAngle, cp, rf]
    · unfold M_Mo_sight
      by_cases cp : -500 ≤ a ∧ a ≤ 500
      · have cr : ¬ (-1 ≤ i ∧ i ≤ 31) := fun x => c ⟨cp, x⟩
        simp (maxSteps := 5000000) (disch := first | assumption | omega) only [wpo_bind, wpo_some, wpo_gf, wpo_gk, wpo_ld, wpo_pf, wpo_pz, wpo_sd, wpo_sr, wpo_ln, wpo_idv, wpo_irm, wpo_lrm, wpo_ldv, wpo_cpy, mlet, mnar_int, mup_same, mup_cell, mup_slot, ite_true, ite_false, true_and, and_true, eq_self, or_true, true_or, and_self, Int.reduceLT, Int.reduceLE, Int.reduceEq, Int.reduceNe, Int.reduceAdd, Int.reduceSub, Int.reduceMul, Int.reduceNeg, ne_eq, not_false_eq_true, not_true_eq_false, false_or, or_false, zor_inl, zor_inr, Bool.false_eq_true, false_and, and_false, zk1, zk2, zk3, zk4, zk5, zk6, zk7, zk8, zk9, zk10, zk11, zk12, zk13, zk14, zk15, zk16, zk17, zk18, zk19, zk20, zk21, zk22, zk23, zk24, zk25, zk26, zk27, zk28, zk29, zk30, zk31, zk32, zk33, zk34, zk35, zk36, zk37, zk38, zk39, zk40, zk41, zk42, zk43, zk44, zk45, zk46, zk47, zk48, zk49, zk50, zk51, zk52, zk53, zk54, zk55, zk56, zk57, zk58, zk59, zk60, zk61, zk62, zk63, zk64, zk65, zk66, zk67, zk68, zk69, zk70, zk71, zk72, zk73, zk74, zk75, zk76, zk77, zk78, zk79, zk80, zk81, zk82, zk83, zk84, zk85, zk86, zk87, zk88, zk89, zk90, zr2_0, zr2_1, zr2_2, zr2_3, zr2_4, zr2_6, zr2_7, zr2_10, zr2_11, zr2_12, zr1_0, zr1_1, zr14_0, zr14_1, zr14_2, zr14_3, zr14_4, zr14_6, zr14_7, zr14_10, zr14_11, zr14_12, zr13_0, zr25_0, zr25_1, zr25_2, zr25_3, zr25_4, zr25_6, zr25_7, zr25_10, zr25_11, zr25_12, zr13_1, zr1_2, zr37_0, zr1_3, zr39_0, zr39_1, zr39_2, zr39_5, zr39_7, zr39_8, zr1_4, zr46_1, zr46_2, zr46_3, zr46_4, zr46_0, zr1_5, zr51_2, zr51_10, zr51_0, zr51_1, zr54_1, zr54_2, zr54_3, zr1_6, zr58_1, zr58_2, zr58_3, zr58_0, zr1_7, zr62_2, zr62_3, zr62_0, zr62_1, zr1_8, zr1_9, zr1_10, zr1_15, zr68_2, zr68_3, zr68_4, zr68_5, zr68_7, zr68_8, zr68_9, zr68_12, zr68_13, zr68_14, zr68_22, zr68_23, zr68_24, zr68_26, zr68_35, zr68_36, zr68_37, zr68_38, zr68_39, zr68_40, zr68_41, zr68_42, f_isAngle, e_lies, cp, cr, n10, rf]
      · simp (maxSteps := 5000000) (disch := first | assumption | omega) only [wpo_bind, wpo_some, wpo_gf, wpo_gk, wpo_ld, wpo_pf, wpo_pz, wpo_sd, wpo_sr, wpo_ln, wpo_idv, wpo_irm, wpo_lrm, wpo_ldv, wpo_cpy, mlet, mnar_int, mup_same, mup_cell, mup_slot, ite_true, ite_false, true_and, and_true, eq_self, or_true, true_or, and_self, Int.reduceLT, Int.reduceLE, Int.reduceEq, Int.reduceNe, Int.reduceAdd, Int.reduceSub, Int.reduceMul, Int.reduceNeg, ne_eq, not_false_eq_true, not_true_eq_false, false_or, or_false, zor_inl, zor_inr, Bool.false_eq_true, false_and, and_false, zk1, zk2, zk3, zk4, zk5, zk6, zk7, zk8, zk9, zk10, zk11, zk12, zk13, zk14, zk15, zk16, zk17, zk18, zk19, zk20, zk21, zk22, zk23, zk24, zk25, zk26, zk27, zk28, zk29, zk30, zk31, zk32, zk33, zk34, zk35, zk36, zk37, zk38, zk39, zk40, zk41, zk42, zk43, zk44, zk45, zk46, zk47, zk48, zk49, zk50, zk51, zk52, zk53, zk54, zk55, zk56, zk57, zk58, zk59, zk60, zk61, zk62, zk63, zk64, zk65, zk66, zk67, zk68, zk69, zk70, zk71, zk72, zk73, zk74, zk75, zk76, zk77, zk78, zk79, zk80, zk81, zk82, zk83, zk84, zk85, zk86, zk87, zk88, zk89, zk90, zr2_0, zr2_1, zr2_2, zr2_3, zr2_4, zr2_6, zr2_7, zr2_10, zr2_11, zr2_12, zr1_0, zr1_1, zr14_0, zr14_1, zr14_2, zr14_3, zr14_4, zr14_6, zr14_7, zr14_10, zr14_11, zr14_12, zr13_0, zr25_0, zr25_1, zr25_2, zr25_3, zr25_4, zr25_6, zr25_7, zr25_10, zr25_11, zr25_12, zr13_1, zr1_2, zr37_0, zr1_3, zr39_0, zr39_1, zr39_2, zr39_5, zr39_7, zr39_8, zr1_4, zr46_1, zr46_2, zr46_3, zr46_4, zr46_0, zr1_5, zr51_2, zr51_10, zr51_0, zr51_1, zr54_1, zr54_2, zr54_3, zr1_6, zr58_1, zr58_2, zr58_3, zr58_0, zr1_7, zr62_2, zr62_3, zr62_0, zr62_1, zr1_8, zr1_9, zr1_10, zr1_15, zr68_2, zr68_3, zr68_4, zr68_5, zr68_7, zr68_8, zr68_9, zr68_12, zr68_13, zr68_14, zr68_22, zr68_23, zr68_24, zr68_26, zr68_35, zr68_36, zr68_37, zr68_38, zr68_39, zr68_40, zr68_41, zr68_42, f_isAngle, cp, rf]
/-! DROP -/
def zDpq (A : Int → Int) (s : Int) (m : Int) : Int → Int := fun j => if 144 + 3 * s ≤ j ∧ j < 144 + 3 * s + m then A (j + 3) else if j = 185 then A 185 - 1 else A j
theorem zDpq_o {A : Int → Int} {s m j : Int} (s0 : 0 ≤ s) (hm : 3 * s + m ≤ 36) (hj : j < 144 ∨ 180 ≤ j) (h5 : j ≠ 185) : zDpq A s m j = A j := by
  unfold zDpq
  rw [if_neg (by omega), if_neg h5]
theorem zDpq_n {A : Int → Int} {s m : Int} (s0 : 0 ≤ s) (hm : 3 * s + m ≤ 36) : zDpq A s m 185 = A 185 - 1 := by
  unfold zDpq
  rw [if_neg (by omega), if_pos rfl]
theorem zDpq_s {A : Int → Int} {s j b : Int} (s0 : 0 ≤ s) (s1 : s < A 185) (n1 : A 185 ≤ 12) (j0 : 0 ≤ j) (j1 : j < 12) (hb : 144 ≤ b ∧ b ≤ 146) : zDpq A s (3 * (A 185 - 1 - s)) (b + 3 * j) = if s ≤ j ∧ j < A 185 - 1 then A (b + 3 * (j + 1)) else A (b + 3 * j) := by
  unfold zDpq
  by_cases c : s ≤ j ∧ j < A 185 - 1
  · rw [if_pos c, if_pos (by omega)]
    exact congrArg A (by omega)
  · rw [if_neg c, if_neg (by omega), if_neg (by omega)]
theorem zWF_dp {A : Int → Int} {s : Int} (hW : zWF A) (s0 : 0 ≤ s) (s1 : s < A 185) : zWF (zDpq A s (3 * (A 185 - 1 - s))) := by
  obtain ⟨w1, w2, w3, w4, w5, w6, w7, w8, w9⟩ := hW
  have hm : 3 * s + 3 * (A 185 - 1 - s) ≤ 36 := by omega
  have o : ∀ j, (j < 144 ∨ 180 ≤ j) → j ≠ 185 → zDpq A s (3 * (A 185 - 1 - s)) j = A j := fun j x y => zDpq_o s0 hm x y
  have e184 := o 184 (by omega) (by omega)
  refine ⟨fun j j0 j1 => by rw [o j (by omega) (by omega), o (64 + j) (by omega) (by omega)]; exact w1 j j0 j1, by rw [e184]; exact w2, fun u u0 u1 => ?_, fun u v u0 u1 v0 v1 e => ?_, by rw [o 180 (by omega) (by omega), o 181 (by omega) (by omega), o 182 (by omega) (by omega), o 183 (by omega) (by omega)]; exact w5, by rw [zDpq_n s0 hm]; omega, fun j j0 j1 => ?_, by rw [o 186 (by omega) (by omega)]; exact w8, by rw [o 186 (by omega) (by omega), o 187 (by omega) (by omega)]; exact w9⟩
  · rw [e184] at u1
    rw [o _ (by omega) (by omega), o (136 + u) (by omega) (by omega)]; exact w3 u u0 u1
  · rw [e184] at u1 v1
    rw [o _ (by omega) (by omega), o (128 + v) (by omega) (by omega)] at e
    exact w4 u v u0 u1 v0 v1 e
  · rw [zDpq_n s0 hm] at j1
    rw [zDpq_s s0 s1 w6.2 j0 (by omega) (by decide), zDpq_s s0 s1 w6.2 j0 (by omega) (by decide), zDpq_s s0 s1 w6.2 j0 (by omega) (by decide), e184]
    by_cases c : s ≤ j ∧ j < A 185 - 1
    · rw [if_pos c, if_pos c, if_pos c]; exact w7 (j + 1) (by omega) (by omega)
    · rw [if_neg c, if_neg c, if_neg c]; exact w7 j j0 (by omega)
theorem d_removeSight {A : Int → Int} {σ : mS} {s : Int} (hB : zB σ) (h13 : σ.1 2 13 = A 185) (n1 : A 185 ≤ 12) (s0 : 0 ≤ s) (s1 : s < A 185) : ∃ Y : mS, M_Road_removeSight 2 s σ = some (0, Y) ∧ zB Y ∧ Y.2 = σ.2 ∧ (∀ u, u ≠ 2 → u ≠ 10 → u ≠ 11 → u ≠ 12 → Y.1 u = σ.1 u) ∧ (∀ i, Y.1 2 i = if i = 13 then A 185 - 1 else σ.1 2 i) ∧ ∀ r, (r = 10 ∨ r = 11 ∨ r = 12) → ∀ j, Y.1 r j = if s ≤ j ∧ j < A 185 - 1 then σ.1 r (j + 1) else σ.1 r j := by
  obtain ⟨n, hn⟩ : ∃ n : Nat, (n : Int) = A 185 - 1 - s := ⟨(A 185 - 1 - s).toNat, by omega⟩
  have key : wpo (M_Road_removeSight 2 s σ) (fun q => q.1 = 0 ∧ zB q.2 ∧ q.2.2 = σ.2 ∧ (∀ u, u ≠ 2 → u ≠ 10 → u ≠ 11 → u ≠ 12 → q.2.1 u = σ.1 u) ∧ (∀ i, q.2.1 2 i = if i = 13 then A 185 - 1 else σ.1 2 i) ∧ ∀ r, (r = 10 ∨ r = 11 ∨ r = 12) → ∀ j, q.2.1 r j = if s ≤ j ∧ j < A 185 - 1 then σ.1 r (j + 1) else σ.1 r j) := by
    unfold M_Road_removeSight M_Road_removeSight_2
    refine loopN (fun m y => y.1 = s + (m : Int) ∧ zB y.2 ∧ y.2.2 = σ.2 ∧ (∀ u, u ≠ 10 → u ≠ 11 → u ≠ 12 → y.2.1 u = σ.1 u) ∧ ∀ r, (r = 10 ∨ r = 11 ∨ r = 12) → ∀ j, y.2.1 r j = if s ≤ j ∧ j < s + (m : Int) then σ.1 r (j + 1) else σ.1 r j) n _ _ (by omega) ⟨by show s = s + ((0 : Nat) : Int); omega, hB, rfl, fun u _ _ _ => rfl, fun r _ j => by rw [if_neg (by omega)]⟩ ?_ ?_
    · intro m y hm ⟨y1, y2, y3, y4, y5⟩
      obtain ⟨l2, x⟩ := y
      simp only at y1 y2 y3 y4 y5
      have p0 : 0 ≤ l2 := by omega
      have p1 : l2 < 12 := by omega
      have p2 : 0 ≤ l2 + 1 := by omega
      have p3 : l2 + 1 < 12 := by omega
      have c : l2 + 1 < A 185 := by omega
      have x13 : x.1 2 13 = A 185 := by rw [y4 2 (by decide) (by decide) (by decide)]; exact h13
      have v10 : x.1 10 (l2 + 1) = σ.1 10 (l2 + 1) := by rw [y5 10 (by decide), if_neg (by omega)]
      have v11 : x.1 11 (l2 + 1) = σ.1 11 (l2 + 1) := by rw [y5 11 (by decide), if_neg (by omega)]
      have v12 : x.1 12 (l2 + 1) = σ.1 12 (l2 + 1) := by rw [y5 12 (by decide), if_neg (by omega)]
      have w1 : ∀ u : Int, u = l2 → w32 (u + 1) = l2 + 1 := fun u hu => by rw [w32_in (by omega) (by omega)]; omega
      have b1 := zB_mup (r := 10) (i := l2) (v := σ.1 10 (l2 + 1)) y2 (zokr_arr (by decide +kernel))
      have b2 := zB_mup (r := 11) (i := l2) (v := σ.1 11 (l2 + 1)) b1 (zokr_arr (by decide +kernel))
      have b3 := zB_mup (r := 12) (i := l2) (v := σ.1 12 (l2 + 1)) b2 (zokr_arr (by decide +kernel))
      have e : B_Road_removeSight_2 2 l2 x = some (Sum.inl (l2 + 1, (mup (mup (mup x.1 10 l2 (σ.1 10 (l2 + 1))) 11 l2 (σ.1 11 (l2 + 1))) 12 l2 (σ.1 12 (l2 + 1)), x.2))) := wpo_is (by
        unfold B_Road_removeSight_2
        simp (maxSteps := 5000000) (disch := first | assumption | omega) only [wpo_bind, wpo_some, wpo_gf, wpo_gk, wpo_ld, wpo_pf, wpo_pz, wpo_sd, wpo_sr, wpo_ln, wpo_idv, wpo_irm, wpo_lrm, wpo_ldv, wpo_cpy, mlet, mnar_int, mup_same, mup_cell, mup_slot, ite_true, ite_false, true_and, and_true, eq_self, or_true, true_or, and_self, Int.reduceLT, Int.reduceLE, Int.reduceEq, Int.reduceNe, Int.reduceAdd, Int.reduceSub, Int.reduceMul, Int.reduceNeg, ne_eq, not_false_eq_true, not_true_eq_false, false_or, or_false, zor_inl, zor_inr, Bool.false_eq_true, false_and, and_false, zk1, zk2, zk3, zk4, zk5, zk6, zk7, zk8, zk9, zk10, zk11, zk12, zk13, zk14, zk15, zk16, zk17, zk18, zk19, zk20, zk21, zk22, zk23, zk24, zk25, zk26, zk27, zk28, zk29, zk30, zk31, zk32, zk33, zk34, zk35, zk36, zk37, zk38, zk39, zk40, zk41, zk42, zk43, zk44, zk45, zk46, zk47, zk48, zk49, zk50, zk51, zk52, zk53, zk54, zk55, zk56, zk57, zk58, zk59, zk60, zk61, zk62, zk63, zk64, zk65, zk66, zk67, zk68, zk69, zk70, zk71, zk72, zk73, zk74, zk75, zk76, zk77, zk78, zk79, zk80, zk81, zk82, zk83, zk84, zk85, zk86, zk87, zk88, zk89, zk90, zr2_0, zr2_1, zr2_2, zr2_3, zr2_4, zr2_6, zr2_7, zr2_10, zr2_11, zr2_12, zr1_0, zr1_1, zr14_0, zr14_1, zr14_2, zr14_3, zr14_4, zr14_6, zr14_7, zr14_10, zr14_11, zr14_12, zr13_0, zr25_0, zr25_1, zr25_2, zr25_3, zr25_4, zr25_6, zr25_7, zr25_10, zr25_11, zr25_12, zr13_1, zr1_2, zr37_0, zr1_3, zr39_0, zr39_1, zr39_2, zr39_5, zr39_7, zr39_8, zr1_4, zr46_1, zr46_2, zr46_3, zr46_4, zr46_0, zr1_5, zr51_2, zr51_10, zr51_0, zr51_1, zr54_1, zr54_2, zr54_3, zr1_6, zr58_1, zr58_2, zr58_3, zr58_0, zr1_7, zr62_2, zr62_3, zr62_0, zr62_1, zr1_8, zr1_9, zr1_10, zr1_15, zr68_2, zr68_3, zr68_4, zr68_5, zr68_7, zr68_8, zr68_9, zr68_12, zr68_13, zr68_14, zr68_22, zr68_23, zr68_24, zr68_26, zr68_35, zr68_36, zr68_37, zr68_38, zr68_39, zr68_40, zr68_41, zr68_42, x13, w1, c, p0, p1, p2, p3, v10, v11, v12])
      refine ⟨_, e, ?_, b3, y3, fun u a b d => ?_, fun r hr j => ?_⟩
      · show l2 + 1 = s + ((m + 1 : Nat) : Int)
        omega
      · show mup (mup (mup x.1 10 l2 (σ.1 10 (l2 + 1))) 11 l2 (σ.1 11 (l2 + 1))) 12 l2 (σ.1 12 (l2 + 1)) u = _
        rw [mup_fun d, mup_fun b, mup_fun a]; exact y4 u a b d
      · show mup (mup (mup x.1 10 l2 (σ.1 10 (l2 + 1))) 11 l2 (σ.1 11 (l2 + 1))) 12 l2 (σ.1 12 (l2 + 1)) r j = _
        have er : mup (mup (mup x.1 10 l2 (σ.1 10 (l2 + 1))) 11 l2 (σ.1 11 (l2 + 1))) 12 l2 (σ.1 12 (l2 + 1)) r j = if j = l2 then σ.1 r (l2 + 1) else x.1 r j := by
          rcases hr with h | h | h <;> subst h
          · rw [mup_cell (by decide), mup_cell (by decide), mup_if]
          · rw [mup_cell (by decide), mup_if, mup_cell (by decide)]
          · rw [mup_if, mup_cell (by decide), mup_cell (by decide)]
        rw [er, y5 r hr]
        by_cases cj : j = l2
        · rw [if_pos cj, if_pos (by omega), cj]
        · rw [if_neg cj]
          by_cases ci : s ≤ j ∧ j < s + (m : Int)
          · rw [if_pos ci, if_pos (by omega)]
          · rw [if_neg ci, if_neg (by omega)]
    · intro y ⟨y1, y2, y3, y4, y5⟩
      obtain ⟨l2, x⟩ := y
      simp only at y1 y2 y3 y4 y5
      have c : ¬ l2 + 1 < A 185 := by omega
      have x13 : x.1 2 13 = A 185 := by rw [y4 2 (by decide) (by decide) (by decide)]; exact h13
      have w1 : ∀ u : Int, u = l2 → w32 (u + 1) = l2 + 1 := fun u hu => by rw [w32_in (by omega) (by omega)]; omega
      have w2 : ∀ u : Int, u = A 185 → w32 (u - 1) = A 185 - 1 := fun u hu => by rw [w32_in (by omega) (by omega)]; omega
      have e : B_Road_removeSight_2 2 l2 x = some (Sum.inr (0, (mup x.1 2 13 (A 185 - 1), x.2))) := wpo_is (by
        unfold B_Road_removeSight_2
        simp (maxSteps := 5000000) (disch := first | assumption | omega) only [wpo_bind, wpo_some, wpo_gf, wpo_gk, wpo_ld, wpo_pf, wpo_pz, wpo_sd, wpo_sr, wpo_ln, wpo_idv, wpo_irm, wpo_lrm, wpo_ldv, wpo_cpy, mlet, mnar_int, mup_same, mup_cell, mup_slot, ite_true, ite_false, true_and, and_true, eq_self, or_true, true_or, and_self, Int.reduceLT, Int.reduceLE, Int.reduceEq, Int.reduceNe, Int.reduceAdd, Int.reduceSub, Int.reduceMul, Int.reduceNeg, ne_eq, not_false_eq_true, not_true_eq_false, false_or, or_false, zor_inl, zor_inr, Bool.false_eq_true, false_and, and_false, zk1, zk2, zk3, zk4, zk5, zk6, zk7, zk8, zk9, zk10, zk11, zk12, zk13, zk14, zk15, zk16, zk17, zk18, zk19, zk20, zk21, zk22, zk23, zk24, zk25, zk26, zk27, zk28, zk29, zk30, zk31, zk32, zk33, zk34, zk35, zk36, zk37, zk38, zk39, zk40, zk41, zk42, zk43, zk44, zk45, zk46, zk47, zk48, zk49, zk50, zk51, zk52, zk53, zk54, zk55, zk56, zk57, zk58, zk59, zk60, zk61, zk62, zk63, zk64, zk65, zk66, zk67, zk68, zk69, zk70, zk71, zk72, zk73, zk74, zk75, zk76, zk77, zk78, zk79, zk80, zk81, zk82, zk83, zk84, zk85, zk86, zk87, zk88, zk89, zk90, zr2_0, zr2_1, zr2_2, zr2_3, zr2_4, zr2_6, zr2_7, zr2_10, zr2_11, zr2_12, zr1_0, zr1_1, zr14_0, zr14_1, zr14_2, zr14_3, zr14_4, zr14_6, zr14_7, zr14_10, zr14_11, zr14_12, zr13_0, zr25_0, zr25_1, zr25_2, zr25_3, zr25_4, zr25_6, zr25_7, zr25_10, zr25_11, zr25_12, zr13_1, zr1_2, zr37_0, zr1_3, zr39_0, zr39_1, zr39_2, zr39_5, zr39_7, zr39_8, zr1_4, zr46_1, zr46_2, zr46_3, zr46_4, zr46_0, zr1_5, zr51_2, zr51_10, zr51_0, zr51_1, zr54_1, zr54_2, zr54_3, zr1_6, zr58_1, zr58_2, zr58_3, zr58_0, zr1_7, zr62_2, zr62_3, zr62_0, zr62_1, zr1_8, zr1_9, zr1_10, zr1_15, zr68_2, zr68_3, zr68_4, zr68_5, zr68_7, zr68_8, zr68_9, zr68_12, zr68_13, zr68_14, zr68_22, zr68_23, zr68_24, zr68_26, zr68_35, zr68_36, zr68_37, zr68_38, zr68_39, zr68_40, zr68_41, zr68_42, x13, w1, c, w2])
      refine ⟨_, e, rfl, zB_mup y2 (by decide +kernel), y3, fun u a b d f => ?_, fun i => ?_, fun r hr j => ?_⟩
      · show mup x.1 2 13 (A 185 - 1) u = _
        rw [mup_fun a]; exact y4 u b d f
      · show mup x.1 2 13 (A 185 - 1) 2 i = _
        rw [mup_if, y4 2 (by decide) (by decide) (by decide)]
      · show mup x.1 2 13 (A 185 - 1) r j = _
        rw [mup_cell (by omega), y5 r hr]
        by_cases ci : s ≤ j ∧ j < s + (n : Int)
        · rw [if_pos ci, if_pos (by omega)]
        · rw [if_neg ci, if_neg (by omega)]
  obtain ⟨⟨v, Y⟩, e, e1, e2⟩ := key
  simp only at e1 e2
  subst e1
  exact ⟨Y, e, e2⟩
theorem r_drop {A : Int → Int} {X : mS} {s vv : Int} (hB : zB X) (h70 : X.1 70 = zDpq A s 0) (v68 : X.1 68 1 = vv) (vk : 0 ≤ vv ∧ vv ≤ 100000) (n1 : A 185 ≤ 12) (s0 : 0 ≤ s) (s1 : s < A 185) :
    wpo (M_Mo_drop_26 68 (3 * s) X) (fun z => ∃ Z, zPZ (zDpq A s (3 * (A 185 - 1 - s))) X Z ∧ z = (A 185 - 1, (mup (mup Z.1 68 0 0) 68 1 (vv + 1), Z.2))) := by
  obtain ⟨n, hn⟩ : ∃ n : Nat, (n : Int) = 3 * (A 185 - 1 - s) := ⟨(3 * (A 185 - 1 - s)).toNat, by omega⟩
  rw [← hn]
  unfold M_Mo_drop_26
  refine loopN (fun m y => y.1 = 3 * s + (m : Int) ∧ zPZ (zDpq A s (m : Int)) X y.2) n _ _ (by omega) ⟨by show 3 * s = 3 * s + ((0 : Nat) : Int); omega, hB, rfl, fun u _ => rfl, h70⟩ ?_ ?_
  · intro m y hm ⟨y1, z1, z2, z3, z4⟩
    obtain ⟨l2, x⟩ := y
    simp only at y1 z1 z2 z3 z4
    have x70k : ∀ j, x.1 70 j = zDpq A s (m : Int) j := fun j => by rw [z4]
    have x185 : x.1 70 185 = A 185 - 1 := by rw [x70k]; exact zDpq_n s0 (by omega)
    have xv : x.1 70 (144 + l2 + 3) = A (144 + l2 + 3) := by
      rw [x70k]
      unfold zDpq
      rw [if_neg (by omega), if_neg (by omega)]
    have w2 : ∀ u : Int, u = A 185 - 1 → w32 (3 * u) = 3 * (A 185 - 1) := fun u hu => by rw [w32_in (by omega) (by omega)]; omega
    have w3 : ∀ u : Int, u = l2 → w32 (144 + u) = 144 + l2 := fun u hu => by rw [w32_in (by omega) (by omega)]; omega
    have w4 : ∀ u : Int, u = l2 → w32 (144 + u + 3) = 144 + l2 + 3 := fun u hu => by rw [w32_in (by omega) (by omega)]; omega
    have w1 : ∀ u : Int, u = l2 → w32 (u + 1) = l2 + 1 := fun u hu => by rw [w32_in (by omega) (by omega)]; omega
    have c : l2 < 3 * (A 185 - 1) := by omega
    have d1 : 0 ≤ 144 + l2 ∧ 144 + l2 < 4994 := by omega
    have d2 : 0 ≤ 144 + l2 + 3 ∧ 144 + l2 + 3 < 4994 := by omega
    have e : B_Mo_drop_26 68 l2 x = some (Sum.inl (l2 + 1, (mup x.1 70 (144 + l2) (A (144 + l2 + 3)), x.2))) := wpo_is (by
      unfold B_Mo_drop_26
      simp (maxSteps := 5000000) (disch := first | assumption | omega) only [wpo_bind, wpo_some, wpo_gf, wpo_gk, wpo_ld, wpo_pf, wpo_pz, wpo_sd, wpo_sr, wpo_ln, wpo_idv, wpo_irm, wpo_lrm, wpo_ldv, wpo_cpy, mlet, mnar_int, mup_same, mup_cell, mup_slot, ite_true, ite_false, true_and, and_true, eq_self, or_true, true_or, and_self, Int.reduceLT, Int.reduceLE, Int.reduceEq, Int.reduceNe, Int.reduceAdd, Int.reduceSub, Int.reduceMul, Int.reduceNeg, ne_eq, not_false_eq_true, not_true_eq_false, false_or, or_false, zor_inl, zor_inr, Bool.false_eq_true, false_and, and_false, zk1, zk2, zk3, zk4, zk5, zk6, zk7, zk8, zk9, zk10, zk11, zk12, zk13, zk14, zk15, zk16, zk17, zk18, zk19, zk20, zk21, zk22, zk23, zk24, zk25, zk26, zk27, zk28, zk29, zk30, zk31, zk32, zk33, zk34, zk35, zk36, zk37, zk38, zk39, zk40, zk41, zk42, zk43, zk44, zk45, zk46, zk47, zk48, zk49, zk50, zk51, zk52, zk53, zk54, zk55, zk56, zk57, zk58, zk59, zk60, zk61, zk62, zk63, zk64, zk65, zk66, zk67, zk68, zk69, zk70, zk71, zk72, zk73, zk74, zk75, zk76, zk77, zk78, zk79, zk80, zk81, zk82, zk83, zk84, zk85, zk86, zk87, zk88, zk89, zk90, zr2_0, zr2_1, zr2_2, zr2_3, zr2_4, zr2_6, zr2_7, zr2_10, zr2_11, zr2_12, zr1_0, zr1_1, zr14_0, zr14_1, zr14_2, zr14_3, zr14_4, zr14_6, zr14_7, zr14_10, zr14_11, zr14_12, zr13_0, zr25_0, zr25_1, zr25_2, zr25_3, zr25_4, zr25_6, zr25_7, zr25_10, zr25_11, zr25_12, zr13_1, zr1_2, zr37_0, zr1_3, zr39_0, zr39_1, zr39_2, zr39_5, zr39_7, zr39_8, zr1_4, zr46_1, zr46_2, zr46_3, zr46_4, zr46_0, zr1_5, zr51_2, zr51_10, zr51_0, zr51_1, zr54_1, zr54_2, zr54_3, zr1_6, zr58_1, zr58_2, zr58_3, zr58_0, zr1_7, zr62_2, zr62_3, zr62_0, zr62_1, zr1_8, zr1_9, zr1_10, zr1_15, zr68_2, zr68_3, zr68_4, zr68_5, zr68_7, zr68_8, zr68_9, zr68_12, zr68_13, zr68_14, zr68_22, zr68_23, zr68_24, zr68_26, zr68_35, zr68_36, zr68_37, zr68_38, zr68_39, zr68_40, zr68_41, zr68_42, x185, w1, w2, w3, w4, c, d1, d2, xv])
    refine ⟨_, e, ?_, zB_mup z1 (zokr_arr (by decide +kernel)), z2, fun u hu => ?_, ?_⟩
    · show l2 + 1 = 3 * s + ((m + 1 : Nat) : Int)
      omega
    · show mup x.1 70 (144 + l2) (A (144 + l2 + 3)) u = _
      rw [mup_fun hu]; exact z3 u hu
    · funext j
      show mup x.1 70 (144 + l2) (A (144 + l2 + 3)) 70 j = _
      rw [mup_if, x70k]
      unfold zDpq
      by_cases cj : j = 144 + l2
      · rw [if_pos cj, if_pos (by omega), cj]
      · rw [if_neg cj]
        by_cases ci : 144 + 3 * s ≤ j ∧ j < 144 + 3 * s + (m : Int)
        · rw [if_pos ci, if_pos (by omega)]
        · rw [if_neg ci, if_neg (c := 144 + 3 * s ≤ j ∧ j < 144 + 3 * s + ((m + 1 : Nat) : Int)) (by omega)]
  · intro y ⟨y1, hz⟩
    obtain ⟨l2, x⟩ := y
    simp only at y1 hz
    have hBx := hz.1
    have x185 : x.1 70 185 = A 185 - 1 := by rw [hz.2.2.2]; exact zDpq_n s0 (by omega)
    have w2 : ∀ u : Int, u = A 185 - 1 → w32 (3 * u) = 3 * (A 185 - 1) := fun u hu => by rw [w32_in (by omega) (by omega)]; omega
    have c : ¬ l2 < 3 * (A 185 - 1) := by omega
    have gd := f_good2 (v := A 185 - 1) hz v68 vk
    have e : B_Mo_drop_26 68 l2 x = some (Sum.inr (A 185 - 1, (mup (mup x.1 68 0 0) 68 1 (vv + 1), x.2))) := wpo_is (by
      unfold B_Mo_drop_26
      simp (maxSteps := 5000000) (disch := first | assumption | omega) only [wpo_bind, wpo_some, wpo_gf, wpo_gk, wpo_ld, wpo_pf, wpo_pz, wpo_sd, wpo_sr, wpo_ln, wpo_idv, wpo_irm, wpo_lrm, wpo_ldv, wpo_cpy, mlet, mnar_int, mup_same, mup_cell, mup_slot, ite_true, ite_false, true_and, and_true, eq_self, or_true, true_or, and_self, Int.reduceLT, Int.reduceLE, Int.reduceEq, Int.reduceNe, Int.reduceAdd, Int.reduceSub, Int.reduceMul, Int.reduceNeg, ne_eq, not_false_eq_true, not_true_eq_false, false_or, or_false, zor_inl, zor_inr, Bool.false_eq_true, false_and, and_false, zk1, zk2, zk3, zk4, zk5, zk6, zk7, zk8, zk9, zk10, zk11, zk12, zk13, zk14, zk15, zk16, zk17, zk18, zk19, zk20, zk21, zk22, zk23, zk24, zk25, zk26, zk27, zk28, zk29, zk30, zk31, zk32, zk33, zk34, zk35, zk36, zk37, zk38, zk39, zk40, zk41, zk42, zk43, zk44, zk45, zk46, zk47, zk48, zk49, zk50, zk51, zk52, zk53, zk54, zk55, zk56, zk57, zk58, zk59, zk60, zk61, zk62, zk63, zk64, zk65, zk66, zk67, zk68, zk69, zk70, zk71, zk72, zk73, zk74, zk75, zk76, zk77, zk78, zk79, zk80, zk81, zk82, zk83, zk84, zk85, zk86, zk87, zk88, zk89, zk90, zr2_0, zr2_1, zr2_2, zr2_3, zr2_4, zr2_6, zr2_7, zr2_10, zr2_11, zr2_12, zr1_0, zr1_1, zr14_0, zr14_1, zr14_2, zr14_3, zr14_4, zr14_6, zr14_7, zr14_10, zr14_11, zr14_12, zr13_0, zr25_0, zr25_1, zr25_2, zr25_3, zr25_4, zr25_6, zr25_7, zr25_10, zr25_11, zr25_12, zr13_1, zr1_2, zr37_0, zr1_3, zr39_0, zr39_1, zr39_2, zr39_5, zr39_7, zr39_8, zr1_4, zr46_1, zr46_2, zr46_3, zr46_4, zr46_0, zr1_5, zr51_2, zr51_10, zr51_0, zr51_1, zr54_1, zr54_2, zr54_3, zr1_6, zr58_1, zr58_2, zr58_3, zr58_0, zr1_7, zr62_2, zr62_3, zr62_0, zr62_1, zr1_8, zr1_9, zr1_10, zr1_15, zr68_2, zr68_3, zr68_4, zr68_5, zr68_7, zr68_8, zr68_9, zr68_12, zr68_13, zr68_14, zr68_22, zr68_23, zr68_24, zr68_26, zr68_35, zr68_36, zr68_37, zr68_38, zr68_39, zr68_40, zr68_41, zr68_42, x185, w2, c, gd])
    exact ⟨_, e, x, hz, rfl⟩
set_option maxHeartbeats 4000000 in
theorem s_drop (k : Nat) (hk : k ≤ 1000) (s : Int) : zStp k (M_RW_drop 1 s) (M_Mo_drop 68 s) := by
  intro D A σ hI
  have hB := hI.1.1.1
  have hW := hI.1.1.2.1
  have hR := hI.1.1.2.2.1
  have h70 := hI.2.1.2.2.2.1
  have vk := hI.2.1.2.2.2.2.2.1
  have n10 : ¬ (1 : Int) = 0 := by decide
  have sb := hW.2.2.2.2.2.1
  have h13 : σ.1 2 13 = A 185 := hR.2.2.2.2.2.2.2
  have w1 : ∀ u : Int, u = A 185 → w32 (u - 1) = A 185 - 1 := fun u hu => by rw [w32_in (by omega) (by omega)]; omega
  by_cases c : 0 ≤ s ∧ s ≤ A 185 - 1
  · have s0 := c.1
    have s1 : s < A 185 := by omega
    have hm : 3 * s + 3 * (A 185 - 1 - s) ≤ 36 := by omega
    have o : ∀ j, (j < 144 ∨ 180 ≤ j) → j ≠ 185 → zDpq A s (3 * (A 185 - 1 - s)) j = A j := fun j x y => zDpq_o s0 hm x y
    refine zBoth (A' := zDpq A s (3 * (A 185 - 1 - s))) (v := A 185 - 1) hI hk (zWF_dp hW s0 s1) (fun j _ _ => o j (by omega) (by omega)) (o 186 (by omega) (by omega)) ?_ (fun X xB x70 xf => ?_)
    · obtain ⟨Y, eY, y1, y2, y3, y4, y5⟩ := d_removeSight hB h13 sb.2 s0 s1
      have ac := e_accept (v := A 185 - 1) y1
      have y13 : Y.1 2 13 = A 185 - 1 := by rw [y4, if_pos rfl]
      refine wpo_mono (Q := fun q => q = (A 185 - 1, (mup (mup Y.1 1 14 0) 58 4 0, Y.2))) ?_ (fun q hq => ⟨Y, ⟨y1, y2, fun u a b => y3 u (by omega) (by omega) (by omega) (by omega), y3 9 (by decide) (by decide) (by decide) (by decide), ?_, ?_⟩, hq⟩)
      · unfold M_RW_drop
        simp (maxSteps := 5000000) (disch := first | assumption | omega) only [wpo_bind, wpo_some, wpo_gf, wpo_gk, wpo_ld, wpo_pf, wpo_pz, wpo_sd, wpo_sr, wpo_ln, wpo_idv, wpo_irm, wpo_lrm, wpo_ldv, wpo_cpy, mlet, mnar_int, mup_same, mup_cell, mup_slot, ite_true, ite_false, true_and, and_true, eq_self, or_true, true_or, and_self, Int.reduceLT, Int.reduceLE, Int.reduceEq, Int.reduceNe, Int.reduceAdd, Int.reduceSub, Int.reduceMul, Int.reduceNeg, ne_eq, not_false_eq_true, not_true_eq_false, false_or, or_false, zor_inl, zor_inr, Bool.false_eq_true, false_and, and_false, zk1, zk2, zk3, zk4, zk5, zk6, zk7, zk8, zk9, zk10, zk11, zk12, zk13, zk14, zk15, zk16, zk17, zk18, zk19, zk20, zk21, zk22, zk23, zk24, zk25, zk26, zk27, zk28, zk29, zk30, zk31, zk32, zk33, zk34, zk35, zk36, zk37, zk38, zk39, zk40, zk41, zk42, zk43, zk44, zk45, zk46, zk47, zk48, zk49, zk50, zk51, zk52, zk53, zk54, zk55, zk56, zk57, zk58, zk59, zk60, zk61, zk62, zk63, zk64, zk65, zk66, zk67, zk68, zk69, zk70, zk71, zk72, zk73, zk74, zk75, zk76, zk77, zk78, zk79, zk80, zk81, zk82, zk83, zk84, zk85, zk86, zk87, zk88, zk89, zk90, zr2_0, zr2_1, zr2_2, zr2_3, zr2_4, zr2_6, zr2_7, zr2_10, zr2_11, zr2_12, zr1_0, zr1_1, zr14_0, zr14_1, zr14_2, zr14_3, zr14_4, zr14_6, zr14_7, zr14_10, zr14_11, zr14_12, zr13_0, zr25_0, zr25_1, zr25_2, zr25_3, zr25_4, zr25_6, zr25_7, zr25_10, zr25_11, zr25_12, zr13_1, zr1_2, zr37_0, zr1_3, zr39_0, zr39_1, zr39_2, zr39_5, zr39_7, zr39_8, zr1_4, zr46_1, zr46_2, zr46_3, zr46_4, zr46_0, zr1_5, zr51_2, zr51_10, zr51_0, zr51_1, zr54_1, zr54_2, zr54_3, zr1_6, zr58_1, zr58_2, zr58_3, zr58_0, zr1_7, zr62_2, zr62_3, zr62_0, zr62_1, zr1_8, zr1_9, zr1_10, zr1_15, zr68_2, zr68_3, zr68_4, zr68_5, zr68_7, zr68_8, zr68_9, zr68_12, zr68_13, zr68_14, zr68_22, zr68_23, zr68_24, zr68_26, zr68_35, zr68_36, zr68_37, zr68_38, zr68_39, zr68_40, zr68_41, zr68_42, h13, w1, e_within, c, n10, eY, y13, ac]
      · have f : ∀ u, u ≠ 2 ∧ u ≠ 10 ∧ u ≠ 11 ∧ u ≠ 12 → Y.1 u = σ.1 u := fun u x => y3 u x.1 x.2.1 x.2.2.1 x.2.2.2
        obtain ⟨o1, o2, o3, o4, o5, o6, o7, o8⟩ := hR
        refine ⟨fun j j0 j1 => ?_, fun u u0 u1 => ?_, ?_, fun j j0 j1 => ?_, ?_, ?_, fun j j0 j1 => ?_, ?_⟩
        · show Y.1 3 j = _ ∧ Y.1 4 j = _ ∧ Y.1 5 j = _
          rw [f 3 (by decide), f 4 (by decide), f 5 (by decide), o j (by omega) (by omega), o (64 + j) (by omega) (by omega), ztA_cg (o 184 (by omega) (by omega)) (fun u u0 u1 => o _ (by have := hW.2.1; omega) (by have := hW.2.1; omega))]
          exact o1 j j0 j1
        · show Y.1 6 u = _ ∧ Y.1 7 u = _
          rw [f 6 (by decide), f 7 (by decide), o _ (by omega) (by omega), o (136 + u) (by omega) (by omega)]
          exact o2 u u0 u1
        · rw [y4, if_neg (by decide), o 184 (by omega) (by omega)]; exact o3
        · show Y.1 8 j = _
          rw [f 8 (by decide), o _ (by omega) (by omega)]; exact o4 j j0 j1
        · rw [y4, if_neg (by decide), o 186 (by omega) (by omega)]; exact o5
        · rw [y4, if_neg (by decide), o 187 (by omega) (by omega)]; exact o6
        · show Y.1 10 j = _ ∧ Y.1 11 j = _ ∧ Y.1 12 j = _
          have oj := o7 j j0 j1
          have oj1 : σ.1 10 j = A (144 + 3 * j) := oj.1
          have oj2 : σ.1 11 j = A (145 + 3 * j) := oj.2.1
          have oj3 : σ.1 12 j = A (146 + 3 * j) := oj.2.2
          rw [y5 10 (by decide), y5 11 (by decide), y5 12 (by decide), zDpq_s s0 s1 sb.2 j0 j1 (by decide), zDpq_s s0 s1 sb.2 j0 j1 (by decide), zDpq_s s0 s1 sb.2 j0 j1 (by decide)]
          by_cases cj : s ≤ j ∧ j < A 185 - 1
          · have ok := o7 (j + 1) (by omega) (by omega)
            rw [if_pos cj, if_pos cj, if_pos cj, if_pos cj, if_pos cj, if_pos cj]
            exact ok
          · rw [if_neg cj, if_neg cj, if_neg cj, if_neg cj, if_neg cj, if_neg cj]
            exact oj
        · rw [y4, if_pos rfl, zDpq_n s0 hm]
      · intro j j0 j1
        rw [y3 48 (by decide) (by decide) (by decide) (by decide)]
        refine ⟨Int.le_refl _, by omega, fun _ s' u => ?_⟩
        unfold zWd
        rw [o 187 (by omega) (by omega), o j (by omega) (by omega), o (64 + j) (by omega) (by omega)]
    · have b1 := zB_mup (r := 70) (i := 185) (v := A 185 - 1) xB (zokr_arr (by decide +kernel))
      have x70k : ∀ j, X.1 70 j = A j := fun j => by rw [x70]
      have w2 : ∀ u : Int, u = s → w32 (3 * u) = 3 * s := fun u hu => by rw [w32_in (by omega) (by omega)]; omega
      have key := r_drop (A := A) (s := s) (vv := σ.1 68 1) (X := (mup X.1 70 185 (A 185 - 1), X.2)) b1 (by
        funext j
        show mup X.1 70 185 (A 185 - 1) 70 j = _
        rw [mup_if, x70k]
        unfold zDpq
        rw [if_neg (c := 144 + 3 * s ≤ j ∧ j < 144 + 3 * s + 0) (by omega)]) (by show mup X.1 70 185 (A 185 - 1) 68 1 = _; rw [mup_cell (by decide)]; exact congrFun (xf 68 (by decide) (by decide)) 1) vk sb.2 s0 s1
      have key2 : wpo (M_Mo_drop_26 68 (3 * s) (mup X.1 70 185 (A 185 - 1), X.2)) (fun z => ∃ Z, zPZ (zDpq A s (3 * (A 185 - 1 - s))) X Z ∧ z = (A 185 - 1, (mup (mup Z.1 68 0 0) 68 1 (σ.1 68 1 + 1), Z.2))) := by
        refine wpo_mono key ?_
        intro z ⟨Z, ⟨z1, z2, z3, z4⟩, hz⟩
        exact ⟨Z, ⟨z1, z2, fun u hu => (z3 u hu).trans (mup_fun hu), z4⟩, hz⟩
      clear key
      generalize (fun z => ∃ Z, zPZ (zDpq A s (3 * (A 185 - 1 - s))) X Z ∧ z = (A 185 - 1, (mup (mup Z.1 68 0 0) 68 1 (σ.1 68 1 + 1), Z.2))) = Q at *
      unfold M_Mo_drop
      simp (maxSteps := 5000000) (disch := first | assumption | omega) only [wpo_bind, wpo_some, wpo_gf, wpo_gk, wpo_ld, wpo_pf, wpo_pz, wpo_sd, wpo_sr, wpo_ln, wpo_idv, wpo_irm, wpo_lrm, wpo_ldv, wpo_cpy, mlet, mnar_int, mup_same, mup_cell, mup_slot, ite_true, ite_false, true_and, and_true, eq_self, or_true, true_or, and_self, Int.reduceLT, Int.reduceLE, Int.reduceEq, Int.reduceNe, Int.reduceAdd, Int.reduceSub, Int.reduceMul, Int.reduceNeg, ne_eq, not_false_eq_true, not_true_eq_false, false_or, or_false, zor_inl, zor_inr, Bool.false_eq_true, false_and, and_false, zk1, zk2, zk3, zk4, zk5, zk6, zk7, zk8, zk9, zk10, zk11, zk12, zk13, zk14, zk15, zk16, zk17, zk18, zk19, zk20, zk21, zk22, zk23, zk24, zk25, zk26, zk27, zk28, zk29, zk30, zk31, zk32, zk33, zk34, zk35, zk36, zk37, zk38, zk39, zk40, zk41, zk42, zk43, zk44, zk45, zk46, zk47, zk48, zk49, zk50, zk51, zk52, zk53, zk54, zk55, zk56, zk57, zk58, zk59, zk60, zk61, zk62, zk63, zk64, zk65, zk66, zk67, zk68, zk69, zk70, zk71, zk72, zk73, zk74, zk75, zk76, zk77, zk78, zk79, zk80, zk81, zk82, zk83, zk84, zk85, zk86, zk87, zk88, zk89, zk90, zr2_0, zr2_1, zr2_2, zr2_3, zr2_4, zr2_6, zr2_7, zr2_10, zr2_11, zr2_12, zr1_0, zr1_1, zr14_0, zr14_1, zr14_2, zr14_3, zr14_4, zr14_6, zr14_7, zr14_10, zr14_11, zr14_12, zr13_0, zr25_0, zr25_1, zr25_2, zr25_3, zr25_4, zr25_6, zr25_7, zr25_10, zr25_11, zr25_12, zr13_1, zr1_2, zr37_0, zr1_3, zr39_0, zr39_1, zr39_2, zr39_5, zr39_7, zr39_8, zr1_4, zr46_1, zr46_2, zr46_3, zr46_4, zr46_0, zr1_5, zr51_2, zr51_10, zr51_0, zr51_1, zr54_1, zr54_2, zr54_3, zr1_6, zr58_1, zr58_2, zr58_3, zr58_0, zr1_7, zr62_2, zr62_3, zr62_0, zr62_1, zr1_8, zr1_9, zr1_10, zr1_15, zr68_2, zr68_3, zr68_4, zr68_5, zr68_7, zr68_8, zr68_9, zr68_12, zr68_13, zr68_14, zr68_22, zr68_23, zr68_24, zr68_26, zr68_35, zr68_36, zr68_37, zr68_38, zr68_39, zr68_40, zr68_41, zr68_42, x70k, w1, w2, e_lies, c, n10]
      exact key2
  · refine zRefu (by' := -2) (m := 2) hI hk (by decide) (by decide) (fun rf => ?_) (fun σ1 hB1 xf rf => ?_)
    · unfold M_RW_drop
      simp (maxSteps := 5000000) (disch := first | assumption | omega) only [wpo_bind, wpo_some, wpo_gf, wpo_gk, wpo_ld, wpo_pf, wpo_pz, wpo_sd, wpo_sr, wpo_ln, wpo_idv, wpo_irm, wpo_lrm, wpo_ldv, wpo_cpy, mlet, mnar_int, mup_same, mup_cell, mup_slot, ite_true, ite_false, true_and, and_true, eq_self, or_true, true_or, and_self, Int.reduceLT, Int.reduceLE, Int.reduceEq, Int.reduceNe, Int.reduceAdd, Int.reduceSub, Int.reduceMul, Int.reduceNeg, ne_eq, not_false_eq_true, not_true_eq_false, false_or, or_false, zor_inl, zor_inr, Bool.false_eq_true, false_and, and_false, zk1, zk2, zk3, zk4, zk5, zk6, zk7, zk8, zk9, zk10, zk11, zk12, zk13, zk14, zk15, zk16, zk17, zk18, zk19, zk20, zk21, zk22, zk23, zk24, zk25, zk26, zk27, zk28, zk29, zk30, zk31, zk32, zk33, zk34, zk35, zk36, zk37, zk38, zk39, zk40, zk41, zk42, zk43, zk44, zk45, zk46, zk47, zk48, zk49, zk50, zk51, zk52, zk53, zk54, zk55, zk56, zk57, zk58, zk59, zk60, zk61, zk62, zk63, zk64, zk65, zk66, zk67, zk68, zk69, zk70, zk71, zk72, zk73, zk74, zk75, zk76, zk77, zk78, zk79, zk80, zk81, zk82, zk83, zk84, zk85, zk86, zk87, zk88, zk89, zk90, zr2_0, zr2_1, zr2_2, zr2_3, zr2_4, zr2_6, zr2_7, zr2_10, zr2_11, zr2_12, zr1_0, zr1_1, zr14_0, zr14_1, zr14_2, zr14_3, zr14_4, zr14_6, zr14_7, zr14_10, zr14_11, zr14_12, zr13_0, zr25_0, zr25_1, zr25_2, zr25_3, zr25_4, zr25_6, zr25_7, zr25_10, zr25_11, zr25_12, zr13_1, zr1_2, zr37_0, zr1_3, zr39_0, zr39_1, zr39_2, zr39_5, zr39_7, zr39_8, zr1_4, zr46_1, zr46_2, zr46_3, zr46_4, zr46_0, zr1_5, zr51_2, zr51_10, zr51_0, zr51_1, zr54_1, zr54_2, zr54_3, zr1_6, zr58_1, zr58_2, zr58_3, zr58_0, zr1_7, zr62_2, zr62_3, zr62_0, zr62_1, zr1_8, zr1_9, zr1_10, zr1_15, zr68_2, zr68_3, zr68_4, zr68_5, zr68_7, zr68_8, zr68_9, zr68_12, zr68_13, zr68_14, zr68_22, zr68_23, zr68_24, zr68_26, zr68_35, zr68_36, zr68_37, zr68_38, zr68_39, zr68_40, zr68_41, zr68_42, h13, w1, e_within, c, rf]
    · have x70 : σ1.1 70 = A := (xf 70 (by decide) (by decide)).trans h70
      have x70k : ∀ j, σ1.1 70 j = A j := fun j => by rw [x70]
      unfold M_Mo_drop
      simp (maxSteps := 5000000) (disch := first | assumption | omega) only [wpo_bind, wpo_some, wpo_gf, wpo_gk, wpo_ld, wpo_pf, wpo_pz, wpo_sd, wpo_sr, wpo_ln, wpo_idv, wpo_irm, wpo_lrm, wpo_ldv, wpo_cpy, mlet, mnar_int, mup_same, mup_cell, mup_slot, ite_true, ite_false, true_and, and_true, eq_self, or_true, true_or, and_self, Int.reduceLT, Int.reduceLE, Int.reduceEq, Int.reduceNe, Int.reduceAdd, Int.reduceSub, Int.reduceMul, Int.reduceNeg, ne_eq, not_false_eq_true, not_true_eq_false, false_or, or_false, zor_inl, zor_inr, Bool.false_eq_true, false_and, and_false, zk1, zk2, zk3, zk4, zk5, zk6, zk7, zk8, zk9, zk10, zk11, zk12, zk13, zk14, zk15, zk16, zk17, zk18, zk19, zk20, zk21, zk22, zk23, zk24, zk25, zk26, zk27, zk28, zk29, zk30, zk31, zk32, zk33, zk34, zk35, zk36, zk37, zk38, zk39, zk40, zk41, zk42, zk43, zk44, zk45, zk46, zk47, zk48, zk49, zk50, zk51, zk52, zk53, zk54, zk55, zk56, zk57, zk58, zk59, zk60, zk61, zk62, zk63, zk64, zk65, zk66, zk67, zk68, zk69, zk70, zk71, zk72, zk73, zk74, zk75, zk76, zk77, zk78, zk79, zk80, zk81, zk82, zk83, zk84, zk85, zk86, zk87, zk88, zk89, zk90, zr2_0, zr2_1, zr2_2, zr2_3, zr2_4, zr2_6, zr2_7, zr2_10, zr2_11, zr2_12, zr1_0, zr1_1, zr14_0, zr14_1, zr14_2, zr14_3, zr14_4, zr14_6, zr14_7, zr14_10, zr14_11, zr14_12, zr13_0, zr25_0, zr25_1, zr25_2, zr25_3, zr25_4, zr25_6, zr25_7, zr25_10, zr25_11, zr25_12, zr13_1, zr1_2, zr37_0, zr1_3, zr39_0, zr39_1, zr39_2, zr39_5, zr39_7, zr39_8, zr1_4, zr46_1, zr46_2, zr46_3, zr46_4, zr46_0, zr1_5, zr51_2, zr51_10, zr51_0, zr51_1, zr54_1, zr54_2, zr54_3, zr1_6, zr58_1, zr58_2, zr58_3, zr58_0, zr1_7, zr62_2, zr62_3, zr62_0, zr62_1, zr1_8, zr1_9, zr1_10, zr1_15, zr68_2, zr68_3, zr68_4, zr68_5, zr68_7, zr68_8, zr68_9, zr68_12, zr68_13, zr68_14, zr68_22, zr68_23, zr68_24, zr68_26, zr68_35, zr68_36, zr68_37, zr68_38, zr68_39, zr68_40, zr68_41, zr68_42, x70k, w1, e_lies, c, rf]
