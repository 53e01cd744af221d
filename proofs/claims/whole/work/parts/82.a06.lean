/-! FEED -/
theorem iand_255 {x : Int} (h1 : -2147483648 ≤ x) (h2 : x ≤ 2147483647) : 0 ≤ iand x 255 ∧ iand x 255 < 256 ∧ w8 (iand x 255) = w8 x := by
  have e : iand x 255 = (((x % 4294967296).toNat % 256 : Nat) : Int) := by
    unfold iand
    have h : (Int32.ofInt x &&& Int32.ofInt 255).toBitVec.toNat = (x % 4294967296).toNat % 256 := by
      rw [Int32.toBitVec_and, BitVec.toNat_and, i32_nat h1 h2]
      have e2 : (Int32.ofInt 255).toBitVec.toNat = 2 ^ 8 - 1 := by decide
      rw [e2, Nat.and_two_pow_sub_one_eq_mod]
    have lt : (x % 4294967296).toNat % 256 < 256 := Nat.mod_lt _ (by decide)
    generalize (x % 4294967296).toNat % 256 = z at *
    generalize Int32.ofInt x &&& Int32.ofInt 255 = y at *
    show y.toBitVec.toInt = _
    rw [BitVec.toInt_eq_toNat_of_lt (by omega), h]
  have e3 : (((x % 4294967296).toNat % 256 : Nat) : Int) = x % 256 := by omega
  rw [e, e3]
  refine ⟨by omega, by omega, ?_⟩
  unfold w8
  omega
theorem ishr_bd (x y : Int) : -2147483648 ≤ ishr x y ∧ ishr x y ≤ 2147483647 := by
  unfold ishr
  generalize Int32.ofInt x >>> (Int32.ofInt y &&& 31) = z
  have a := Int32.le_toInt z
  have b := Int32.toInt_lt z
  omega
def zBy (v s : Int) : Int := iand (ishr v s) 255
theorem zBy_ok (v s : Int) : w8 (w8 (ishr v s)) = w8 (zBy v s) ∧ 0 ≤ zBy v s ∧ zBy v s < 256 := by
  have b := ishr_bd v s
  have a := iand_255 b.1 b.2
  refine ⟨?_, a.1, a.2.1⟩
  have e : w8 (zBy v s) = w8 (ishr v s) := a.2.2
  rw [e]
  generalize ishr v s = u
  unfold w8
  omega
set_option maxHeartbeats 4000000 in
theorem d_append {σ : mS} {v L : Int} (hB : zB σ) (hL : σ.1 37 1 = L) (l0 : 0 ≤ L) (l1 : L + 4 ≤ 400) : ∃ Y : mS, M_Tape_append 37 v σ = some (0, Y) ∧ zB Y ∧ Y.2 = σ.2 ∧ (∀ u, u ≠ 37 → u ≠ 38 → Y.1 u = σ.1 u) ∧ Y.1 37 1 = L + 4 ∧ ∀ j, Y.1 38 j = if L ≤ j ∧ j < L + 4 then zBy v (24 - 8 * (j - L)) else σ.1 38 j := by
  have key : wpo (M_Tape_append 37 v σ) (fun q => q.1 = 0 ∧ zB q.2 ∧ q.2.2 = σ.2 ∧ (∀ u, u ≠ 37 → u ≠ 38 → q.2.1 u = σ.1 u) ∧ q.2.1 37 1 = L + 4 ∧ ∀ j, q.2.1 38 j = if L ≤ j ∧ j < L + 4 then zBy v (24 - 8 * (j - L)) else σ.1 38 j) := by
    unfold M_Tape_append M_Tape_append_2
    refine loopN (fun m y => y.1 = 24 - 8 * (m : Int) ∧ zB y.2 ∧ y.2.2 = σ.2 ∧ (∀ u, u ≠ 37 → u ≠ 38 → y.2.1 u = σ.1 u) ∧ y.2.1 37 1 = L + (m : Int) ∧ ∀ j, y.2.1 38 j = if L ≤ j ∧ j < L + (m : Int) then zBy v (24 - 8 * (j - L)) else σ.1 38 j) 4 _ _ (by decide) ⟨rfl, hB, rfl, fun u _ _ => rfl, by show σ.1 37 1 = L + ((0 : Nat) : Int); omega, fun j => by rw [if_neg (by omega)]⟩ ?_ ?_
    · intro m y hm ⟨y1, y2, y3, y4, y5, y6⟩
      obtain ⟨l2, s⟩ := y
      simp only at y1 y2 y3 y4 y5 y6
      have c1 : ¬ l2 < 0 := by omega
      have c2 : L + (m : Int) < 400 := by omega
      have c3 : 0 ≤ L + (m : Int) := by omega
      have w1 : ∀ u : Int, u = L + (m : Int) → w32 (u + 1) = L + (m : Int) + 1 := fun u hu => by rw [w32_in (by omega) (by omega)]; omega
      have w2 : ∀ u : Int, u = l2 → w32 (u + -8) = l2 - 8 := fun u hu => by rw [w32_in (by omega) (by omega)]; omega
      have b1 := zB_mup (r := 38) (i := L + (m : Int)) (v := zBy v l2) y2 (zokr_arr (by decide +kernel))
      have b2 := zB_mup (r := 37) (i := 1) (v := L + (m : Int) + 1) b1 (by decide +kernel)
      have eb : iand (ishr v l2) 255 = zBy v l2 := rfl
      have e : B_Tape_append_2 37 v l2 s = some (Sum.inl (l2 - 8, (mup (mup s.1 38 (L + (m : Int)) (zBy v l2)) 37 1 (L + (m : Int) + 1), s.2))) := wpo_is (by
        unfold B_Tape_append_2
        simp (maxSteps := 5000000) (disch := first | assumption | omega) only [wpo_bind, wpo_some, wpo_gf, wpo_gk, wpo_ld, wpo_pf, wpo_pz, wpo_sd, wpo_sr, wpo_ln, wpo_idv, wpo_irm, wpo_lrm, wpo_ldv, wpo_cpy, mlet, mnar_int, mup_same, mup_cell, mup_slot, ite_true, ite_false, true_and, and_true, eq_self, or_true, true_or, and_self, Int.reduceLT, Int.reduceLE, Int.reduceEq, Int.reduceNe, Int.reduceAdd, Int.reduceSub, Int.reduceMul, Int.reduceNeg, ne_eq, not_false_eq_true, not_true_eq_false, false_or, or_false, zor_inl, zor_inr, Bool.false_eq_true, false_and, and_false, zk1, zk2, zk3, zk4, zk5, zk6, zk7, zk8, zk9, zk10, zk11, zk12, zk13, zk14, zk15, zk16, zk17, zk18, zk19, zk20, zk21, zk22, zk23, zk24, zk25, zk26, zk27, zk28, zk29, zk30, zk31, zk32, zk33, zk34, zk35, zk36, zk37, zk38, zk39, zk40, zk41, zk42, zk43, zk44, zk45, zk46, zk47, zk48, zk49, zk50, zk51, zk52, zk53, zk54, zk55, zk56, zk57, zk58, zk59, zk60, zk61, zk62, zk63, zk64, zk65, zk66, zk67, zk68, zk69, zk70, zk71, zk72, zk73, zk74, zk75, zk76, zk77, zk78, zk79, zk80, zk81, zk82, zk83, zk84, zk85, zk86, zk87, zk88, zk89, zk90, zr2_0, zr2_1, zr2_2, zr2_3, zr2_4, zr2_6, zr2_7, zr2_10, zr2_11, zr2_12, zr1_0, zr1_1, zr14_0, zr14_1, zr14_2, zr14_3, zr14_4, zr14_6, zr14_7, zr14_10, zr14_11, zr14_12, zr13_0, zr25_0, zr25_1, zr25_2, zr25_3, zr25_4, zr25_6, zr25_7, zr25_10, zr25_11, zr25_12, zr13_1, zr1_2, zr37_0, zr1_3, zr39_0, zr39_1, zr39_2, zr39_5, zr39_7, zr39_8, zr1_4, zr46_1, zr46_2, zr46_3, zr46_4, zr46_0, zr1_5, zr51_2, zr51_10, zr51_0, zr51_1, zr54_1, zr54_2, zr54_3, zr1_6, zr58_1, zr58_2, zr58_3, zr58_0, zr1_7, zr62_2, zr62_3, zr62_0, zr62_1, zr1_8, zr1_9, zr1_10, zr1_15, zr68_2, zr68_3, zr68_4, zr68_5, zr68_7, zr68_8, zr68_9, zr68_12, zr68_13, zr68_14, zr68_22, zr68_23, zr68_24, zr68_26, zr68_35, zr68_36, zr68_37, zr68_38, zr68_39, zr68_40, zr68_41, zr68_42, c1, y5, c2, c3, eb, w1, w2])
      refine ⟨_, e, ?_, b2, y3, fun u a b => ?_, ?_, fun j => ?_⟩
      · show l2 - 8 = 24 - 8 * ((m + 1 : Nat) : Int)
        omega
      · show mup (mup s.1 38 (L + (m : Int)) (zBy v l2)) 37 1 (L + (m : Int) + 1) u = _
        rw [mup_fun a, mup_fun b]; exact y4 u a b
      · show mup (mup s.1 38 (L + (m : Int)) (zBy v l2)) 37 1 (L + (m : Int) + 1) 37 1 = _
        rw [mup_same]
        omega
      · show mup (mup s.1 38 (L + (m : Int)) (zBy v l2)) 37 1 (L + (m : Int) + 1) 38 j = _
        rw [mup_cell (by decide), mup_if]
        by_cases cj : j = L + (m : Int)
        · rw [if_pos cj, if_pos (by omega)]
          exact congrArg (zBy v) (by omega)
        · rw [if_neg cj, y6]
          by_cases ci : L ≤ j ∧ j < L + (m : Int)
          · rw [if_pos ci, if_pos (by omega)]
          · rw [if_neg ci, if_neg (by omega)]
    · intro y ⟨y1, y2, y3, y4, y5, y6⟩
      obtain ⟨l2, s⟩ := y
      simp only at y1 y2 y3 y4 y5 y6
      have c1 : l2 < 0 := by omega
      have e : B_Tape_append_2 37 v l2 s = some (Sum.inr (0, s)) := wpo_is (by
        unfold B_Tape_append_2
        simp (maxSteps := 5000000) (disch := first | assumption | omega) only [wpo_bind, wpo_some, wpo_gf, wpo_gk, wpo_ld, wpo_pf, wpo_pz, wpo_sd, wpo_sr, wpo_ln, wpo_idv, wpo_irm, wpo_lrm, wpo_ldv, wpo_cpy, mlet, mnar_int, mup_same, mup_cell, mup_slot, ite_true, ite_false, true_and, and_true, eq_self, or_true, true_or, and_self, Int.reduceLT, Int.reduceLE, Int.reduceEq, Int.reduceNe, Int.reduceAdd, Int.reduceSub, Int.reduceMul, Int.reduceNeg, ne_eq, not_false_eq_true, not_true_eq_false, false_or, or_false, zor_inl, zor_inr, Bool.false_eq_true, false_and, and_false, zk1, zk2, zk3, zk4, zk5, zk6, zk7, zk8, zk9, zk10, zk11, zk12, zk13, zk14, zk15, zk16, zk17, zk18, zk19, zk20, zk21, zk22, zk23, zk24, zk25, zk26, zk27, zk28, zk29, zk30, zk31, zk32, zk33, zk34, zk35, zk36, zk37, zk38, zk39, zk40, zk41, zk42, zk43, zk44, zk45, zk46, zk47, zk48, zk49, zk50, zk51, zk52, zk53, zk54, zk55, zk56, zk57, zk58, zk59, zk60, zk61, zk62, zk63, zk64, zk65, zk66, zk67, zk68, zk69, zk70, zk71, zk72, zk73, zk74, zk75, zk76, zk77, zk78, zk79, zk80, zk81, zk82, zk83, zk84, zk85, zk86, zk87, zk88, zk89, zk90, zr2_0, zr2_1, zr2_2, zr2_3, zr2_4, zr2_6, zr2_7, zr2_10, zr2_11, zr2_12, zr1_0, zr1_1, zr14_0, zr14_1, zr14_2, zr14_3, zr14_4, zr14_6, zr14_7, zr14_10, zr14_11, zr14_12, zr13_0, zr25_0, zr25_1, zr25_2, zr25_3, zr25_4, zr25_6, zr25_7, zr25_10, zr25_11, zr25_12, zr13_1, zr1_2, zr37_0, zr1_3, zr39_0, zr39_1, zr39_2, zr39_5, zr39_7, zr39_8, zr1_4, zr46_1, zr46_2, zr46_3, zr46_4, zr46_0, zr1_5, zr51_2, zr51_10, zr51_0, zr51_1, zr54_1, zr54_2, zr54_3, zr1_6, zr58_1, zr58_2, zr58_3, zr58_0, zr1_7, zr62_2, zr62_3, zr62_0, zr62_1, zr1_8, zr1_9, zr1_10, zr1_15, zr68_2, zr68_3, zr68_4, zr68_5, zr68_7, zr68_8, zr68_9, zr68_12, zr68_13, zr68_14, zr68_22, zr68_23, zr68_24, zr68_26, zr68_35, zr68_36, zr68_37, zr68_38, zr68_39, zr68_40, zr68_41, zr68_42, c1])
      exact ⟨_, e, rfl, y2, y3, y4, y5, y6⟩
  obtain ⟨⟨u, Y⟩, e, e1, e2⟩ := key
  simp only at e1 e2
  subst e1
  exact ⟨Y, e, e2⟩
set_option maxHeartbeats 4000000 in
theorem r_feed {X : mS} {L : Int} (hB : zB X) (hL : X.1 68 10 = L) (l0 : 0 ≤ L) (l1 : L + 20 ≤ 400) : ∃ Z : mS, M_Mo_feed_35 68 0 X = some (L + 20, Z) ∧ zB Z ∧ Z.2 = X.2 ∧ (∀ u, u ≠ 68 → u ≠ 74 → Z.1 u = X.1 u) ∧ (∀ i, Z.1 68 i = if i = 10 then L + 20 else X.1 68 i) ∧ ∀ j, Z.1 74 j = if L ≤ j ∧ j < L + 20 then w8 (w8 (ishr (X.1 75 ((j - L) / 4)) (24 - 8 * ((j - L) % 4)))) else X.1 74 j := by
  have key : wpo (M_Mo_feed_35 68 0 X) (fun q => q.1 = L + 20 ∧ zB q.2 ∧ q.2.2 = X.2 ∧ (∀ u, u ≠ 68 → u ≠ 74 → q.2.1 u = X.1 u) ∧ (∀ i, q.2.1 68 i = if i = 10 then L + 20 else X.1 68 i) ∧ ∀ j, q.2.1 74 j = if L ≤ j ∧ j < L + 20 then w8 (w8 (ishr (X.1 75 ((j - L) / 4)) (24 - 8 * ((j - L) % 4)))) else X.1 74 j) := by
    unfold M_Mo_feed_35
    refine loopN (fun m y => y.1 = (m : Int) ∧ zB y.2 ∧ y.2.2 = X.2 ∧ (∀ u, u ≠ 74 → y.2.1 u = X.1 u) ∧ ∀ j, y.2.1 74 j = if L ≤ j ∧ j < L + (m : Int) then w8 (w8 (ishr (X.1 75 ((j - L) / 4)) (24 - 8 * ((j - L) % 4)))) else X.1 74 j) 20 _ _ (by decide) ⟨rfl, hB, rfl, fun u _ => rfl, fun j => by rw [if_neg (by omega)]⟩ ?_ ?_
    · intro m y hm ⟨y1, y2, y3, y4, y5⟩
      obtain ⟨l6, s⟩ := y
      simp only at y1 y2 y3 y4 y5
      have p0 : 0 ≤ l6 := by omega
      have c1 : l6 < 20 := by omega
      have s10 : s.1 68 10 = L := by rw [y4 68 (by decide)]; exact hL
      have td : Int.tdiv l6 4 = l6 / 4 := Int.tdiv_eq_ediv_of_nonneg p0
      have tm : Int.tmod l6 4 = l6 % 4 := Int.tmod_eq_emod_of_nonneg p0
      have d0 : 0 ≤ l6 / 4 := by omega
      have d1 : l6 / 4 < 5 := by omega
      have w1 : ∀ u : Int, u = l6 → w32 (u + 1) = l6 + 1 := fun u hu => by rw [w32_in (by omega) (by omega)]; omega
      have w2 : ∀ u : Int, u = l6 → w32 (L + u) = L + l6 := fun u hu => by rw [w32_in (by omega) (by omega)]; omega
      have w3 : ∀ u : Int, u = l6 / 4 → w32 u = l6 / 4 := fun u hu => by rw [w32_in (by omega) (by omega)]; omega
      have w4 : ∀ u : Int, u = l6 % 4 → w32 (8 * u) = 8 * (l6 % 4) := fun u hu => by rw [w32_in (by omega) (by omega)]; omega
      have w5 : ∀ u : Int, u = l6 % 4 → w32 (24 - 8 * u) = 24 - 8 * (l6 % 4) := fun u hu => by rw [w32_in (by omega) (by omega)]; omega
      have i0 : 0 ≤ L + l6 := by omega
      have i1 : L + l6 < 400 := by omega
      have s75 : ∀ u, s.1 75 u = X.1 75 u := fun u => by rw [y4 75 (by decide)]
      have nb : ∀ u : Int, mnar 101 u = w8 u := fun u => rfl
      have b1 := zB_mup (r := 74) (i := L + l6) (v := w8 (w8 (ishr (X.1 75 (l6 / 4)) (24 - 8 * (l6 % 4))))) y2 (zokr_arr (by decide +kernel))
      have e : B_Mo_feed_35 68 l6 s = some (Sum.inl (l6 + 1, (mup s.1 74 (L + l6) (w8 (w8 (ishr (X.1 75 (l6 / 4)) (24 - 8 * (l6 % 4))))), s.2))) := wpo_is (by
        unfold B_Mo_feed_35
        simp (maxSteps := 5000000) (disch := first | assumption | omega) only [wpo_bind, wpo_some, wpo_gf, wpo_gk, wpo_ld, wpo_pf, wpo_pz, wpo_sd, wpo_sr, wpo_ln, wpo_idv, wpo_irm, wpo_lrm, wpo_ldv, wpo_cpy, mlet, mnar_int, mup_same, mup_cell, mup_slot, ite_true, ite_false, true_and, and_true, eq_self, or_true, true_or, and_self, Int.reduceLT, Int.reduceLE, Int.reduceEq, Int.reduceNe, Int.reduceAdd, Int.reduceSub, Int.reduceMul, Int.reduceNeg, ne_eq, not_false_eq_true, not_true_eq_false, false_or, or_false, zor_inl, zor_inr, Bool.false_eq_true, false_and, and_false, zk1, zk2, zk3, zk4, zk5, zk6, zk7, zk8, zk9, zk10, zk11, zk12, zk13, zk14, zk15, zk16, zk17, zk18, zk19, zk20, zk21, zk22, zk23, zk24, zk25, zk26, zk27, zk28, zk29, zk30, zk31, zk32, zk33, zk34, zk35, zk36, zk37, zk38, zk39, zk40, zk41, zk42, zk43, zk44, zk45, zk46, zk47, zk48, zk49, zk50, zk51, zk52, zk53, zk54, zk55, zk56, zk57, zk58, zk59, zk60, zk61, zk62, zk63, zk64, zk65, zk66, zk67, zk68, zk69, zk70, zk71, zk72, zk73, zk74, zk75, zk76, zk77, zk78, zk79, zk80, zk81, zk82, zk83, zk84, zk85, zk86, zk87, zk88, zk89, zk90, zr2_0, zr2_1, zr2_2, zr2_3, zr2_4, zr2_6, zr2_7, zr2_10, zr2_11, zr2_12, zr1_0, zr1_1, zr14_0, zr14_1, zr14_2, zr14_3, zr14_4, zr14_6, zr14_7, zr14_10, zr14_11, zr14_12, zr13_0, zr25_0, zr25_1, zr25_2, zr25_3, zr25_4, zr25_6, zr25_7, zr25_10, zr25_11, zr25_12, zr13_1, zr1_2, zr37_0, zr1_3, zr39_0, zr39_1, zr39_2, zr39_5, zr39_7, zr39_8, zr1_4, zr46_1, zr46_2, zr46_3, zr46_4, zr46_0, zr1_5, zr51_2, zr51_10, zr51_0, zr51_1, zr54_1, zr54_2, zr54_3, zr1_6, zr58_1, zr58_2, zr58_3, zr58_0, zr1_7, zr62_2, zr62_3, zr62_0, zr62_1, zr1_8, zr1_9, zr1_10, zr1_15, zr68_2, zr68_3, zr68_4, zr68_5, zr68_7, zr68_8, zr68_9, zr68_12, zr68_13, zr68_14, zr68_22, zr68_23, zr68_24, zr68_26, zr68_35, zr68_36, zr68_37, zr68_38, zr68_39, zr68_40, zr68_41, zr68_42, c1, s10, td, tm, w3, d0, d1, s75, w4, w5, w2, i0, i1, nb, w1])
      refine ⟨_, e, ?_, b1, y3, fun u a => ?_, fun j => ?_⟩
      · show l6 + 1 = ((m + 1 : Nat) : Int)
        omega
      · show mup s.1 74 (L + l6) _ u = _
        rw [mup_fun a]; exact y4 u a
      · show mup s.1 74 (L + l6) (w8 (w8 (ishr (X.1 75 (l6 / 4)) (24 - 8 * (l6 % 4))))) 74 j = _
        rw [mup_if]
        by_cases cj : j = L + l6
        · rw [if_pos cj, if_pos (by omega)]
          have ej : j - L = l6 := by omega
          rw [ej]
        · rw [if_neg cj, y5]
          by_cases ci : L ≤ j ∧ j < L + (m : Int)
          · rw [if_pos ci, if_pos (by omega)]
          · rw [if_neg ci, if_neg (by omega)]
    · intro y ⟨y1, y2, y3, y4, y5⟩
      obtain ⟨l6, s⟩ := y
      simp only at y1 y2 y3 y4 y5
      have c1 : ¬ l6 < 20 := by omega
      have s10 : s.1 68 10 = L := by rw [y4 68 (by decide)]; exact hL
      have w2 : ∀ u : Int, u = L → w32 (u + 20) = L + 20 := fun u hu => by rw [w32_in (by omega) (by omega)]; omega
      have e : B_Mo_feed_35 68 l6 s = some (Sum.inr (L + 20, (mup s.1 68 10 (L + 20), s.2))) := wpo_is (by
        unfold B_Mo_feed_35
        simp (maxSteps := 5000000) (disch := first | assumption | omega) only [wpo_bind, wpo_some, wpo_gf, wpo_gk, wpo_ld, wpo_pf, wpo_pz, wpo_sd, wpo_sr, wpo_ln, wpo_idv, wpo_irm, wpo_lrm, wpo_ldv, wpo_cpy, mlet, mnar_int, mup_same, mup_cell, mup_slot, ite_true, ite_false, true_and, and_true, eq_self, or_true, true_or, and_self, Int.reduceLT, Int.reduceLE, Int.reduceEq, Int.reduceNe, Int.reduceAdd, Int.reduceSub, Int.reduceMul, Int.reduceNeg, ne_eq, not_false_eq_true, not_true_eq_false, false_or, or_false, zor_inl, zor_inr, Bool.false_eq_true, false_and, and_false, zk1, zk2, zk3, zk4, zk5, zk6, zk7, zk8, zk9, zk10, zk11, zk12, zk13, zk14, zk15, zk16, zk17, zk18, zk19, zk20, zk21, zk22, zk23, zk24, zk25, zk26, zk27, zk28, zk29, zk30, zk31, zk32, zk33, zk34, zk35, zk36, zk37, zk38, zk39, zk40, zk41, zk42, zk43, zk44, zk45, zk46, zk47, zk48, zk49, zk50, zk51, zk52, zk53, zk54, zk55, zk56, zk57, zk58, zk59, zk60, zk61, zk62, zk63, zk64, zk65, zk66, zk67, zk68, zk69, zk70, zk71, zk72, zk73, zk74, zk75, zk76, zk77, zk78, zk79, zk80, zk81, zk82, zk83, zk84, zk85, zk86, zk87, zk88, zk89, zk90, zr2_0, zr2_1, zr2_2, zr2_3, zr2_4, zr2_6, zr2_7, zr2_10, zr2_11, zr2_12, zr1_0, zr1_1, zr14_0, zr14_1, zr14_2, zr14_3, zr14_4, zr14_6, zr14_7, zr14_10, zr14_11, zr14_12, zr13_0, zr25_0, zr25_1, zr25_2, zr25_3, zr25_4, zr25_6, zr25_7, zr25_10, zr25_11, zr25_12, zr13_1, zr1_2, zr37_0, zr1_3, zr39_0, zr39_1, zr39_2, zr39_5, zr39_7, zr39_8, zr1_4, zr46_1, zr46_2, zr46_3, zr46_4, zr46_0, zr1_5, zr51_2, zr51_10, zr51_0, zr51_1, zr54_1, zr54_2, zr54_3, zr1_6, zr58_1, zr58_2, zr58_3, zr58_0, zr1_7, zr62_2, zr62_3, zr62_0, zr62_1, zr1_8, zr1_9, zr1_10, zr1_15, zr68_2, zr68_3, zr68_4, zr68_5, zr68_7, zr68_8, zr68_9, zr68_12, zr68_13, zr68_14, zr68_22, zr68_23, zr68_24, zr68_26, zr68_35, zr68_36, zr68_37, zr68_38, zr68_39, zr68_40, zr68_41, zr68_42, c1, s10, w2])
      refine ⟨_, e, rfl, zB_mup y2 (by decide +kernel), y3, fun u a b => ?_, fun i => ?_, fun j => ?_⟩
      · show mup s.1 68 10 (L + 20) u = _
        rw [mup_fun a]; exact y4 u b
      · show mup s.1 68 10 (L + 20) 68 i = _
        rw [mup_if, y4 68 (by decide)]
      · show mup s.1 68 10 (L + 20) 74 j = _
        rw [mup_cell (by decide)]; exact y5 j
  obtain ⟨⟨u, Y⟩, e, e1, e2⟩ := key
  simp only at e1 e2
  subst e1
  exact ⟨Y, e, e2⟩
set_option maxHeartbeats 4000000 in
theorem s_feed (k : Nat) (a b c d e : Int) : zStp k (M_RW_feed 1 a b c d e) (M_Mo_feed 68 a b c d e) := by
  intro D A σ hI
  have hB := hI.1.1.1
  have r5 := hI.2.2.2.1.2.2.2.2.1
  have r6 := hI.2.2.2.1.2.2.2.2.2.1
  have r51 := r5.1
  generalize hL : σ.1 68 10 = L at *
  have w1 : ∀ u : Int, u = L → w32 (u + 20) = L + 20 := fun u hu => by rw [w32_in (by omega) (by omega)]; omega
  by_cases cl : 400 < L + 20
  · have st : wpo (M_RW_feed 1 a b c d e σ) (fun q => q = (-1, σ)) := by
      unfold M_RW_feed
      simp (maxSteps := 5000000) (disch := first | assumption | omega) only [wpo_bind, wpo_some, wpo_gf, wpo_gk, wpo_ld, wpo_pf, wpo_pz, wpo_sd, wpo_sr, wpo_ln, wpo_idv, wpo_irm, wpo_lrm, wpo_ldv, wpo_cpy, mlet, mnar_int, mup_same, mup_cell, mup_slot, ite_true, ite_false, true_and, and_true, eq_self, or_true, true_or, and_self, Int.reduceLT, Int.reduceLE, Int.reduceEq, Int.reduceNe, Int.reduceAdd, Int.reduceSub, Int.reduceMul, Int.reduceNeg, ne_eq, not_false_eq_true, not_true_eq_false, false_or, or_false, zor_inl, zor_inr, Bool.false_eq_true, false_and, and_false, zk1, zk2, zk3, zk4, zk5, zk6, zk7, zk8, zk9, zk10, zk11, zk12, zk13, zk14, zk15, zk16, zk17, zk18, zk19, zk20, zk21, zk22, zk23, zk24, zk25, zk26, zk27, zk28, zk29, zk30, zk31, zk32, zk33, zk34, zk35, zk36, zk37, zk38, zk39, zk40, zk41, zk42, zk43, zk44, zk45, zk46, zk47, zk48, zk49, zk50, zk51, zk52, zk53, zk54, zk55, zk56, zk57, zk58, zk59, zk60, zk61, zk62, zk63, zk64, zk65, zk66, zk67, zk68, zk69, zk70, zk71, zk72, zk73, zk74, zk75, zk76, zk77, zk78, zk79, zk80, zk81, zk82, zk83, zk84, zk85, zk86, zk87, zk88, zk89, zk90, zr2_0, zr2_1, zr2_2, zr2_3, zr2_4, zr2_6, zr2_7, zr2_10, zr2_11, zr2_12, zr1_0, zr1_1, zr14_0, zr14_1, zr14_2, zr14_3, zr14_4, zr14_6, zr14_7, zr14_10, zr14_11, zr14_12, zr13_0, zr25_0, zr25_1, zr25_2, zr25_3, zr25_4, zr25_6, zr25_7, zr25_10, zr25_11, zr25_12, zr13_1, zr1_2, zr37_0, zr1_3, zr39_0, zr39_1, zr39_2, zr39_5, zr39_7, zr39_8, zr1_4, zr46_1, zr46_2, zr46_3, zr46_4, zr46_0, zr1_5, zr51_2, zr51_10, zr51_0, zr51_1, zr54_1, zr54_2, zr54_3, zr1_6, zr58_1, zr58_2, zr58_3, zr58_0, zr1_7, zr62_2, zr62_3, zr62_0, zr62_1, zr1_8, zr1_9, zr1_10, zr1_15, zr68_2, zr68_3, zr68_4, zr68_5, zr68_7, zr68_8, zr68_9, zr68_12, zr68_13, zr68_14, zr68_22, zr68_23, zr68_24, zr68_26, zr68_35, zr68_36, zr68_37, zr68_38, zr68_39, zr68_40, zr68_41, zr68_42, r51, w1, cl]
    have sr : wpo (M_Mo_feed 68 a b c d e σ) (fun q => q = (-1, σ)) := by
      unfold M_Mo_feed
      simp (maxSteps := 5000000) (disch := first | assumption | omega) only [wpo_bind, wpo_some, wpo_gf, wpo_gk, wpo_ld, wpo_pf, wpo_pz, wpo_sd, wpo_sr, wpo_ln, wpo_idv, wpo_irm, wpo_lrm, wpo_ldv, wpo_cpy, mlet, mnar_int, mup_same, mup_cell, mup_slot, ite_true, ite_false, true_and, and_true, eq_self, or_true, true_or, and_self, Int.reduceLT, Int.reduceLE, Int.reduceEq, Int.reduceNe, Int.reduceAdd, Int.reduceSub, Int.reduceMul, Int.reduceNeg, ne_eq, not_false_eq_true, not_true_eq_false, false_or, or_false, zor_inl, zor_inr, Bool.false_eq_true, false_and, and_false, zk1, zk2, zk3, zk4, zk5, zk6, zk7, zk8, zk9, zk10, zk11, zk12, zk13, zk14, zk15, zk16, zk17, zk18, zk19, zk20, zk21, zk22, zk23, zk24, zk25, zk26, zk27, zk28, zk29, zk30, zk31, zk32, zk33, zk34, zk35, zk36, zk37, zk38, zk39, zk40, zk41, zk42, zk43, zk44, zk45, zk46, zk47, zk48, zk49, zk50, zk51, zk52, zk53, zk54, zk55, zk56, zk57, zk58, zk59, zk60, zk61, zk62, zk63, zk64, zk65, zk66, zk67, zk68, zk69, zk70, zk71, zk72, zk73, zk74, zk75, zk76, zk77, zk78, zk79, zk80, zk81, zk82, zk83, zk84, zk85, zk86, zk87, zk88, zk89, zk90, zr2_0, zr2_1, zr2_2, zr2_3, zr2_4, zr2_6, zr2_7, zr2_10, zr2_11, zr2_12, zr1_0, zr1_1, zr14_0, zr14_1, zr14_2, zr14_3, zr14_4, zr14_6, zr14_7, zr14_10, zr14_11, zr14_12, zr13_0, zr25_0, zr25_1, zr25_2, zr25_3, zr25_4, zr25_6, zr25_7, zr25_10, zr25_11, zr25_12, zr13_1, zr1_2, zr37_0, zr1_3, zr39_0, zr39_1, zr39_2, zr39_5, zr39_7, zr39_8, zr1_4, zr46_1, zr46_2, zr46_3, zr46_4, zr46_0, zr1_5, zr51_2, zr51_10, zr51_0, zr51_1, zr54_1, zr54_2, zr54_3, zr1_6, zr58_1, zr58_2, zr58_3, zr58_0, zr1_7, zr62_2, zr62_3, zr62_0, zr62_1, zr1_8, zr1_9, zr1_10, zr1_15, zr68_2, zr68_3, zr68_4, zr68_5, zr68_7, zr68_8, zr68_9, zr68_12, zr68_13, zr68_14, zr68_22, zr68_23, zr68_24, zr68_26, zr68_35, zr68_36, zr68_37, zr68_38, zr68_39, zr68_40, zr68_41, zr68_42, hL, w1, cl]
    refine wpo_mono st ?_
    intro q hq
    subst hq
    refine wpo_mono sr ?_
    intro z hz
    subst hz
    exact ⟨rfl, D, A, zInv_up hI⟩
  · obtain ⟨Y1, e1, b1, k1, f1, g1, t1⟩ := d_append (v := a) hB r51 (by omega) (by omega)
    obtain ⟨Y2, e2, b2, k2, f2, g2, t2⟩ := d_append (v := b) b1 g1 (by omega) (by omega)
    obtain ⟨Y3, e3, b3, k3, f3, g3, t3⟩ := d_append (v := c) b2 g2 (by omega) (by omega)
    obtain ⟨Y4, e4, b4, k4, f4, g4, t4⟩ := d_append (v := d) b3 g3 (by omega) (by omega)
    obtain ⟨Y5, e5, b5, k5, f5, g5, t5⟩ := d_append (v := e) b4 g4 (by omega) (by omega)
    have ff : ∀ u, u ≠ 37 → u ≠ 38 → Y5.1 u = σ.1 u := fun u x y => (f5 u x y).trans ((f4 u x y).trans ((f3 u x y).trans ((f2 u x y).trans (f1 u x y))))
    have kk : Y5.2 = σ.2 := k5.trans (k4.trans (k3.trans (k2.trans k1)))
    have g5' : Y5.1 37 1 = L + 20 := by omega
    have dev : wpo (M_RW_feed 1 a b c d e σ) (fun q => q = (L + 20, Y5)) := by
      unfold M_RW_feed
      simp (maxSteps := 5000000) (disch := first | assumption | omega) only [wpo_bind, wpo_some, wpo_gf, wpo_gk, wpo_ld, wpo_pf, wpo_pz, wpo_sd, wpo_sr, wpo_ln, wpo_idv, wpo_irm, wpo_lrm, wpo_ldv, wpo_cpy, mlet, mnar_int, mup_same, mup_cell, mup_slot, ite_true, ite_false, true_and, and_true, eq_self, or_true, true_or, and_self, Int.reduceLT, Int.reduceLE, Int.reduceEq, Int.reduceNe, Int.reduceAdd, Int.reduceSub, Int.reduceMul, Int.reduceNeg, ne_eq, not_false_eq_true, not_true_eq_false, false_or, or_false, zor_inl, zor_inr, Bool.false_eq_true, false_and, and_false, zk1, zk2, zk3, zk4, zk5, zk6, zk7, zk8, zk9, zk10, zk11, zk12, zk13, zk14, zk15, zk16, zk17, zk18, zk19, zk20, zk21, zk22, zk23, zk24, zk25, zk26, zk27, zk28, zk29, zk30, zk31, zk32, zk33, zk34, zk35, zk36, zk37, zk38, zk39, zk40, zk41, zk42, zk43, zk44, zk45, zk46, zk47, zk48, zk49, zk50, zk51, zk52, zk53, zk54, zk55, zk56, zk57, zk58, zk59, zk60, zk61, zk62, zk63, zk64, zk65, zk66, zk67, zk68, zk69, zk70, zk71, zk72, zk73, zk74, zk75, zk76, zk77, zk78, zk79, zk80, zk81, zk82, zk83, zk84, zk85, zk86, zk87, zk88, zk89, zk90, zr2_0, zr2_1, zr2_2, zr2_3, zr2_4, zr2_6, zr2_7, zr2_10, zr2_11, zr2_12, zr1_0, zr1_1, zr14_0, zr14_1, zr14_2, zr14_3, zr14_4, zr14_6, zr14_7, zr14_10, zr14_11, zr14_12, zr13_0, zr25_0, zr25_1, zr25_2, zr25_3, zr25_4, zr25_6, zr25_7, zr25_10, zr25_11, zr25_12, zr13_1, zr1_2, zr37_0, zr1_3, zr39_0, zr39_1, zr39_2, zr39_5, zr39_7, zr39_8, zr1_4, zr46_1, zr46_2, zr46_3, zr46_4, zr46_0, zr1_5, zr51_2, zr51_10, zr51_0, zr51_1, zr54_1, zr54_2, zr54_3, zr1_6, zr58_1, zr58_2, zr58_3, zr58_0, zr1_7, zr62_2, zr62_3, zr62_0, zr62_1, zr1_8, zr1_9, zr1_10, zr1_15, zr68_2, zr68_3, zr68_4, zr68_5, zr68_7, zr68_8, zr68_9, zr68_12, zr68_13, zr68_14, zr68_22, zr68_23, zr68_24, zr68_26, zr68_35, zr68_36, zr68_37, zr68_38, zr68_39, zr68_40, zr68_41, zr68_42, r51, w1, cl, e1, e2, e3, e4, e5, g5']
    refine wpo_mono dev ?_
    intro q hq
    subst hq
    have x10 : Y5.1 68 10 = L := by rw [ff 68 (by decide) (by decide)]; exact hL
    have c1 := zB_mup (r := 75) (i := 0) (v := a) b5 (zokr_arr (by decide +kernel))
    have c2 := zB_mup (r := 75) (i := 1) (v := b) c1 (zokr_arr (by decide +kernel))
    have c3 := zB_mup (r := 75) (i := 2) (v := c) c2 (zokr_arr (by decide +kernel))
    have c4 := zB_mup (r := 75) (i := 3) (v := d) c3 (zokr_arr (by decide +kernel))
    have c5 := zB_mup (r := 75) (i := 4) (v := e) c4 (zokr_arr (by decide +kernel))
    generalize hX : mup (mup (mup (mup (mup Y5.1 75 0 a) 75 1 b) 75 2 c) 75 3 d) 75 4 e = X at *
    have x75 : X 75 0 = a ∧ X 75 1 = b ∧ X 75 2 = c ∧ X 75 3 = d ∧ X 75 4 = e := by
      rw [← hX]
      refine ⟨?_, ?_, ?_, ?_, ?_⟩
      · rw [mup_slot (by decide), mup_slot (by decide), mup_slot (by decide), mup_slot (by decide), mup_same]
      · rw [mup_slot (by decide), mup_slot (by decide), mup_slot (by decide), mup_same]
      · rw [mup_slot (by decide), mup_slot (by decide), mup_same]
      · rw [mup_slot (by decide), mup_same]
      · rw [mup_same]
    have xf : ∀ u, u ≠ 75 → X u = Y5.1 u := fun u hu => by rw [← hX, mup_fun hu, mup_fun hu, mup_fun hu, mup_fun hu, mup_fun hu]
    obtain ⟨Z, eZ, z1, z2, z3, z4, z5⟩ := r_feed (X := (X, Y5.2)) (L := L) c5 (by show X 68 10 = L; rw [xf 68 (by decide)]; exact x10) (by omega) (by omega)
    have ref : wpo (M_Mo_feed 68 a b c d e Y5) (fun z => z = (L + 20, Z)) := by
      unfold M_Mo_feed
      simp (maxSteps := 5000000) (disch := first | assumption | omega) only [wpo_bind, wpo_some, wpo_gf, wpo_gk, wpo_ld, wpo_pf, wpo_pz, wpo_sd, wpo_sr, wpo_ln, wpo_idv, wpo_irm, wpo_lrm, wpo_ldv, wpo_cpy, mlet, mnar_int, mup_same, mup_cell, mup_slot, ite_true, ite_false, true_and, and_true, eq_self, or_true, true_or, and_self, Int.reduceLT, Int.reduceLE, Int.reduceEq, Int.reduceNe, Int.reduceAdd, Int.reduceSub, Int.reduceMul, Int.reduceNeg, ne_eq, not_false_eq_true, not_true_eq_false, false_or, or_false, zor_inl, zor_inr, Bool.false_eq_true, false_and, and_false, zk1, zk2, zk3, zk4, zk5, zk6, zk7, zk8, zk9, zk10, zk11, zk12, zk13, zk14, zk15, zk16, zk17, zk18, zk19, zk20, zk21, zk22, zk23, zk24, zk25, zk26, zk27, zk28, zk29, zk30, zk31, zk32, zk33, zk34, zk35, zk36, zk37, zk38, zk39, zk40, zk41, zk42, zk43, zk44, zk45, zk46, zk47, zk48, zk49, zk50, zk51, zk52, zk53, zk54, zk55, zk56, zk57, zk58, zk59, zk60, zk61, zk62, zk63, zk64, zk65, zk66, zk67, zk68, zk69, zk70, zk71, zk72, zk73, zk74, zk75, zk76, zk77, zk78, zk79, zk80, zk81, zk82, zk83, zk84, zk85, zk86, zk87, zk88, zk89, zk90, zr2_0, zr2_1, zr2_2, zr2_3, zr2_4, zr2_6, zr2_7, zr2_10, zr2_11, zr2_12, zr1_0, zr1_1, zr14_0, zr14_1, zr14_2, zr14_3, zr14_4, zr14_6, zr14_7, zr14_10, zr14_11, zr14_12, zr13_0, zr25_0, zr25_1, zr25_2, zr25_3, zr25_4, zr25_6, zr25_7, zr25_10, zr25_11, zr25_12, zr13_1, zr1_2, zr37_0, zr1_3, zr39_0, zr39_1, zr39_2, zr39_5, zr39_7, zr39_8, zr1_4, zr46_1, zr46_2, zr46_3, zr46_4, zr46_0, zr1_5, zr51_2, zr51_10, zr51_0, zr51_1, zr54_1, zr54_2, zr54_3, zr1_6, zr58_1, zr58_2, zr58_3, zr58_0, zr1_7, zr62_2, zr62_3, zr62_0, zr62_1, zr1_8, zr1_9, zr1_10, zr1_15, zr68_2, zr68_3, zr68_4, zr68_5, zr68_7, zr68_8, zr68_9, zr68_12, zr68_13, zr68_14, zr68_22, zr68_23, zr68_24, zr68_26, zr68_35, zr68_36, zr68_37, zr68_38, zr68_39, zr68_40, zr68_41, zr68_42, x10, w1, cl, hX, eZ]
    refine wpo_mono ref ?_
    intro z hz
    subst hz
    refine ⟨rfl, D, A, zTape hI z1 (z2.trans kk) (fun r x y u v w => ?_) (fun i hi => ?_) ?_ (fun j j0 j1 => ?_)⟩
    · exact (z3 r u v).trans ((xf r w).trans (ff r x y))
    · rw [z4, if_neg hi]; show X 68 i = _; rw [xf 68 (by decide), ff 68 (by decide) (by decide)]
    · show Z.1 37 1 = Z.1 68 10 ∧ 0 ≤ Z.1 68 10 ∧ Z.1 68 10 ≤ 400
      rw [z4, if_pos rfl, z3 37 (by decide) (by decide)]
      show X 37 1 = _ ∧ _
      rw [xf 37 (by decide), g5']
      omega
    · show Z.1 74 j = w8 (Z.1 38 j) ∧ 0 ≤ Z.1 38 j ∧ Z.1 38 j < 256
      have z38 : Z.1 38 = Y5.1 38 := (z3 38 (by decide) (by decide)).trans (xf 38 (by decide))
      rw [z38, z5]
      by_cases ci : L ≤ j ∧ j < L + 20
      · rw [if_pos ci]
        show w8 (w8 (ishr (X 75 ((j - L) / 4)) (24 - 8 * ((j - L) % 4)))) = _ ∧ _
        have key : ∃ v, X 75 ((j - L) / 4) = v ∧ Y5.1 38 j = zBy v (24 - 8 * ((j - L) % 4)) := by
          rw [t5]
          by_cases d5 : L + 4 + 4 + 4 + 4 ≤ j ∧ j < L + 4 + 4 + 4 + 4 + 4
          · refine ⟨e, ?_, ?_⟩
            · have : (j - L) / 4 = 4 := by omega
              rw [this]; exact x75.2.2.2.2
            · rw [if_pos d5]; exact congrArg (zBy e) (by omega)
          rw [if_neg d5, t4]
          by_cases d4 : L + 4 + 4 + 4 ≤ j ∧ j < L + 4 + 4 + 4 + 4
          · refine ⟨d, ?_, ?_⟩
            · have : (j - L) / 4 = 3 := by omega
              rw [this]; exact x75.2.2.2.1
            · rw [if_pos d4]; exact congrArg (zBy d) (by omega)
          rw [if_neg d4, t3]
          by_cases d3 : L + 4 + 4 ≤ j ∧ j < L + 4 + 4 + 4
          · refine ⟨c, ?_, ?_⟩
            · have : (j - L) / 4 = 2 := by omega
              rw [this]; exact x75.2.2.1
            · rw [if_pos d3]; exact congrArg (zBy c) (by omega)
          rw [if_neg d3, t2]
          by_cases d2 : L + 4 ≤ j ∧ j < L + 4 + 4
          · refine ⟨b, ?_, ?_⟩
            · have : (j - L) / 4 = 1 := by omega
              rw [this]; exact x75.2.1
            · rw [if_pos d2]; exact congrArg (zBy b) (by omega)
          rw [if_neg d2, t1]
          refine ⟨a, ?_, ?_⟩
          · have : (j - L) / 4 = 0 := by omega
            rw [this]; exact x75.1
          · rw [if_pos (by omega)]; exact congrArg (zBy a) (by omega)
        obtain ⟨v, k1', k2'⟩ := key
        rw [k1', k2']
        exact zBy_ok v _
      · rw [if_neg ci]
        have e38 : Y5.1 38 j = σ.1 38 j := by
          rw [t5, if_neg (by omega), t4, if_neg (by omega), t3, if_neg (by omega), t2, if_neg (by omega), t1, if_neg (by omega)]
        have e74 : X 74 j = σ.1 74 j := by rw [xf 74 (by decide), ff 74 (by decide) (by decide)]
        show X 74 j = _ ∧ _
        rw [e38, e74]
        exact r6 j j0 j1
