/-! ROW -/
def zRw (A T : Int → Int) (n : Int) : Int → Int := fun j => if 0 ≤ j ∧ j < n ∧ j < 64 ∧ 0 ≤ T j ∧ T j ≤ 31 then T j else A j
def zrc (T : Int → Int) : Nat → Int
  | 0 => 0
  | n + 1 => if (n : Int) < 64 ∧ 0 ≤ T (n : Int) ∧ T (n : Int) ≤ 31 then zrc T n + 1 else zrc T n
theorem zrc_bd (T : Int → Int) : ∀ n : Nat, 0 ≤ zrc T n ∧ zrc T n ≤ (n : Int) := by
  intro n
  induction n with
  | zero => exact ⟨Int.le_refl _, Int.le_refl _⟩
  | succ n ih =>
    unfold zrc
    split <;> omega
theorem zrc_far (T : Int → Int) : ∀ d : Nat, zrc T (64 + d) = zrc T 64 := by
  intro d
  induction d with
  | zero => rfl
  | succ d ih =>
    have e : zrc T (64 + d + 1) = if ((64 + d : Nat) : Int) < 64 ∧ 0 ≤ T ((64 + d : Nat) : Int) ∧ T ((64 + d : Nat) : Int) ≤ 31 then zrc T (64 + d) + 1 else zrc T (64 + d) := rfl
    rw [show 64 + (d + 1) = 64 + d + 1 from rfl, e, if_neg (by omega)]
    exact ih
theorem zRw_o {A T : Int → Int} {n j : Int} (h : j < 0 ∨ 64 ≤ j) : zRw A T n j = A j := by
  unfold zRw
  rw [if_neg (by omega)]
theorem zWF_rw {A T : Int → Int} {n : Int} (hW : zWF A) : zWF (zRw A T n) := by
  obtain ⟨w1, w2, w3, w4, w5, w6, w7, w8, w9⟩ := hW
  have o : ∀ j, 64 ≤ j → zRw A T n j = A j := fun j a => zRw_o (Or.inr a)
  have e184 := o 184 (by omega)
  refine ⟨fun j j0 j1 => ?_, by rw [e184]; exact w2, fun u u0 u1 => ?_, fun u v u0 u1 v0 v1 e => ?_, by rw [o 180 (by omega), o 181 (by omega), o 182 (by omega), o 183 (by omega)]; exact w5, by rw [o 185 (by omega)]; exact w6, fun j j0 j1 => ?_, by rw [o 186 (by omega)]; exact w8, by rw [o 186 (by omega), o 187 (by omega)]; exact w9⟩
  · rw [o (64 + j) (by omega)]
    have := w1 j j0 j1
    unfold zRw
    split <;> omega
  · rw [e184] at u1
    rw [o _ (by omega), o (136 + u) (by omega)]; exact w3 u u0 u1
  · rw [e184] at u1 v1
    rw [o _ (by omega), o (128 + v) (by omega)] at e
    exact w4 u v u0 u1 v0 v1 e
  · rw [o 185 (by omega)] at j1
    rw [o _ (by omega), o (145 + 3 * j) (by omega), o (146 + 3 * j) (by omega), e184]
    exact w7 j j0 j1
theorem zRw_st {A T : Int → Int} {m : Nat} {j : Int} (hj : j ≠ (m : Int) ∨ ¬ ((m : Int) < 64 ∧ 0 ≤ T (m : Int) ∧ T (m : Int) ≤ 31)) : zRw A T ((m + 1 : Nat) : Int) j = zRw A T (m : Int) j := by
  unfold zRw
  by_cases c : 0 ≤ j ∧ j < (m : Int) ∧ j < 64 ∧ 0 ≤ T j ∧ T j ≤ 31
  · rw [if_pos c, if_pos (by omega)]
  · rw [if_neg c, if_neg]
    intro x
    by_cases e : j = (m : Int)
    · rw [e] at x
      rcases hj with h | h
      · exact h e
      · exact h ⟨x.2.2.1, x.2.2.2⟩
    · exact c ⟨x.1, by omega, x.2.2⟩
theorem zRw_at {A T : Int → Int} {m : Nat} (h : (m : Int) < 64 ∧ 0 ≤ T (m : Int) ∧ T (m : Int) ≤ 31) : zRw A T ((m + 1 : Nat) : Int) (m : Int) = T (m : Int) := by
  unfold zRw
  rw [if_pos (by omega)]
set_option maxHeartbeats 4000000 in
theorem d_row {σ : mS} {A T : Int → Int} {L : Int} {n : Nat} (hB : zB σ) (h3 : ∀ j, 0 ≤ j → j < 64 → σ.1 3 j = A j) (hT : ∀ j, σ.1 38 j = T j) (l0 : 0 ≤ L) (l1 : L ≤ 400) (hn : (n : Int) = if L < 64 then L else 64) (ag : ∀ p, 0 ≤ p → p < 64 → 1 ≤ σ.1 48 p ∧ σ.1 48 p ≤ 100000) :
    wpo (M_RW_row_14 1 L 0 0 σ) (fun q => ∃ s : mS, (zB s ∧ s.2 = σ.2 ∧ (∀ u, u ≠ 3 → u ≠ 48 → s.1 u = σ.1 u) ∧ (∀ j, 0 ≤ j → j < 64 → s.1 3 j = zRw A T n j) ∧ (∀ j, 0 ≤ j → j < 64 → σ.1 48 j ≤ s.1 48 j ∧ s.1 48 j ≤ σ.1 48 j + 1 ∧ (s.1 48 j = σ.1 48 j → zRw A T n j = A j))) ∧ q = (zrc T n, (mup (mup (mup (mup s.1 1 12 (L - zrc T n)) 37 1 0) 1 14 0) 58 4 0, s.2))) := by
  unfold M_RW_row_14
  have n64 : (n : Int) ≤ 64 ∧ (n : Int) ≤ L := by split at hn <;> omega
  refine loopN (fun m y => y.1 = zrc T m ∧ y.2.1 = (m : Int) ∧ zB y.2.2 ∧ y.2.2.2 = σ.2 ∧ (∀ u, u ≠ 3 → u ≠ 48 → y.2.2.1 u = σ.1 u) ∧ (∀ j, 0 ≤ j → j < 64 → y.2.2.1 3 j = zRw A T (m : Int) j) ∧ (∀ j, 0 ≤ j → j < 64 → σ.1 48 j ≤ y.2.2.1 48 j ∧ y.2.2.1 48 j ≤ σ.1 48 j + (if j < (m : Int) then 1 else 0) ∧ (y.2.2.1 48 j = σ.1 48 j → zRw A T (m : Int) j = A j))) n _ _ (by omega) ⟨rfl, rfl, hB, rfl, fun u _ _ => rfl, fun j a b => ?_, fun j a b => ⟨Int.le_refl _, ?_, fun _ => ?_⟩⟩ ?_ ?_
  · show σ.1 3 j = zRw A T ((0 : Nat) : Int) j
    rw [h3 j a b]
    unfold zRw
    rw [if_neg (by omega)]
  · rw [if_neg (by omega)]
    show σ.1 48 j ≤ σ.1 48 j + 0
    omega
  · unfold zRw
    rw [if_neg (by omega)]
  · intro m y hm ⟨y1, y2, y3, y4, y5, y6, y7⟩
    obtain ⟨l2, l3, s⟩ := y
    simp only at y1 y2 y3 y4 y5 y6 y7
    have p0 : 0 ≤ l3 := by omega
    have p1 : l3 < 64 := by omega
    have p2 : l3 < L := by omega
    have p4 : l3 < 400 := by omega
    have vT : s.1 38 l3 = T l3 := by rw [y5 38 (by decide) (by decide)]; exact hT l3
    have v48 := y7 l3 p0 p1
    rw [if_neg (by omega)] at v48
    have a48 := ag l3 p0 p1
    have bd := zrc_bd T m
    have w1 : ∀ u : Int, u = l3 → w32 (u + 1) = l3 + 1 := fun u hu => by rw [w32_in (by omega) (by omega)]; omega
    have ec : zrc T (m + 1) = if (m : Int) < 64 ∧ 0 ≤ T (m : Int) ∧ T (m : Int) ≤ 31 then zrc T m + 1 else zrc T m := rfl
    have ey : l3 + 1 = ((m + 1 : Nat) : Int) := by omega
    have n10 : ¬ (1 : Int) = 0 := by decide
    by_cases d : 0 ≤ T l3 ∧ T l3 ≤ 31
    · have dm : (m : Int) < 64 ∧ 0 ≤ T (m : Int) ∧ T (m : Int) ≤ 31 := by rw [← y2]; exact ⟨p1, d⟩
      have b1 := zB_mup (r := 3) (i := l3) (v := T l3) y3 (zokr_arr (by decide +kernel))
      have b2 := zB_mup (r := 48) (i := l3) (v := s.1 48 l3 + 1) b1 (zokr_arr (by decide +kernel))
      have w2 : ∀ u : Int, u = l2 → w32 (u + 1) = l2 + 1 := fun u hu => by rw [w32_in (by omega) (by omega)]; omega
      have w3 : ∀ u : Int, u = s.1 48 l3 → w32 (u + 1) = s.1 48 l3 + 1 := fun u hu => by rw [w32_in (by omega) (by omega)]; omega
      have e : B_RW_row_14 1 L l2 l3 s = some (Sum.inl (l2 + 1, l3 + 1, (mup (mup s.1 3 l3 (T l3)) 48 l3 (s.1 48 l3 + 1), s.2))) := wpo_is (by
        unfold B_RW_row_14 M_Air_forgetPlace
        simp (maxSteps := 5000000) (disch := first | assumption | omega) only [wpo_bind, wpo_some, wpo_gf, wpo_gk, wpo_ld, wpo_pf, wpo_pz, wpo_sd, wpo_sr, wpo_ln, wpo_idv, wpo_irm, wpo_lrm, wpo_ldv, wpo_cpy, mlet, mnar_int, mup_same, mup_cell, mup_slot, ite_true, ite_false, true_and, and_true, eq_self, or_true, true_or, and_self, Int.reduceLT, Int.reduceLE, Int.reduceEq, Int.reduceNe, Int.reduceAdd, Int.reduceSub, Int.reduceMul, Int.reduceNeg, ne_eq, not_false_eq_true, not_true_eq_false, false_or, or_false, zor_inl, zor_inr, Bool.false_eq_true, false_and, and_false, zk1, zk2, zk3, zk4, zk5, zk6, zk7, zk8, zk9, zk10, zk11, zk12, zk13, zk14, zk15, zk16, zk17, zk18, zk19, zk20, zk21, zk22, zk23, zk24, zk25, zk26, zk27, zk28, zk29, zk30, zk31, zk32, zk33, zk34, zk35, zk36, zk37, zk38, zk39, zk40, zk41, zk42, zk43, zk44, zk45, zk46, zk47, zk48, zk49, zk50, zk51, zk52, zk53, zk54, zk55, zk56, zk57, zk58, zk59, zk60, zk61, zk62, zk63, zk64, zk65, zk66, zk67, zk68, zk69, zk70, zk71, zk72, zk73, zk74, zk75, zk76, zk77, zk78, zk79, zk80, zk81, zk82, zk83, zk84, zk85, zk86, zk87, zk88, zk89, zk90, zr2_0, zr2_1, zr2_2, zr2_3, zr2_4, zr2_6, zr2_7, zr2_10, zr2_11, zr2_12, zr1_0, zr1_1, zr14_0, zr14_1, zr14_2, zr14_3, zr14_4, zr14_6, zr14_7, zr14_10, zr14_11, zr14_12, zr13_0, zr25_0, zr25_1, zr25_2, zr25_3, zr25_4, zr25_6, zr25_7, zr25_10, zr25_11, zr25_12, zr13_1, zr1_2, zr37_0, zr1_3, zr39_0, zr39_1, zr39_2, zr39_5, zr39_7, zr39_8, zr1_4, zr46_1, zr46_2, zr46_3, zr46_4, zr46_0, zr1_5, zr51_2, zr51_10, zr51_0, zr51_1, zr54_1, zr54_2, zr54_3, zr1_6, zr58_1, zr58_2, zr58_3, zr58_0, zr1_7, zr62_2, zr62_3, zr62_0, zr62_1, zr1_8, zr1_9, zr1_10, zr1_15, zr68_2, zr68_3, zr68_4, zr68_5, zr68_7, zr68_8, zr68_9, zr68_12, zr68_13, zr68_14, zr68_22, zr68_23, zr68_24, zr68_26, zr68_35, zr68_36, zr68_37, zr68_38, zr68_39, zr68_40, zr68_41, zr68_42, p2, p0, p1, p4, vT, e_within, d, n10, w1, w2, w3])
      refine ⟨_, e, ?_, ey, b2, y4, ?_, ?_, ?_⟩
      · show l2 + 1 = zrc T (m + 1)
        rw [ec, if_pos dm, y1]
      · intro u a b
        show mup (mup s.1 3 l3 (T l3)) 48 l3 (s.1 48 l3 + 1) u = _
        rw [mup_fun b, mup_fun a]; exact y5 u a b
      · intro j j0 j1
        show mup (mup s.1 3 l3 (T l3)) 48 l3 (s.1 48 l3 + 1) 3 j = _
        rw [mup_cell (by decide), mup_if]
        by_cases cj : j = l3
        · rw [if_pos cj, cj, y2, zRw_at dm]
        · rw [if_neg cj, zRw_st (Or.inl (by omega))]; exact y6 j j0 j1
      · intro j j0 j1
        show σ.1 48 j ≤ mup (mup s.1 3 l3 (T l3)) 48 l3 (s.1 48 l3 + 1) 48 j ∧ mup (mup s.1 3 l3 (T l3)) 48 l3 (s.1 48 l3 + 1) 48 j ≤ _ ∧ (mup (mup s.1 3 l3 (T l3)) 48 l3 (s.1 48 l3 + 1) 48 j = σ.1 48 j → zRw A T ((m + 1 : Nat) : Int) j = A j)
        rw [mup_if, mup_cell (by decide)]
        have yj := y7 j j0 j1
        by_cases cj : j = l3
        · rw [if_pos cj, if_pos (by omega), cj]
          exact ⟨by omega, by omega, fun x => by omega⟩
        · rw [if_neg cj, zRw_st (Or.inl (by omega))]
          refine ⟨yj.1, ?_, yj.2.2⟩
          have := yj.2.1
          split at this <;> split <;> omega
    · have dm : ¬ ((m : Int) < 64 ∧ 0 ≤ T (m : Int) ∧ T (m : Int) ≤ 31) := by rw [← y2]; exact fun x => d x.2
      have e : B_RW_row_14 1 L l2 l3 s = some (Sum.inl (l2, l3 + 1, s)) := wpo_is (by
        unfold B_RW_row_14
        simp (maxSteps := 5000000) (disch := first | assumption | omega) only [wpo_bind, wpo_some, wpo_gf, wpo_gk, wpo_ld, wpo_pf, wpo_pz, wpo_sd, wpo_sr, wpo_ln, wpo_idv, wpo_irm, wpo_lrm, wpo_ldv, wpo_cpy, mlet, mnar_int, mup_same, mup_cell, mup_slot, ite_true, ite_false, true_and, and_true, eq_self, or_true, true_or, and_self, Int.reduceLT, Int.reduceLE, Int.reduceEq, Int.reduceNe, Int.reduceAdd, Int.reduceSub, Int.reduceMul, Int.reduceNeg, ne_eq, not_false_eq_true, not_true_eq_false, false_or, or_false, zor_inl, zor_inr, Bool.false_eq_true, false_and, and_false, zk1, zk2, zk3, zk4, zk5, zk6, zk7, zk8, zk9, zk10, zk11, zk12, zk13, zk14, zk15, zk16, zk17, zk18, zk19, zk20, zk21, zk22, zk23, zk24, zk25, zk26, zk27, zk28, zk29, zk30, zk31, zk32, zk33, zk34, zk35, zk36, zk37, zk38, zk39, zk40, zk41, zk42, zk43, zk44, zk45, zk46, zk47, zk48, zk49, zk50, zk51, zk52, zk53, zk54, zk55, zk56, zk57, zk58, zk59, zk60, zk61, zk62, zk63, zk64, zk65, zk66, zk67, zk68, zk69, zk70, zk71, zk72, zk73, zk74, zk75, zk76, zk77, zk78, zk79, zk80, zk81, zk82, zk83, zk84, zk85, zk86, zk87, zk88, zk89, zk90, zr2_0, zr2_1, zr2_2, zr2_3, zr2_4, zr2_6, zr2_7, zr2_10, zr2_11, zr2_12, zr1_0, zr1_1, zr14_0, zr14_1, zr14_2, zr14_3, zr14_4, zr14_6, zr14_7, zr14_10, zr14_11, zr14_12, zr13_0, zr25_0, zr25_1, zr25_2, zr25_3, zr25_4, zr25_6, zr25_7, zr25_10, zr25_11, zr25_12, zr13_1, zr1_2, zr37_0, zr1_3, zr39_0, zr39_1, zr39_2, zr39_5, zr39_7, zr39_8, zr1_4, zr46_1, zr46_2, zr46_3, zr46_4, zr46_0, zr1_5, zr51_2, zr51_10, zr51_0, zr51_1, zr54_1, zr54_2, zr54_3, zr1_6, zr58_1, zr58_2, zr58_3, zr58_0, zr1_7, zr62_2, zr62_3, zr62_0, zr62_1, zr1_8, zr1_9, zr1_10, zr1_15, zr68_2, zr68_3, zr68_4, zr68_5, zr68_7, zr68_8, zr68_9, zr68_12, zr68_13, zr68_14, zr68_22, zr68_23, zr68_24, zr68_26, zr68_35, zr68_36, zr68_37, zr68_38, zr68_39, zr68_40, zr68_41, zr68_42, p2, p0, p1, p4, vT, e_within, d, w1])
      refine ⟨_, e, ?_, ey, y3, y4, y5, fun j j0 j1 => ?_, fun j j0 j1 => ?_⟩
      · show l2 = zrc T (m + 1)
        rw [ec, if_neg dm, y1]
      · rw [zRw_st (Or.inr dm)]; exact y6 j j0 j1
      · rw [zRw_st (Or.inr dm)]
        have yj := y7 j j0 j1
        refine ⟨yj.1, ?_, yj.2.2⟩
        have := yj.2.1
        show s.1 48 j ≤ _
        split at this <;> split <;> omega
  · intro y ⟨y1, y2, y3, y4, y5, y6, y7⟩
    obtain ⟨l2, l3, s⟩ := y
    simp only at y1 y2 y3 y4 y5 y6 y7
    have bd := zrc_bd T n
    have w1 : ∀ u : Int, u = l2 → w32 (L - u) = L - l2 := fun u hu => by rw [w32_in (by omega) (by omega)]; omega
    have b1 := zB_mup (r := 1) (i := 12) (v := L - l2) y3 (by decide +kernel)
    have b2 := zB_mup (r := 37) (i := 1) (v := 0) b1 (by decide +kernel)
    have ac := e_accept (v := l2) b2
    have m46 : M_RW_row_46 1 L l2 s = some (l2, (mup (mup (mup (mup s.1 1 12 (L - l2)) 37 1 0) 1 14 0) 58 4 0, s.2)) := wpo_is (by
      unfold M_RW_row_46
      simp (maxSteps := 5000000) (disch := first | assumption | omega) only [wpo_bind, wpo_some, wpo_gf, wpo_gk, wpo_ld, wpo_pf, wpo_pz, wpo_sd, wpo_sr, wpo_ln, wpo_idv, wpo_irm, wpo_lrm, wpo_ldv, wpo_cpy, mlet, mnar_int, mup_same, mup_cell, mup_slot, ite_true, ite_false, true_and, and_true, eq_self, or_true, true_or, and_self, Int.reduceLT, Int.reduceLE, Int.reduceEq, Int.reduceNe, Int.reduceAdd, Int.reduceSub, Int.reduceMul, Int.reduceNeg, ne_eq, not_false_eq_true, not_true_eq_false, false_or, or_false, zor_inl, zor_inr, Bool.false_eq_true, false_and, and_false, zk1, zk2, zk3, zk4, zk5, zk6, zk7, zk8, zk9, zk10, zk11, zk12, zk13, zk14, zk15, zk16, zk17, zk18, zk19, zk20, zk21, zk22, zk23, zk24, zk25, zk26, zk27, zk28, zk29, zk30, zk31, zk32, zk33, zk34, zk35, zk36, zk37, zk38, zk39, zk40, zk41, zk42, zk43, zk44, zk45, zk46, zk47, zk48, zk49, zk50, zk51, zk52, zk53, zk54, zk55, zk56, zk57, zk58, zk59, zk60, zk61, zk62, zk63, zk64, zk65, zk66, zk67, zk68, zk69, zk70, zk71, zk72, zk73, zk74, zk75, zk76, zk77, zk78, zk79, zk80, zk81, zk82, zk83, zk84, zk85, zk86, zk87, zk88, zk89, zk90, zr2_0, zr2_1, zr2_2, zr2_3, zr2_4, zr2_6, zr2_7, zr2_10, zr2_11, zr2_12, zr1_0, zr1_1, zr14_0, zr14_1, zr14_2, zr14_3, zr14_4, zr14_6, zr14_7, zr14_10, zr14_11, zr14_12, zr13_0, zr25_0, zr25_1, zr25_2, zr25_3, zr25_4, zr25_6, zr25_7, zr25_10, zr25_11, zr25_12, zr13_1, zr1_2, zr37_0, zr1_3, zr39_0, zr39_1, zr39_2, zr39_5, zr39_7, zr39_8, zr1_4, zr46_1, zr46_2, zr46_3, zr46_4, zr46_0, zr1_5, zr51_2, zr51_10, zr51_0, zr51_1, zr54_1, zr54_2, zr54_3, zr1_6, zr58_1, zr58_2, zr58_3, zr58_0, zr1_7, zr62_2, zr62_3, zr62_0, zr62_1, zr1_8, zr1_9, zr1_10, zr1_15, zr68_2, zr68_3, zr68_4, zr68_5, zr68_7, zr68_8, zr68_9, zr68_12, zr68_13, zr68_14, zr68_22, zr68_23, zr68_24, zr68_26, zr68_35, zr68_36, zr68_37, zr68_38, zr68_39, zr68_40, zr68_41, zr68_42, w1, ac])
    have e : B_RW_row_14 1 L l2 l3 s = some (Sum.inr (l2, (mup (mup (mup (mup s.1 1 12 (L - l2)) 37 1 0) 1 14 0) 58 4 0, s.2))) := wpo_is (by
      unfold B_RW_row_14
      by_cases c : l3 < L
      · have c2 : ¬ l3 < 64 := by split at hn <;> omega
        simp (maxSteps := 5000000) (disch := first | assumption | omega) only [wpo_bind, wpo_some, wpo_gf, wpo_gk, wpo_ld, wpo_pf, wpo_pz, wpo_sd, wpo_sr, wpo_ln, wpo_idv, wpo_irm, wpo_lrm, wpo_ldv, wpo_cpy, mlet, mnar_int, mup_same, mup_cell, mup_slot, ite_true, ite_false, true_and, and_true, eq_self, or_true, true_or, and_self, Int.reduceLT, Int.reduceLE, Int.reduceEq, Int.reduceNe, Int.reduceAdd, Int.reduceSub, Int.reduceMul, Int.reduceNeg, ne_eq, not_false_eq_true, not_true_eq_false, false_or, or_false, zor_inl, zor_inr, Bool.false_eq_true, false_and, and_false, zk1, zk2, zk3, zk4, zk5, zk6, zk7, zk8, zk9, zk10, zk11, zk12, zk13, zk14, zk15, zk16, zk17, zk18, zk19, zk20, zk21, zk22, zk23, zk24, zk25, zk26, zk27, zk28, zk29, zk30, zk31, zk32, zk33, zk34, zk35, zk36, zk37, zk38, zk39, zk40, zk41, zk42, zk43, zk44, zk45, zk46, zk47, zk48, zk49, zk50, zk51, zk52, zk53, zk54, zk55, zk56, zk57, zk58, zk59, zk60, zk61, zk62, zk63, zk64, zk65, zk66, zk67, zk68, zk69, zk70, zk71, zk72, zk73, zk74, zk75, zk76, zk77, zk78, zk79, zk80, zk81, zk82, zk83, zk84, zk85, zk86, zk87, zk88, zk89, zk90, zr2_0, zr2_1, zr2_2, zr2_3, zr2_4, zr2_6, zr2_7, zr2_10, zr2_11, zr2_12, zr1_0, zr1_1, zr14_0, zr14_1, zr14_2, zr14_3, zr14_4, zr14_6, zr14_7, zr14_10, zr14_11, zr14_12, zr13_0, zr25_0, zr25_1, zr25_2, zr25_3, zr25_4, zr25_6, zr25_7, zr25_10, zr25_11, zr25_12, zr13_1, zr1_2, zr37_0, zr1_3, zr39_0, zr39_1, zr39_2, zr39_5, zr39_7, zr39_8, zr1_4, zr46_1, zr46_2, zr46_3, zr46_4, zr46_0, zr1_5, zr51_2, zr51_10, zr51_0, zr51_1, zr54_1, zr54_2, zr54_3, zr1_6, zr58_1, zr58_2, zr58_3, zr58_0, zr1_7, zr62_2, zr62_3, zr62_0, zr62_1, zr1_8, zr1_9, zr1_10, zr1_15, zr68_2, zr68_3, zr68_4, zr68_5, zr68_7, zr68_8, zr68_9, zr68_12, zr68_13, zr68_14, zr68_22, zr68_23, zr68_24, zr68_26, zr68_35, zr68_36, zr68_37, zr68_38, zr68_39, zr68_40, zr68_41, zr68_42, c, c2, m46]
      · simp (maxSteps := 5000000) (disch := first | assumption | omega) only [wpo_bind, wpo_some, wpo_gf, wpo_gk, wpo_ld, wpo_pf, wpo_pz, wpo_sd, wpo_sr, wpo_ln, wpo_idv, wpo_irm, wpo_lrm, wpo_ldv, wpo_cpy, mlet, mnar_int, mup_same, mup_cell, mup_slot, ite_true, ite_false, true_and, and_true, eq_self, or_true, true_or, and_self, Int.reduceLT, Int.reduceLE, Int.reduceEq, Int.reduceNe, Int.reduceAdd, Int.reduceSub, Int.reduceMul, Int.reduceNeg, ne_eq, not_false_eq_true, not_true_eq_false, false_or, or_false, zor_inl, zor_inr, Bool.false_eq_true, false_and, and_false, zk1, zk2, zk3, zk4, zk5, zk6, zk7, zk8, zk9, zk10, zk11, zk12, zk13, zk14, zk15, zk16, zk17, zk18, zk19, zk20, zk21, zk22, zk23, zk24, zk25, zk26, zk27, zk28, zk29, zk30, zk31, zk32, zk33, zk34, zk35, zk36, zk37, zk38, zk39, zk40, zk41, zk42, zk43, zk44, zk45, zk46, zk47, zk48, zk49, zk50, zk51, zk52, zk53, zk54, zk55, zk56, zk57, zk58, zk59, zk60, zk61, zk62, zk63, zk64, zk65, zk66, zk67, zk68, zk69, zk70, zk71, zk72, zk73, zk74, zk75, zk76, zk77, zk78, zk79, zk80, zk81, zk82, zk83, zk84, zk85, zk86, zk87, zk88, zk89, zk90, zr2_0, zr2_1, zr2_2, zr2_3, zr2_4, zr2_6, zr2_7, zr2_10, zr2_11, zr2_12, zr1_0, zr1_1, zr14_0, zr14_1, zr14_2, zr14_3, zr14_4, zr14_6, zr14_7, zr14_10, zr14_11, zr14_12, zr13_0, zr25_0, zr25_1, zr25_2, zr25_3, zr25_4, zr25_6, zr25_7, zr25_10, zr25_11, zr25_12, zr13_1, zr1_2, zr37_0, zr1_3, zr39_0, zr39_1, zr39_2, zr39_5, zr39_7, zr39_8, zr1_4, zr46_1, zr46_2, zr46_3, zr46_4, zr46_0, zr1_5, zr51_2, zr51_10, zr51_0, zr51_1, zr54_1, zr54_2, zr54_3, zr1_6, zr58_1, zr58_2, zr58_3, zr58_0, zr1_7, zr62_2, zr62_3, zr62_0, zr62_1, zr1_8, zr1_9, zr1_10, zr1_15, zr68_2, zr68_3, zr68_4, zr68_5, zr68_7, zr68_8, zr68_9, zr68_12, zr68_13, zr68_14, zr68_22, zr68_23, zr68_24, zr68_26, zr68_35, zr68_36, zr68_37, zr68_38, zr68_39, zr68_40, zr68_41, zr68_42, c, m46])
    refine ⟨_, e, s, ⟨y3, y4, y5, y6, fun j j0 j1 => ?_⟩, by rw [y1]⟩
    have yj := y7 j j0 j1
    refine ⟨yj.1, ?_, yj.2.2⟩
    have := yj.2.1
    split at this <;> omega
theorem w8_inch {t : Int} (t0 : 0 ≤ t) (t1 : t < 256) : (0 ≤ w8 t ∧ w8 t ≤ 31 ↔ 0 ≤ t ∧ t ≤ 31) ∧ (t ≤ 31 → w8 t = t) := by
  unfold w8
  omega
set_option maxHeartbeats 4000000 in
theorem r_row {X : mS} {A T : Int → Int} {L vv : Int} {n : Nat} (hB : zB X) (h70 : X.1 70 = A) (hT : ∀ j, 0 ≤ j → j < 400 → X.1 74 j = w8 (T j) ∧ 0 ≤ T j ∧ T j < 256) (v68 : X.1 68 1 = vv) (vk : 0 ≤ vv ∧ vv ≤ 100000) (l1 : L ≤ 400) (hn : (n : Int) = L) :
    wpo (M_Mo_row_16 68 L 0 0 X) (fun z => ∃ Z, zPZ (zRw A T n) X Z ∧ z = (zrc T n, (mup (mup (mup Z.1 68 6 (L - zrc T n)) 68 0 0) 68 1 (vv + 1), Z.2))) := by
  unfold M_Mo_row_16
  refine loopN (fun m y => y.1 = zrc T m ∧ y.2.1 = (m : Int) ∧ zPZ (zRw A T (m : Int)) X y.2.2) n _ _ (by omega) ⟨rfl, rfl, hB, rfl, fun u _ => rfl, ?_⟩ ?_ ?_
  · rw [h70]
    funext j
    unfold zRw
    rw [if_neg (by omega)]
  · intro m y hm ⟨y1, y2, z1, z2, z3, z4⟩
    obtain ⟨l2, l3, s⟩ := y
    simp only at y1 y2 z1 z2 z3 z4
    have p0 : 0 ≤ l3 := by omega
    have p2 : l3 < L := by omega
    have p4 : l3 < 400 := by omega
    have tj := hT l3 p0 p4
    have vT : s.1 74 l3 = w8 (T l3) := by rw [z3 74 (by decide)]; exact tj.1
    have wi := w8_inch tj.2.1 tj.2.2
    have bd := zrc_bd T m
    have w1 : ∀ u : Int, u = l3 → w32 (u + 1) = l3 + 1 := fun u hu => by rw [w32_in (by omega) (by omega)]; omega
    have ec : zrc T (m + 1) = if (m : Int) < 64 ∧ 0 ≤ T (m : Int) ∧ T (m : Int) ≤ 31 then zrc T m + 1 else zrc T m := rfl
    have ey : l3 + 1 = ((m + 1 : Nat) : Int) := by omega
    have n10 : ¬ (1 : Int) = 0 := by decide
    have stay : ¬ ((m : Int) < 64 ∧ 0 ≤ T (m : Int) ∧ T (m : Int) ≤ 31) → zrc T (m + 1) = l2 ∧ zPZ (zRw A T ((m + 1 : Nat) : Int)) X s := by
      intro dm
      refine ⟨by rw [ec, if_neg dm, y1], z1, z2, z3, ?_⟩
      rw [z4]
      funext j
      exact (zRw_st (Or.inr dm)).symm
    by_cases p1 : l3 < 64
    · by_cases d : 0 ≤ T l3 ∧ T l3 ≤ 31
      · have dm : (m : Int) < 64 ∧ 0 ≤ T (m : Int) ∧ T (m : Int) ≤ 31 := by rw [← y2]; exact ⟨p1, d⟩
        have d8 : 0 ≤ T l3 ∧ T l3 ≤ 31 := d
        have e8 : w8 (T l3) = T l3 := wi.2 d.2
        have b1 := zB_mup (r := 70) (i := l3) (v := T l3) z1 (zokr_arr (by decide +kernel))
        have w2 : ∀ u : Int, u = l2 → w32 (u + 1) = l2 + 1 := fun u hu => by rw [w32_in (by omega) (by omega)]; omega
        have w3 : ∀ u : Int, u = l3 → w32 (0 + u) = l3 := fun u hu => by rw [w32_in (by omega) (by omega)]; omega
        have w4 : ∀ u : Int, u = l3 → w32 u = l3 := fun u hu => by rw [w32_in (by omega) (by omega)]; omega
        have p5 : l3 < 4994 := by omega
        have e : B_Mo_row_16 68 L l2 l3 s = some (Sum.inl (l2 + 1, l3 + 1, (mup s.1 70 l3 (T l3), s.2))) := wpo_is (by
          unfold B_Mo_row_16
          simp (maxSteps := 5000000) (disch := first | assumption | omega) only [wpo_bind, wpo_some, wpo_gf, wpo_gk, wpo_ld, wpo_pf, wpo_pz, wpo_sd, wpo_sr, wpo_ln, wpo_idv, wpo_irm, wpo_lrm, wpo_ldv, wpo_cpy, mlet, mnar_int, mup_same, mup_cell, mup_slot, ite_true, ite_false, true_and, and_true, eq_self, or_true, true_or, and_self, Int.reduceLT, Int.reduceLE, Int.reduceEq, Int.reduceNe, Int.reduceAdd, Int.reduceSub, Int.reduceMul, Int.reduceNeg, ne_eq, not_false_eq_true, not_true_eq_false, false_or, or_false, zor_inl, zor_inr, Bool.false_eq_true, false_and, and_false, zk1, zk2, zk3, zk4, zk5, zk6, zk7, zk8, zk9, zk10, zk11, zk12, zk13, zk14, zk15, zk16, zk17, zk18, zk19, zk20, zk21, zk22, zk23, zk24, zk25, zk26, zk27, zk28, zk29, zk30, zk31, zk32, zk33, zk34, zk35, zk36, zk37, zk38, zk39, zk40, zk41, zk42, zk43, zk44, zk45, zk46, zk47, zk48, zk49, zk50, zk51, zk52, zk53, zk54, zk55, zk56, zk57, zk58, zk59, zk60, zk61, zk62, zk63, zk64, zk65, zk66, zk67, zk68, zk69, zk70, zk71, zk72, zk73, zk74, zk75, zk76, zk77, zk78, zk79, zk80, zk81, zk82, zk83, zk84, zk85, zk86, zk87, zk88, zk89, zk90, zr2_0, zr2_1, zr2_2, zr2_3, zr2_4, zr2_6, zr2_7, zr2_10, zr2_11, zr2_12, zr1_0, zr1_1, zr14_0, zr14_1, zr14_2, zr14_3, zr14_4, zr14_6, zr14_7, zr14_10, zr14_11, zr14_12, zr13_0, zr25_0, zr25_1, zr25_2, zr25_3, zr25_4, zr25_6, zr25_7, zr25_10, zr25_11, zr25_12, zr13_1, zr1_2, zr37_0, zr1_3, zr39_0, zr39_1, zr39_2, zr39_5, zr39_7, zr39_8, zr1_4, zr46_1, zr46_2, zr46_3, zr46_4, zr46_0, zr1_5, zr51_2, zr51_10, zr51_0, zr51_1, zr54_1, zr54_2, zr54_3, zr1_6, zr58_1, zr58_2, zr58_3, zr58_0, zr1_7, zr62_2, zr62_3, zr62_0, zr62_1, zr1_8, zr1_9, zr1_10, zr1_15, zr68_2, zr68_3, zr68_4, zr68_5, zr68_7, zr68_8, zr68_9, zr68_12, zr68_13, zr68_14, zr68_22, zr68_23, zr68_24, zr68_26, zr68_35, zr68_36, zr68_37, zr68_38, zr68_39, zr68_40, zr68_41, zr68_42, p2, p0, p1, p4, vT, e8, f_isInch, d, n10, w1, w2, w3, w4, p5])
        refine ⟨_, e, ?_, ey, b1, z2, fun u hu => ?_, ?_⟩
        · show l2 + 1 = zrc T (m + 1)
          rw [ec, if_pos dm, y1]
        · show mup s.1 70 l3 (T l3) u = _
          rw [mup_fun hu]; exact z3 u hu
        · funext j
          show mup s.1 70 l3 (T l3) 70 j = _
          rw [mup_if, z4]
          by_cases cj : j = l3
          · rw [if_pos cj, cj, y2, zRw_at dm]
          · rw [if_neg cj, zRw_st (Or.inl (by omega))]
      · have dm : ¬ ((m : Int) < 64 ∧ 0 ≤ T (m : Int) ∧ T (m : Int) ≤ 31) := by rw [← y2]; exact fun x => d x.2
        have d8 : ¬ (0 ≤ w8 (T l3) ∧ w8 (T l3) ≤ 31) := fun x => d (wi.1.mp x)
        have e : B_Mo_row_16 68 L l2 l3 s = some (Sum.inl (l2, l3 + 1, s)) := wpo_is (by
          unfold B_Mo_row_16
          simp (maxSteps := 5000000) (disch := first | assumption | omega) only [wpo_bind, wpo_some, wpo_gf, wpo_gk, wpo_ld, wpo_pf, wpo_pz, wpo_sd, wpo_sr, wpo_ln, wpo_idv, wpo_irm, wpo_lrm, wpo_ldv, wpo_cpy, mlet, mnar_int, mup_same, mup_cell, mup_slot, ite_true, ite_false, true_and, and_true, eq_self, or_true, true_or, and_self, Int.reduceLT, Int.reduceLE, Int.reduceEq, Int.reduceNe, Int.reduceAdd, Int.reduceSub, Int.reduceMul, Int.reduceNeg, ne_eq, not_false_eq_true, not_true_eq_false, false_or, or_false, zor_inl, zor_inr, Bool.false_eq_true, false_and, and_false, zk1, zk2, zk3, zk4, zk5, zk6, zk7, zk8, zk9, zk10, zk11, zk12, zk13, zk14, zk15, zk16, zk17, zk18, zk19, zk20, zk21, zk22, zk23, zk24, zk25, zk26, zk27, zk28, zk29, zk30, zk31, zk32, zk33, zk34, zk35, zk36, zk37, zk38, zk39, zk40, zk41, zk42, zk43, zk44, zk45, zk46, zk47, zk48, zk49, zk50, zk51, zk52, zk53, zk54, zk55, zk56, zk57, zk58, zk59, zk60, zk61, zk62, zk63, zk64, zk65, zk66, zk67, zk68, zk69, zk70, zk71, zk72, zk73, zk74, zk75, zk76, zk77, zk78, zk79, zk80, zk81, zk82, zk83, zk84, zk85, zk86, zk87, zk88, zk89, zk90, zr2_0, zr2_1, zr2_2, zr2_3, zr2_4, zr2_6, zr2_7, zr2_10, zr2_11, zr2_12, zr1_0, zr1_1, zr14_0, zr14_1, zr14_2, zr14_3, zr14_4, zr14_6, zr14_7, zr14_10, zr14_11, zr14_12, zr13_0, zr25_0, zr25_1, zr25_2, zr25_3, zr25_4, zr25_6, zr25_7, zr25_10, zr25_11, zr25_12, zr13_1, zr1_2, zr37_0, zr1_3, zr39_0, zr39_1, zr39_2, zr39_5, zr39_7, zr39_8, zr1_4, zr46_1, zr46_2, zr46_3, zr46_4, zr46_0, zr1_5, zr51_2, zr51_10, zr51_0, zr51_1, zr54_1, zr54_2, zr54_3, zr1_6, zr58_1, zr58_2, zr58_3, zr58_0, zr1_7, zr62_2, zr62_3, zr62_0, zr62_1, zr1_8, zr1_9, zr1_10, zr1_15, zr68_2, zr68_3, zr68_4, zr68_5, zr68_7, zr68_8, zr68_9, zr68_12, zr68_13, zr68_14, zr68_22, zr68_23, zr68_24, zr68_26, zr68_35, zr68_36, zr68_37, zr68_38, zr68_39, zr68_40, zr68_41, zr68_42, p2, p0, p1, p4, vT, f_isInch, d8, w1])
        have sy := stay dm
        exact ⟨_, e, sy.1.symm, ey, sy.2⟩
    · have dm : ¬ ((m : Int) < 64 ∧ 0 ≤ T (m : Int) ∧ T (m : Int) ≤ 31) := by rw [← y2]; exact fun x => p1 x.1
      have e : B_Mo_row_16 68 L l2 l3 s = some (Sum.inl (l2, l3 + 1, s)) := wpo_is (by
        unfold B_Mo_row_16
        simp (maxSteps := 5000000) (disch := first | assumption | omega) only [wpo_bind, wpo_some, wpo_gf, wpo_gk, wpo_ld, wpo_pf, wpo_pz, wpo_sd, wpo_sr, wpo_ln, wpo_idv, wpo_irm, wpo_lrm, wpo_ldv, wpo_cpy, mlet, mnar_int, mup_same, mup_cell, mup_slot, ite_true, ite_false, true_and, and_true, eq_self, or_true, true_or, and_self, Int.reduceLT, Int.reduceLE, Int.reduceEq, Int.reduceNe, Int.reduceAdd, Int.reduceSub, Int.reduceMul, Int.reduceNeg, ne_eq, not_false_eq_true, not_true_eq_false, false_or, or_false, zor_inl, zor_inr, Bool.false_eq_true, false_and, and_false, zk1, zk2, zk3, zk4, zk5, zk6, zk7, zk8, zk9, zk10, zk11, zk12, zk13, zk14, zk15, zk16, zk17, zk18, zk19, zk20, zk21, zk22, zk23, zk24, zk25, zk26, zk27, zk28, zk29, zk30, zk31, zk32, zk33, zk34, zk35, zk36, zk37, zk38, zk39, zk40, zk41, zk42, zk43, zk44, zk45, zk46, zk47, zk48, zk49, zk50, zk51, zk52, zk53, zk54, zk55, zk56, zk57, zk58, zk59, zk60, zk61, zk62, zk63, zk64, zk65, zk66, zk67, zk68, zk69, zk70, zk71, zk72, zk73, zk74, zk75, zk76, zk77, zk78, zk79, zk80, zk81, zk82, zk83, zk84, zk85, zk86, zk87, zk88, zk89, zk90, zr2_0, zr2_1, zr2_2, zr2_3, zr2_4, zr2_6, zr2_7, zr2_10, zr2_11, zr2_12, zr1_0, zr1_1, zr14_0, zr14_1, zr14_2, zr14_3, zr14_4, zr14_6, zr14_7, zr14_10, zr14_11, zr14_12, zr13_0, zr25_0, zr25_1, zr25_2, zr25_3, zr25_4, zr25_6, zr25_7, zr25_10, zr25_11, zr25_12, zr13_1, zr1_2, zr37_0, zr1_3, zr39_0, zr39_1, zr39_2, zr39_5, zr39_7, zr39_8, zr1_4, zr46_1, zr46_2, zr46_3, zr46_4, zr46_0, zr1_5, zr51_2, zr51_10, zr51_0, zr51_1, zr54_1, zr54_2, zr54_3, zr1_6, zr58_1, zr58_2, zr58_3, zr58_0, zr1_7, zr62_2, zr62_3, zr62_0, zr62_1, zr1_8, zr1_9, zr1_10, zr1_15, zr68_2, zr68_3, zr68_4, zr68_5, zr68_7, zr68_8, zr68_9, zr68_12, zr68_13, zr68_14, zr68_22, zr68_23, zr68_24, zr68_26, zr68_35, zr68_36, zr68_37, zr68_38, zr68_39, zr68_40, zr68_41, zr68_42, p2, p1, w1])
      have sy := stay dm
      exact ⟨_, e, sy.1.symm, ey, sy.2⟩
  · intro y ⟨y1, y2, hz⟩
    obtain ⟨l2, l3, s⟩ := y
    simp only at y1 y2 hz
    have hBs := hz.1
    have c : ¬ l3 < L := by omega
    have bd := zrc_bd T n
    have w1 : ∀ u : Int, u = l2 → w32 (L - u) = L - l2 := fun u hu => by rw [w32_in (by omega) (by omega)]; omega
    have b1 := zB_mup (r := 68) (i := 6) (v := L - l2) hBs (by decide +kernel)
    have e1 : ((mup s.1 68 6 (L - l2), s.2) : mS).1 68 1 = vv := by show mup s.1 68 6 (L - l2) 68 1 = _; rw [mup_slot (by decide), hz.2.2.1 68 (by decide)]; exact v68
    have gd := f_good (v := l2) b1 (by rw [e1]; exact vk)
    rw [e1] at gd
    have e : B_Mo_row_16 68 L l2 l3 s = some (Sum.inr (l2, (mup (mup (mup s.1 68 6 (L - l2)) 68 0 0) 68 1 (vv + 1), s.2))) := wpo_is (by
      unfold B_Mo_row_16
      simp (maxSteps := 5000000) (disch := first | assumption | omega) only [wpo_bind, wpo_some, wpo_gf, wpo_gk, wpo_ld, wpo_pf, wpo_pz, wpo_sd, wpo_sr, wpo_ln, wpo_idv, wpo_irm, wpo_lrm, wpo_ldv, wpo_cpy, mlet, mnar_int, mup_same, mup_cell, mup_slot, ite_true, ite_false, true_and, and_true, eq_self, or_true, true_or, and_self, Int.reduceLT, Int.reduceLE, Int.reduceEq, Int.reduceNe, Int.reduceAdd, Int.reduceSub, Int.reduceMul, Int.reduceNeg, ne_eq, not_false_eq_true, not_true_eq_false, false_or, or_false, zor_inl, zor_inr, Bool.false_eq_true, false_and, and_false, zk1, zk2, zk3, zk4, zk5, zk6, zk7, zk8, zk9, zk10, zk11, zk12, zk13, zk14, zk15, zk16, zk17, zk18, zk19, zk20, zk21, zk22, zk23, zk24, zk25, zk26, zk27, zk28, zk29, zk30, zk31, zk32, zk33, zk34, zk35, zk36, zk37, zk38, zk39, zk40, zk41, zk42, zk43, zk44, zk45, zk46, zk47, zk48, zk49, zk50, zk51, zk52, zk53, zk54, zk55, zk56, zk57, zk58, zk59, zk60, zk61, zk62, zk63, zk64, zk65, zk66, zk67, zk68, zk69, zk70, zk71, zk72, zk73, zk74, zk75, zk76, zk77, zk78, zk79, zk80, zk81, zk82, zk83, zk84, zk85, zk86, zk87, zk88, zk89, zk90, zr2_0, zr2_1, zr2_2, zr2_3, zr2_4, zr2_6, zr2_7, zr2_10, zr2_11, zr2_12, zr1_0, zr1_1, zr14_0, zr14_1, zr14_2, zr14_3, zr14_4, zr14_6, zr14_7, zr14_10, zr14_11, zr14_12, zr13_0, zr25_0, zr25_1, zr25_2, zr25_3, zr25_4, zr25_6, zr25_7, zr25_10, zr25_11, zr25_12, zr13_1, zr1_2, zr37_0, zr1_3, zr39_0, zr39_1, zr39_2, zr39_5, zr39_7, zr39_8, zr1_4, zr46_1, zr46_2, zr46_3, zr46_4, zr46_0, zr1_5, zr51_2, zr51_10, zr51_0, zr51_1, zr54_1, zr54_2, zr54_3, zr1_6, zr58_1, zr58_2, zr58_3, zr58_0, zr1_7, zr62_2, zr62_3, zr62_0, zr62_1, zr1_8, zr1_9, zr1_10, zr1_15, zr68_2, zr68_3, zr68_4, zr68_5, zr68_7, zr68_8, zr68_9, zr68_12, zr68_13, zr68_14, zr68_22, zr68_23, zr68_24, zr68_26, zr68_35, zr68_36, zr68_37, zr68_38, zr68_39, zr68_40, zr68_41, zr68_42, c, w1, gd])
    exact ⟨_, e, s, hz, by rw [y1]⟩
set_option maxHeartbeats 8000000 in
theorem s_row (k : Nat) (hk : k ≤ 1000) : zStp k (M_RW_row 1) (M_Mo_row 68) := by
  intro D A σ hI
  have hI0 := hI
  obtain ⟨q1, q2, q3, q4, q5, q6⟩ := hI
  have hB := q1.1.1
  have hW := q1.1.2.1
  have hR := q1.1.2.2.1
  have h70 := q2.2.2.2.1
  have vk := q2.2.2.2.2.2.1
  obtain ⟨r1, r2, r3, r4, r5, r6, r7, r8, r9, r10⟩ := q4
  obtain ⟨L, hL⟩ : ∃ L, σ.1 68 10 = L := ⟨_, rfl⟩
  have r51 : σ.1 37 1 = L := r5.1.trans hL
  have r52 : 0 ≤ L ∧ L ≤ 400 := by rw [← hL]; exact r5.2
  by_cases c0 : L = 0
  · refine zRefu (by' := -6) (m := 6) hI0 hk (by decide) (by decide) (fun rf => ?_) (fun σ1 hB1 xf rf => ?_)
    · unfold M_RW_row
      simp (maxSteps := 5000000) (disch := first | assumption | omega) only [wpo_bind, wpo_some, wpo_gf, wpo_gk, wpo_ld, wpo_pf, wpo_pz, wpo_sd, wpo_sr, wpo_ln, wpo_idv, wpo_irm, wpo_lrm, wpo_ldv, wpo_cpy, mlet, mnar_int, mup_same, mup_cell, mup_slot, ite_true, ite_false, true_and, and_true, eq_self, or_true, true_or, and_self, Int.reduceLT, Int.reduceLE, Int.reduceEq, Int.reduceNe, Int.reduceAdd, Int.reduceSub, Int.reduceMul, Int.reduceNeg, ne_eq, not_false_eq_true, not_true_eq_false, false_or, or_false, zor_inl, zor_inr, Bool.false_eq_true, false_and, and_false, zk1, zk2, zk3, zk4, zk5, zk6, zk7, zk8, zk9, zk10, zk11, zk12, zk13, zk14, zk15, zk16, zk17, zk18, zk19, zk20, zk21, zk22, zk23, zk24, zk25, zk26, zk27, zk28, zk29, zk30, zk31, zk32, zk33, zk34, zk35, zk36, zk37, zk38, zk39, zk40, zk41, zk42, zk43, zk44, zk45, zk46, zk47, zk48, zk49, zk50, zk51, zk52, zk53, zk54, zk55, zk56, zk57, zk58, zk59, zk60, zk61, zk62, zk63, zk64, zk65, zk66, zk67, zk68, zk69, zk70, zk71, zk72, zk73, zk74, zk75, zk76, zk77, zk78, zk79, zk80, zk81, zk82, zk83, zk84, zk85, zk86, zk87, zk88, zk89, zk90, zr2_0, zr2_1, zr2_2, zr2_3, zr2_4, zr2_6, zr2_7, zr2_10, zr2_11, zr2_12, zr1_0, zr1_1, zr14_0, zr14_1, zr14_2, zr14_3, zr14_4, zr14_6, zr14_7, zr14_10, zr14_11, zr14_12, zr13_0, zr25_0, zr25_1, zr25_2, zr25_3, zr25_4, zr25_6, zr25_7, zr25_10, zr25_11, zr25_12, zr13_1, zr1_2, zr37_0, zr1_3, zr39_0, zr39_1, zr39_2, zr39_5, zr39_7, zr39_8, zr1_4, zr46_1, zr46_2, zr46_3, zr46_4, zr46_0, zr1_5, zr51_2, zr51_10, zr51_0, zr51_1, zr54_1, zr54_2, zr54_3, zr1_6, zr58_1, zr58_2, zr58_3, zr58_0, zr1_7, zr62_2, zr62_3, zr62_0, zr62_1, zr1_8, zr1_9, zr1_10, zr1_15, zr68_2, zr68_3, zr68_4, zr68_5, zr68_7, zr68_8, zr68_9, zr68_12, zr68_13, zr68_14, zr68_22, zr68_23, zr68_24, zr68_26, zr68_35, zr68_36, zr68_37, zr68_38, zr68_39, zr68_40, zr68_41, zr68_42, r51, c0, rf]
    · have x10 : σ1.1 68 10 = 0 := by rw [xf 68 (by decide) (by decide), hL, c0]
      have same : mup σ1.1 68 10 0 = σ1.1 := by
        funext u i
        by_cases cu : u = 68
        · rw [cu, mup_if]
          by_cases ci : i = 10
          · rw [if_pos ci, ci, x10]
          · rw [if_neg ci]
        · exact mup_cell cu
      unfold M_Mo_row
      simp (maxSteps := 5000000) (disch := first | assumption | omega) only [wpo_bind, wpo_some, wpo_gf, wpo_gk, wpo_ld, wpo_pf, wpo_pz, wpo_sd, wpo_sr, wpo_ln, wpo_idv, wpo_irm, wpo_lrm, wpo_ldv, wpo_cpy, mlet, mnar_int, mup_same, mup_cell, mup_slot, ite_true, ite_false, true_and, and_true, eq_self, or_true, true_or, and_self, Int.reduceLT, Int.reduceLE, Int.reduceEq, Int.reduceNe, Int.reduceAdd, Int.reduceSub, Int.reduceMul, Int.reduceNeg, ne_eq, not_false_eq_true, not_true_eq_false, false_or, or_false, zor_inl, zor_inr, Bool.false_eq_true, false_and, and_false, zk1, zk2, zk3, zk4, zk5, zk6, zk7, zk8, zk9, zk10, zk11, zk12, zk13, zk14, zk15, zk16, zk17, zk18, zk19, zk20, zk21, zk22, zk23, zk24, zk25, zk26, zk27, zk28, zk29, zk30, zk31, zk32, zk33, zk34, zk35, zk36, zk37, zk38, zk39, zk40, zk41, zk42, zk43, zk44, zk45, zk46, zk47, zk48, zk49, zk50, zk51, zk52, zk53, zk54, zk55, zk56, zk57, zk58, zk59, zk60, zk61, zk62, zk63, zk64, zk65, zk66, zk67, zk68, zk69, zk70, zk71, zk72, zk73, zk74, zk75, zk76, zk77, zk78, zk79, zk80, zk81, zk82, zk83, zk84, zk85, zk86, zk87, zk88, zk89, zk90, zr2_0, zr2_1, zr2_2, zr2_3, zr2_4, zr2_6, zr2_7, zr2_10, zr2_11, zr2_12, zr1_0, zr1_1, zr14_0, zr14_1, zr14_2, zr14_3, zr14_4, zr14_6, zr14_7, zr14_10, zr14_11, zr14_12, zr13_0, zr25_0, zr25_1, zr25_2, zr25_3, zr25_4, zr25_6, zr25_7, zr25_10, zr25_11, zr25_12, zr13_1, zr1_2, zr37_0, zr1_3, zr39_0, zr39_1, zr39_2, zr39_5, zr39_7, zr39_8, zr1_4, zr46_1, zr46_2, zr46_3, zr46_4, zr46_0, zr1_5, zr51_2, zr51_10, zr51_0, zr51_1, zr54_1, zr54_2, zr54_3, zr1_6, zr58_1, zr58_2, zr58_3, zr58_0, zr1_7, zr62_2, zr62_3, zr62_0, zr62_1, zr1_8, zr1_9, zr1_10, zr1_15, zr68_2, zr68_3, zr68_4, zr68_5, zr68_7, zr68_8, zr68_9, zr68_12, zr68_13, zr68_14, zr68_22, zr68_23, zr68_24, zr68_26, zr68_35, zr68_36, zr68_37, zr68_38, zr68_39, zr68_40, zr68_41, zr68_42, x10, same, rf]
  · obtain ⟨n, hn⟩ : ∃ n : Nat, (n : Int) = if L < 64 then L else 64 := ⟨(if L < 64 then L else 64).toNat, by split <;> omega⟩
    obtain ⟨n2, hn2⟩ : ∃ n2 : Nat, (n2 : Int) = L := ⟨L.toNat, by omega⟩
    have dv := d_row (A := A) (T := σ.1 38) (L := L) hB (fun j a b => (hR.1 j a b).1) (fun j => rfl) r52.1 r52.2 hn q1.1.2.2.2.2.1
    have dev : wpo (M_RW_row 1 σ) (fun q => ∃ s : mS, (zB s ∧ s.2 = σ.2 ∧ (∀ u, u ≠ 3 → u ≠ 48 → s.1 u = σ.1 u) ∧ (∀ j, 0 ≤ j → j < 64 → s.1 3 j = zRw A (σ.1 38) n j) ∧ (∀ j, 0 ≤ j → j < 64 → σ.1 48 j ≤ s.1 48 j ∧ s.1 48 j ≤ σ.1 48 j + 1 ∧ (s.1 48 j = σ.1 48 j → zRw A (σ.1 38) n j = A j))) ∧ q = (zrc (σ.1 38) n, (mup (mup (mup (mup s.1 1 12 (L - zrc (σ.1 38) n)) 37 1 0) 1 14 0) 58 4 0, s.2))) := by
      generalize (fun q => ∃ s : mS, (zB s ∧ s.2 = σ.2 ∧ (∀ u, u ≠ 3 → u ≠ 48 → s.1 u = σ.1 u) ∧ (∀ j, 0 ≤ j → j < 64 → s.1 3 j = zRw A (σ.1 38) n j) ∧ (∀ j, 0 ≤ j → j < 64 → σ.1 48 j ≤ s.1 48 j ∧ s.1 48 j ≤ σ.1 48 j + 1 ∧ (s.1 48 j = σ.1 48 j → zRw A (σ.1 38) n j = A j))) ∧ q = (zrc (σ.1 38) n, (mup (mup (mup (mup s.1 1 12 (L - zrc (σ.1 38) n)) 37 1 0) 1 14 0) 58 4 0, s.2))) = Q at *
      unfold M_RW_row
      simp (maxSteps := 5000000) (disch := first | assumption | omega) only [wpo_bind, wpo_some, wpo_gf, wpo_gk, wpo_ld, wpo_pf, wpo_pz, wpo_sd, wpo_sr, wpo_ln, wpo_idv, wpo_irm, wpo_lrm, wpo_ldv, wpo_cpy, mlet, mnar_int, mup_same, mup_cell, mup_slot, ite_true, ite_false, true_and, and_true, eq_self, or_true, true_or, and_self, Int.reduceLT, Int.reduceLE, Int.reduceEq, Int.reduceNe, Int.reduceAdd, Int.reduceSub, Int.reduceMul, Int.reduceNeg, ne_eq, not_false_eq_true, not_true_eq_false, false_or, or_false, zor_inl, zor_inr, Bool.false_eq_true, false_and, and_false, zk1, zk2, zk3, zk4, zk5, zk6, zk7, zk8, zk9, zk10, zk11, zk12, zk13, zk14, zk15, zk16, zk17, zk18, zk19, zk20, zk21, zk22, zk23, zk24, zk25, zk26, zk27, zk28, zk29, zk30, zk31, zk32, zk33, zk34, zk35, zk36, zk37, zk38, zk39, zk40, zk41, zk42, zk43, zk44, zk45, zk46, zk47, zk48, zk49, zk50, zk51, zk52, zk53, zk54, zk55, zk56, zk57, zk58, zk59, zk60, zk61, zk62, zk63, zk64, zk65, zk66, zk67, zk68, zk69, zk70, zk71, zk72, zk73, zk74, zk75, zk76, zk77, zk78, zk79, zk80, zk81, zk82, zk83, zk84, zk85, zk86, zk87, zk88, zk89, zk90, zr2_0, zr2_1, zr2_2, zr2_3, zr2_4, zr2_6, zr2_7, zr2_10, zr2_11, zr2_12, zr1_0, zr1_1, zr14_0, zr14_1, zr14_2, zr14_3, zr14_4, zr14_6, zr14_7, zr14_10, zr14_11, zr14_12, zr13_0, zr25_0, zr25_1, zr25_2, zr25_3, zr25_4, zr25_6, zr25_7, zr25_10, zr25_11, zr25_12, zr13_1, zr1_2, zr37_0, zr1_3, zr39_0, zr39_1, zr39_2, zr39_5, zr39_7, zr39_8, zr1_4, zr46_1, zr46_2, zr46_3, zr46_4, zr46_0, zr1_5, zr51_2, zr51_10, zr51_0, zr51_1, zr54_1, zr54_2, zr54_3, zr1_6, zr58_1, zr58_2, zr58_3, zr58_0, zr1_7, zr62_2, zr62_3, zr62_0, zr62_1, zr1_8, zr1_9, zr1_10, zr1_15, zr68_2, zr68_3, zr68_4, zr68_5, zr68_7, zr68_8, zr68_9, zr68_12, zr68_13, zr68_14, zr68_22, zr68_23, zr68_24, zr68_26, zr68_35, zr68_36, zr68_37, zr68_38, zr68_39, zr68_40, zr68_41, zr68_42, r51, c0]
      exact dv
    clear dv
    refine wpo_mono dev ?_
    intro q ⟨s, ⟨s1, s2, s3, s4, s5⟩, hq⟩
    subst hq
    have b1 := zB_mup (r := 1) (i := 12) (v := L - zrc (σ.1 38) n) s1 (by decide +kernel)
    have b2 := zB_mup (r := 37) (i := 1) (v := 0) b1 (by decide +kernel)
    have b3 := zB_mup (r := 1) (i := 14) (v := 0) b2 (by decide +kernel)
    have b4 := zB_mup (r := 58) (i := 4) (v := 0) b3 (by decide +kernel)
    have x1 : ∀ i, mup (mup (mup (mup s.1 1 12 (L - zrc (σ.1 38) n)) 37 1 0) 1 14 0) 58 4 0 1 i = if i = 14 then 0 else if i = 12 then L - zrc (σ.1 38) n else σ.1 1 i := fun i => by rw [mup_cell (by decide), mup_if, mup_cell (by decide), mup_if, s3 1 (by decide) (by decide)]
    have x37 : mup (mup (mup (mup s.1 1 12 (L - zrc (σ.1 38) n)) 37 1 0) 1 14 0) 58 4 0 37 1 = 0 := by rw [mup_cell (by decide), mup_cell (by decide), mup_same]
    have x58 : mup (mup (mup (mup s.1 1 12 (L - zrc (σ.1 38) n)) 37 1 0) 1 14 0) 58 4 0 58 4 = 0 := mup_same
    have xs : ∀ u, u ≠ 1 → u ≠ 37 → u ≠ 58 → mup (mup (mup (mup s.1 1 12 (L - zrc (σ.1 38) n)) 37 1 0) 1 14 0) 58 4 0 u = s.1 u := fun u a b d => by rw [mup_fun d, mup_fun a, mup_fun b, mup_fun a]
    generalize eX : ((mup (mup (mup (mup s.1 1 12 (L - zrc (σ.1 38) n)) 37 1 0) 1 14 0) 58 4 0, s.2) : mS) = X
    have gB : zB X := by rw [← eX]; exact b4
    have g1 : ∀ i, X.1 1 i = if i = 14 then 0 else if i = 12 then L - zrc (σ.1 38) n else σ.1 1 i := fun i => by rw [← eX]; exact x1 i
    have g37 : X.1 37 1 = 0 := by rw [← eX]; exact x37
    have g58 : X.1 58 4 = 0 := by rw [← eX]; exact x58
    have gs : ∀ u, u ≠ 1 → u ≠ 37 → u ≠ 58 → X.1 u = s.1 u := fun u a b d => by rw [← eX]; exact xs u a b d
    have g2 : X.2 = σ.2 := by rw [← eX]; exact s2
    have gX : ∀ u, u ≠ 1 ∧ u ≠ 3 ∧ u ≠ 37 ∧ u ≠ 48 ∧ u ≠ 58 → X.1 u = σ.1 u := fun u x => (gs u x.1 x.2.2.1 x.2.2.2.2).trans (s3 u x.2.1 x.2.2.2.1)
    clear eX x1 x37 x58 xs dev b1 b2 b3 b4
    have h70x : X.1 70 = A := (gX 70 (by decide)).trans h70
    have v68 : X.1 68 = σ.1 68 := gX 68 (by decide)
    have x10 : X.1 68 10 = L := by rw [v68]; exact hL
    have d0 := zB_mup (r := 68) (i := 10) (v := 0) gB (by decide +kernel)
    have rr := r_row (X := (mup X.1 68 10 0, X.2)) (A := A) (T := σ.1 38) (L := L) (vv := σ.1 68 1) (n := n2) d0 (by show mup X.1 68 10 0 70 = A; rw [mup_fun (by decide)]; exact h70x) (fun j j0 j1 => by show mup X.1 68 10 0 74 j = _ ∧ _; rw [mup_cell (by decide), gX 74 (by decide)]; exact r6 j j0 j1) (by show mup X.1 68 10 0 68 1 = _; rw [mup_slot (by decide), v68]) vk r52.2 hn2
    have ref : wpo (M_Mo_row 68 X) (fun z => ∃ Z, zPZ (zRw A (σ.1 38) n2) (mup X.1 68 10 0, X.2) Z ∧ z = (zrc (σ.1 38) n2, (mup (mup (mup Z.1 68 6 (L - zrc (σ.1 38) n2)) 68 0 0) 68 1 (σ.1 68 1 + 1), Z.2))) := by
      generalize (fun z => ∃ Z, zPZ (zRw A (σ.1 38) n2) (mup X.1 68 10 0, X.2) Z ∧ z = (zrc (σ.1 38) n2, (mup (mup (mup Z.1 68 6 (L - zrc (σ.1 38) n2)) 68 0 0) 68 1 (σ.1 68 1 + 1), Z.2))) = Q at *
      unfold M_Mo_row
      simp (maxSteps := 5000000) (disch := first | assumption | omega) only [wpo_bind, wpo_some, wpo_gf, wpo_gk, wpo_ld, wpo_pf, wpo_pz, wpo_sd, wpo_sr, wpo_ln, wpo_idv, wpo_irm, wpo_lrm, wpo_ldv, wpo_cpy, mlet, mnar_int, mup_same, mup_cell, mup_slot, ite_true, ite_false, true_and, and_true, eq_self, or_true, true_or, and_self, Int.reduceLT, Int.reduceLE, Int.reduceEq, Int.reduceNe, Int.reduceAdd, Int.reduceSub, Int.reduceMul, Int.reduceNeg, ne_eq, not_false_eq_true, not_true_eq_false, false_or, or_false, zor_inl, zor_inr, Bool.false_eq_true, false_and, and_false, zk1, zk2, zk3, zk4, zk5, zk6, zk7, zk8, zk9, zk10, zk11, zk12, zk13, zk14, zk15, zk16, zk17, zk18, zk19, zk20, zk21, zk22, zk23, zk24, zk25, zk26, zk27, zk28, zk29, zk30, zk31, zk32, zk33, zk34, zk35, zk36, zk37, zk38, zk39, zk40, zk41, zk42, zk43, zk44, zk45, zk46, zk47, zk48, zk49, zk50, zk51, zk52, zk53, zk54, zk55, zk56, zk57, zk58, zk59, zk60, zk61, zk62, zk63, zk64, zk65, zk66, zk67, zk68, zk69, zk70, zk71, zk72, zk73, zk74, zk75, zk76, zk77, zk78, zk79, zk80, zk81, zk82, zk83, zk84, zk85, zk86, zk87, zk88, zk89, zk90, zr2_0, zr2_1, zr2_2, zr2_3, zr2_4, zr2_6, zr2_7, zr2_10, zr2_11, zr2_12, zr1_0, zr1_1, zr14_0, zr14_1, zr14_2, zr14_3, zr14_4, zr14_6, zr14_7, zr14_10, zr14_11, zr14_12, zr13_0, zr25_0, zr25_1, zr25_2, zr25_3, zr25_4, zr25_6, zr25_7, zr25_10, zr25_11, zr25_12, zr13_1, zr1_2, zr37_0, zr1_3, zr39_0, zr39_1, zr39_2, zr39_5, zr39_7, zr39_8, zr1_4, zr46_1, zr46_2, zr46_3, zr46_4, zr46_0, zr1_5, zr51_2, zr51_10, zr51_0, zr51_1, zr54_1, zr54_2, zr54_3, zr1_6, zr58_1, zr58_2, zr58_3, zr58_0, zr1_7, zr62_2, zr62_3, zr62_0, zr62_1, zr1_8, zr1_9, zr1_10, zr1_15, zr68_2, zr68_3, zr68_4, zr68_5, zr68_7, zr68_8, zr68_9, zr68_12, zr68_13, zr68_14, zr68_22, zr68_23, zr68_24, zr68_26, zr68_35, zr68_36, zr68_37, zr68_38, zr68_39, zr68_40, zr68_41, zr68_42, x10, c0]
      exact rr
    clear rr
    have en : zrc (σ.1 38) n2 = zrc (σ.1 38) n := by
      by_cases cl : L < 64
      · rw [if_pos cl] at hn
        have : n2 = n := by omega
        rw [this]
      · rw [if_neg cl] at hn
        have e1 : n = 64 := by omega
        have e2 : n2 = 64 + (n2 - 64) := by omega
        rw [e1, e2]
        exact zrc_far _ _
    have eA : zRw A (σ.1 38) n2 = zRw A (σ.1 38) n := by
      funext j
      unfold zRw
      by_cases cj : 0 ≤ j ∧ j < (n : Int) ∧ j < 64 ∧ 0 ≤ σ.1 38 j ∧ σ.1 38 j ≤ 31
      · rw [if_pos cj, if_pos (by split at hn <;> omega)]
      · rw [if_neg cj, if_neg (by split at hn <;> omega)]
    rw [en, eA] at ref
    refine wpo_mono ref ?_
    intro z ⟨Z, ⟨z1, z2, z3, z4⟩, hz⟩
    subst hz
    refine ⟨rfl, D, zRw A (σ.1 38) n, ?_⟩
    have c1 := zB_mup (r := 68) (i := 6) (v := L - zrc (σ.1 38) n) z1 (by decide +kernel)
    have c2 := zB_mup (r := 68) (i := 0) (v := 0) c1 (by decide +kernel)
    have c3 := zB_mup (r := 68) (i := 1) (v := σ.1 68 1 + 1) c2 (by decide +kernel)
    have y68 : ∀ i, mup (mup (mup Z.1 68 6 (L - zrc (σ.1 38) n)) 68 0 0) 68 1 (σ.1 68 1 + 1) 68 i = if i = 1 then σ.1 68 1 + 1 else if i = 0 then 0 else if i = 6 then L - zrc (σ.1 38) n else if i = 10 then 0 else σ.1 68 i := fun i => by
      rw [mup_if, mup_if, mup_if, z3 68 (by decide)]
      show (if i = 1 then σ.1 68 1 + 1 else if i = 0 then 0 else if i = 6 then L - zrc (σ.1 38) n else mup X.1 68 10 0 68 i) = _
      rw [mup_if, v68]
    have yX : ∀ u, u ≠ 68 → u ≠ 70 → mup (mup (mup Z.1 68 6 (L - zrc (σ.1 38) n)) 68 0 0) 68 1 (σ.1 68 1 + 1) u = X.1 u := fun u a b => by rw [mup_fun a, mup_fun a, mup_fun a, z3 u b]; exact mup_fun a
    have y70 : mup (mup (mup Z.1 68 6 (L - zrc (σ.1 38) n)) 68 0 0) 68 1 (σ.1 68 1 + 1) 70 = zRw A (σ.1 38) n := by rw [mup_fun (by decide), mup_fun (by decide), mup_fun (by decide)]; exact z4
    have y2 : Z.2 = X.2 := z2
    generalize eW : ((mup (mup (mup Z.1 68 6 (L - zrc (σ.1 38) n)) 68 0 0) 68 1 (σ.1 68 1 + 1), Z.2) : mS) = W
    have w68 : ∀ i, W.1 68 i = if i = 1 then σ.1 68 1 + 1 else if i = 0 then 0 else if i = 6 then L - zrc (σ.1 38) n else if i = 10 then 0 else σ.1 68 i := fun i => by rw [← eW]; exact y68 i
    have wX : ∀ u, u ≠ 68 → u ≠ 70 → W.1 u = X.1 u := fun u a b => by rw [← eW]; exact yX u a b
    have w70 : W.1 70 = zRw A (σ.1 38) n := by rw [← eW]; exact y70
    have wB : zB W := by rw [← eW]; exact c3
    have wk : W.2 = X.2 := by rw [← eW]; exact y2
    clear eW y68 yX y70 c1 c2 c3 ref en eA
    have o : ∀ j, 64 ≤ j → zRw A (σ.1 38) n j = A j := fun j a => zRw_o (Or.inr a)
    have s3' : ∀ u, u ≠ 3 ∧ u ≠ 48 → s.1 u = σ.1 u := fun u x => s3 u x.1 x.2
    have l0 : zL0 X := zL0_fr q5.1 (fun u hu => gX u (by omega))
    refine zChg (D := D) (A := A) (σ := σ) (σ1 := X) hI0 hk (zWF_rw hW) (fun t t0 t1 => zLm_cg (q3 t t0 (by rw [← o 186 (by decide)]; exact t1)) (fun j a b => o j (by omega))) gB (by unfold zN; rw [g2]; exact q1.2.1) ⟨by rw [g2]; exact Int.le_refl _, by rw [g2]; omega⟩ (by rw [g2]; omega) (fun u _ => by rw [g2]) (fun u hu => gX u (by omega)) l0 ?_ ?_ g58 ?_ wB wk (fun u hu => wX u (by omega) (by omega)) w70 (by rw [w68, if_pos rfl]) (by rw [w68, if_neg (by decide), if_neg (by decide), if_neg (by decide), if_neg (by decide)]) (by rw [wX 81 (by decide) (by decide)]; exact gX 81 (by decide)) ⟨?_, ?_, ?_, ?_, ?_, ?_, ?_, ?_, ?_, ?_⟩
    · obtain ⟨o1, o2, o3, o4, o5, o6, o7, o8⟩ := hR
      have x2 : X.1 2 = σ.1 2 := gX 2 (by decide)
      refine ⟨fun j j0 j1 => ?_, fun u u0 u1 => ?_, by rw [x2, o 184 (by decide)]; exact o3, fun j j0 j1 => ?_, by rw [x2, o 186 (by decide)]; exact o5, by rw [x2, o 187 (by decide)]; exact o6, fun j j0 j1 => ?_, by rw [x2, o 185 (by decide)]; exact o8⟩
      · show X.1 3 j = _ ∧ X.1 4 j = _ ∧ X.1 5 j = _
        have oj := o1 j j0 j1
        rw [gs 3 (by decide) (by decide) (by decide), s4 j j0 j1, gX 4 (by decide), gX 5 (by decide), o (64 + j) (by omega), ztA_cg (o 184 (by decide)) (fun u u0 u1 => o _ (by omega))]
        exact ⟨rfl, oj.2.1, oj.2.2⟩
      · show X.1 6 u = _ ∧ X.1 7 u = _
        rw [gX 6 (by decide), gX 7 (by decide), o _ (by omega), o (136 + u) (by omega)]; exact o2 u u0 u1
      · show X.1 8 j = _
        rw [gX 8 (by decide), o _ (by omega)]; exact o4 j j0 j1
      · show X.1 10 j = _ ∧ X.1 11 j = _ ∧ X.1 12 j = _
        rw [gX 10 (by decide), gX 11 (by decide), gX 12 (by decide), o _ (by omega), o (145 + 3 * j) (by omega), o (146 + 3 * j) (by omega)]
        exact o7 j j0 j1
    · intro t t0 t1
      rw [o 186 (by decide)] at t1
      show zLaw X (X.1 9 t) (D t)
      rw [gX 9 (by decide)]
      have l' : zLaw σ (σ.1 9 t) (D t) := q1.1.2.2.2.1 t t0 t1
      have lo := l'.1.1
      exact zLaw_frame l' (by rw [g2]; exact Int.le_refl _) (fun j a b => ⟨gX _ (by omega), by rw [g2]⟩)
    · intro p p0 p1
      rw [gs 48 (by decide) (by decide) (by decide)]
      have sp := s5 p p0 p1
      have := r9 p p0 p1
      refine ⟨sp.1, by have := sp.2.1; omega, fun x s' i => ?_⟩
      unfold zWd
      rw [o 187 (by decide), o (64 + p) (by omega), sp.2.2 x]
    · rw [wX 1 (by decide) (by decide), g1, if_pos rfl, w68, if_neg (by decide), if_pos rfl]
    · intro j j0 j1
      rw [wX 67 (by decide) (by decide), wX 69 (by decide) (by decide), gX 67 (by decide), gX 69 (by decide)]
      have := r2 j j0 j1
      omega
    · rw [wX 1 (by decide) (by decide), g1, if_neg (by decide), if_pos rfl, w68, if_neg (by decide), if_neg (by decide), if_pos rfl]
    · rw [wX 1 (by decide) (by decide), g1, if_neg (by decide), if_neg (by decide), w68, if_neg (by decide), if_neg (by decide), if_neg (by decide), if_neg (by decide)]; exact r4
    · rw [wX 37 (by decide) (by decide), g37, w68, if_neg (by decide), if_neg (by decide), if_neg (by decide), if_pos rfl]
      decide
    · rw [wX 74 (by decide) (by decide), wX 38 (by decide) (by decide), gX 74 (by decide), gX 38 (by decide)]; exact r6
    · rw [wX 1 (by decide) (by decide), g1, if_neg (by decide), if_neg (by decide), w68, if_neg (by decide), if_neg (by decide), if_neg (by decide), if_neg (by decide)]; exact r7
    · rw [w68, if_neg (by decide), if_neg (by decide), if_neg (by decide), if_neg (by decide), wX 65 (by decide) (by decide), wX 66 (by decide) (by decide), wX 89 (by decide) (by decide), wX 90 (by decide) (by decide), gX 65 (by decide), gX 66 (by decide), gX 89 (by decide), gX 90 (by decide)]; exact r8
    · intro p p0 p1
      rw [wX 48 (by decide) (by decide), gs 48 (by decide) (by decide) (by decide)]
      have := (s5 p p0 p1).2.1
      have := r9 p p0 p1
      omega
    · rw [w68, if_pos rfl]; omega
