/-! CLAUSES and texts of the reference's reader -/
def zMc (S : Nat → Int) (r : zRc) (σ : mS) (q : Int × mS) : Prop := zFt σ q.2 ∧ ((r.1 = 1 ∧ q.2.1 68 16 = (r.2.1 : Int) ∧ q.2.1 68 17 = (r.2.2.1 : Int) ∧ q.2.1 68 18 = -1) ∨ (r.1 = 0 ∧ q.2.1 68 18 = S r.2.1))
theorem zMp_ofc {K V S : Nat → Int} {N : Nat} {r : zRc} {σ : mS} {q : Int × mS} (hM : zMt K V S N σ) (h : zFt σ q.2) (h1 : q.2.1 68 16 = (r.2.1 : Int) ∧ q.2.1 68 17 = (r.2.2.1 : Int) ∧ q.2.1 68 18 = -1) (h2 : r.2.1 ≤ N) (h3 : r.2.2.1 ≤ 50) : zMp K V S N r.2.1 r.2.2.1 q.2 := ⟨hM.ft h, h1.1, h1.2.1, h1.2.2, h2, h3⟩
set_option maxHeartbeats 4000000 in
theorem r_clause {K V S : Nat → Int} {N : Nat} (hT : zTx K V N) (hY : zTy K S N) {m a p : Nat} {g : (Int → Int) → Int} {σ : mS} (hm : m < 12) (hP : zMp K V S N a p σ) : wpo (M_Mo_readClause 68 σ) (zMc S (zCla K V m a p g) σ) := by
  have N4 := hT.1
  have hB := hP.1.1
  have aN := hP.2.2.2.2.1
  have p50 := hP.2.2.2.2.2
  have ky := hY.1 a aN
  have n10 : ¬ (1 : Int) = 0 := by decide
  have sum := (r_readSum hT hY 8 (by decide)).2 mD (by rw [mD_eq]; decide)
  have tst := (r_readTest hT hY 8 (by decide)).2 mD (by rw [mD_eq]; decide)
  have e80 : (8 : Int) - ((8 : Nat) : Int) = 0 := by decide
  rw [e80] at sum tst
  have mu := r_must (c := 1) N4 hP
  have pw := phi_word (k := K a) (j := 1) ⟨ky.1, ky.2.1⟩ (by decide)
  unfold zCla
  by_cases c : K a = 259
  · rw [if_pos ⟨hm, c⟩]
    rw [if_pos (pw.mpr (by omega))] at mu
    have ne : a ≠ N := by intro e; rw [e, hT.2.1] at c; omega
    obtain ⟨tf, tp⟩ := zMp_tok hP (by omega)
    have hB1 := tp.1.1
    have ok1 := (zPartF_ok hT 8).2.2 (a + 1) p (by omega) p50
    have g1 := sum.1 (a + 1) p _ tp
    generalize eS : zSumF K V 8 (a + 1) p = X at *
    generalize hQ : zMc S (if X.1 = 1 then (if K X.2.1 = 260 then (if (zTestF K V 8 (X.2.1 + 1) X.2.2.1).1 = 1 then (1, (zTestF K V 8 (X.2.1 + 1) X.2.2.1).2.1, (zTestF K V 8 (X.2.1 + 1) X.2.2.1).2.2.1, zClD X.2.2.2 (zTestF K V 8 (X.2.1 + 1) X.2.2.1).2.2.2 g) else (0, (zTestF K V 8 (X.2.1 + 1) X.2.2.1).2.1, 0, g)) else (1, X.2.1, X.2.2.1, zClD X.2.2.2 (fun _ => some 1) g)) else (0, X.2.1, 0, g)) σ = Q
    unfold M_Mo_readClause
    simp (maxSteps := 5000000) (disch := first | assumption | omega) only [wpo_bind, wpo_some, wpo_gf, wpo_gk, wpo_ld, wpo_pf, wpo_pz, wpo_sd, wpo_sr, wpo_ln, wpo_idv, wpo_irm, wpo_lrm, wpo_ldv, wpo_cpy, mlet, mnar_int, mup_same, mup_cell, mup_slot, ite_true, ite_false, true_and, and_true, eq_self, or_true, true_or, and_self, Int.reduceLT, Int.reduceLE, Int.reduceEq, Int.reduceNe, Int.reduceAdd, Int.reduceSub, Int.reduceMul, Int.reduceNeg, ne_eq, not_false_eq_true, not_true_eq_false, false_or, or_false, zor_inl, zor_inr, Bool.false_eq_true, false_and, and_false, zk1, zk2, zk3, zk4, zk5, zk6, zk7, zk8, zk9, zk10, zk11, zk12, zk13, zk14, zk15, zk16, zk17, zk18, zk19, zk20, zk21, zk22, zk23, zk24, zk25, zk26, zk27, zk28, zk29, zk30, zk31, zk32, zk33, zk34, zk35, zk36, zk37, zk38, zk39, zk40, zk41, zk42, zk43, zk44, zk45, zk46, zk47, zk48, zk49, zk50, zk51, zk52, zk53, zk54, zk55, zk56, zk57, zk58, zk59, zk60, zk61, zk62, zk63, zk64, zk65, zk66, zk67, zk68, zk69, zk70, zk71, zk72, zk73, zk74, zk75, zk76, zk77, zk78, zk79, zk80, zk81, zk82, zk83, zk84, zk85, zk86, zk87, zk88, zk89, zk90, zr2_0, zr2_1, zr2_2, zr2_3, zr2_4, zr2_6, zr2_7, zr2_10, zr2_11, zr2_12, zr1_0, zr1_1, zr14_0, zr14_1, zr14_2, zr14_3, zr14_4, zr14_6, zr14_7, zr14_10, zr14_11, zr14_12, zr13_0, zr25_0, zr25_1, zr25_2, zr25_3, zr25_4, zr25_6, zr25_7, zr25_10, zr25_11, zr25_12, zr13_1, zr1_2, zr37_0, zr1_3, zr39_0, zr39_1, zr39_2, zr39_5, zr39_7, zr39_8, zr1_4, zr46_1, zr46_2, zr46_3, zr46_4, zr46_0, zr1_5, zr51_2, zr51_10, zr51_0, zr51_1, zr54_1, zr54_2, zr54_3, zr1_6, zr58_1, zr58_2, zr58_3, zr58_0, zr1_7, zr62_2, zr62_3, zr62_0, zr62_1, zr1_8, zr1_9, zr1_10, zr1_15, zr68_2, zr68_3, zr68_4, zr68_5, zr68_7, zr68_8, zr68_9, zr68_12, zr68_13, zr68_14, zr68_22, zr68_23, zr68_24, zr68_26, zr68_35, zr68_36, zr68_37, zr68_38, zr68_39, zr68_40, zr68_41, zr68_42, mu]
    refine wpo_mono g1 ?_
    intro q ⟨q1, q2⟩
    have hBq := q1.2.1
    have fq := tf.trans q1
    rcases ok1 with ⟨k1, k2, k3, k4, k5, k6⟩ | ⟨k1, k2, k3⟩
    · rcases q2 with ⟨r1, r2⟩ | ⟨r1, _⟩
      · have mp := zMp_of tp.1 q1 r2 k3 k5
        have t2 := r_takesW (c := 2) (d := 260) N4 hY mp (by decide) (by decide)
        rw [if_pos r1] at hQ
        by_cases ci : K X.2.1 = 260
        · rw [if_pos ci] at t2 hQ
          have ne2 : X.2.1 ≠ N := by intro e; rw [e, hT.2.1] at ci; omega
          obtain ⟨uf, up⟩ := zMp_tok mp (by omega)
          have hB2 := up.1.1
          simp (maxSteps := 5000000) (disch := first | assumption | omega) only [wpo_bind, wpo_some, wpo_gf, wpo_gk, wpo_ld, wpo_pf, wpo_pz, wpo_sd, wpo_sr, wpo_ln, wpo_idv, wpo_irm, wpo_lrm, wpo_ldv, wpo_cpy, mlet, mnar_int, mup_same, mup_cell, mup_slot, ite_true, ite_false, true_and, and_true, eq_self, or_true, true_or, and_self, Int.reduceLT, Int.reduceLE, Int.reduceEq, Int.reduceNe, Int.reduceAdd, Int.reduceSub, Int.reduceMul, Int.reduceNeg, ne_eq, not_false_eq_true, not_true_eq_false, false_or, or_false, zor_inl, zor_inr, Bool.false_eq_true, false_and, and_false, zk1, zk2, zk3, zk4, zk5, zk6, zk7, zk8, zk9, zk10, zk11, zk12, zk13, zk14, zk15, zk16, zk17, zk18, zk19, zk20, zk21, zk22, zk23, zk24, zk25, zk26, zk27, zk28, zk29, zk30, zk31, zk32, zk33, zk34, zk35, zk36, zk37, zk38, zk39, zk40, zk41, zk42, zk43, zk44, zk45, zk46, zk47, zk48, zk49, zk50, zk51, zk52, zk53, zk54, zk55, zk56, zk57, zk58, zk59, zk60, zk61, zk62, zk63, zk64, zk65, zk66, zk67, zk68, zk69, zk70, zk71, zk72, zk73, zk74, zk75, zk76, zk77, zk78, zk79, zk80, zk81, zk82, zk83, zk84, zk85, zk86, zk87, zk88, zk89, zk90, zr2_0, zr2_1, zr2_2, zr2_3, zr2_4, zr2_6, zr2_7, zr2_10, zr2_11, zr2_12, zr1_0, zr1_1, zr14_0, zr14_1, zr14_2, zr14_3, zr14_4, zr14_6, zr14_7, zr14_10, zr14_11, zr14_12, zr13_0, zr25_0, zr25_1, zr25_2, zr25_3, zr25_4, zr25_6, zr25_7, zr25_10, zr25_11, zr25_12, zr13_1, zr1_2, zr37_0, zr1_3, zr39_0, zr39_1, zr39_2, zr39_5, zr39_7, zr39_8, zr1_4, zr46_1, zr46_2, zr46_3, zr46_4, zr46_0, zr1_5, zr51_2, zr51_10, zr51_0, zr51_1, zr54_1, zr54_2, zr54_3, zr1_6, zr58_1, zr58_2, zr58_3, zr58_0, zr1_7, zr62_2, zr62_3, zr62_0, zr62_1, zr1_8, zr1_9, zr1_10, zr1_15, zr68_2, zr68_3, zr68_4, zr68_5, zr68_7, zr68_8, zr68_9, zr68_12, zr68_13, zr68_14, zr68_22, zr68_23, zr68_24, zr68_26, zr68_35, zr68_36, zr68_37, zr68_38, zr68_39, zr68_40, zr68_41, zr68_42, t2, n10]
          refine wpo_mono (tst.1 (X.2.1 + 1) X.2.2.1 _ up) ?_
          intro z ⟨z1, z2⟩
          rw [← hQ]
          rcases z2 with ⟨x1, x2⟩ | ⟨x1, x2⟩
          · rw [if_pos x1]
            exact ⟨fq.trans (uf.trans z1), Or.inl ⟨rfl, x2⟩⟩
          · rw [if_neg (by omega)]
            exact ⟨fq.trans (uf.trans z1), Or.inr ⟨rfl, x2⟩⟩
        · rw [if_neg ci] at t2 hQ
          simp (maxSteps := 5000000) (disch := first | assumption | omega) only [wpo_bind, wpo_some, wpo_gf, wpo_gk, wpo_ld, wpo_pf, wpo_pz, wpo_sd, wpo_sr, wpo_ln, wpo_idv, wpo_irm, wpo_lrm, wpo_ldv, wpo_cpy, mlet, mnar_int, mup_same, mup_cell, mup_slot, ite_true, ite_false, true_and, and_true, eq_self, or_true, true_or, and_self, Int.reduceLT, Int.reduceLE, Int.reduceEq, Int.reduceNe, Int.reduceAdd, Int.reduceSub, Int.reduceMul, Int.reduceNeg, ne_eq, not_false_eq_true, not_true_eq_false, false_or, or_false, zor_inl, zor_inr, Bool.false_eq_true, false_and, and_false, zk1, zk2, zk3, zk4, zk5, zk6, zk7, zk8, zk9, zk10, zk11, zk12, zk13, zk14, zk15, zk16, zk17, zk18, zk19, zk20, zk21, zk22, zk23, zk24, zk25, zk26, zk27, zk28, zk29, zk30, zk31, zk32, zk33, zk34, zk35, zk36, zk37, zk38, zk39, zk40, zk41, zk42, zk43, zk44, zk45, zk46, zk47, zk48, zk49, zk50, zk51, zk52, zk53, zk54, zk55, zk56, zk57, zk58, zk59, zk60, zk61, zk62, zk63, zk64, zk65, zk66, zk67, zk68, zk69, zk70, zk71, zk72, zk73, zk74, zk75, zk76, zk77, zk78, zk79, zk80, zk81, zk82, zk83, zk84, zk85, zk86, zk87, zk88, zk89, zk90, zr2_0, zr2_1, zr2_2, zr2_3, zr2_4, zr2_6, zr2_7, zr2_10, zr2_11, zr2_12, zr1_0, zr1_1, zr14_0, zr14_1, zr14_2, zr14_3, zr14_4, zr14_6, zr14_7, zr14_10, zr14_11, zr14_12, zr13_0, zr25_0, zr25_1, zr25_2, zr25_3, zr25_4, zr25_6, zr25_7, zr25_10, zr25_11, zr25_12, zr13_1, zr1_2, zr37_0, zr1_3, zr39_0, zr39_1, zr39_2, zr39_5, zr39_7, zr39_8, zr1_4, zr46_1, zr46_2, zr46_3, zr46_4, zr46_0, zr1_5, zr51_2, zr51_10, zr51_0, zr51_1, zr54_1, zr54_2, zr54_3, zr1_6, zr58_1, zr58_2, zr58_3, zr58_0, zr1_7, zr62_2, zr62_3, zr62_0, zr62_1, zr1_8, zr1_9, zr1_10, zr1_15, zr68_2, zr68_3, zr68_4, zr68_5, zr68_7, zr68_8, zr68_9, zr68_12, zr68_13, zr68_14, zr68_22, zr68_23, zr68_24, zr68_26, zr68_35, zr68_36, zr68_37, zr68_38, zr68_39, zr68_40, zr68_41, zr68_42, t2]
          rw [← hQ]
          exact ⟨fq, Or.inl ⟨rfl, r2⟩⟩
      · omega
    · rcases q2 with ⟨r1, _⟩ | ⟨r1, r2⟩
      · omega
      · have s0 := (hY.1 X.2.1 k3).2.2
        have t2 := r_takes0 (c := 2) hBq (by omega)
        simp (maxSteps := 5000000) (disch := first | assumption | omega) only [wpo_bind, wpo_some, wpo_gf, wpo_gk, wpo_ld, wpo_pf, wpo_pz, wpo_sd, wpo_sr, wpo_ln, wpo_idv, wpo_irm, wpo_lrm, wpo_ldv, wpo_cpy, mlet, mnar_int, mup_same, mup_cell, mup_slot, ite_true, ite_false, true_and, and_true, eq_self, or_true, true_or, and_self, Int.reduceLT, Int.reduceLE, Int.reduceEq, Int.reduceNe, Int.reduceAdd, Int.reduceSub, Int.reduceMul, Int.reduceNeg, ne_eq, not_false_eq_true, not_true_eq_false, false_or, or_false, zor_inl, zor_inr, Bool.false_eq_true, false_and, and_false, zk1, zk2, zk3, zk4, zk5, zk6, zk7, zk8, zk9, zk10, zk11, zk12, zk13, zk14, zk15, zk16, zk17, zk18, zk19, zk20, zk21, zk22, zk23, zk24, zk25, zk26, zk27, zk28, zk29, zk30, zk31, zk32, zk33, zk34, zk35, zk36, zk37, zk38, zk39, zk40, zk41, zk42, zk43, zk44, zk45, zk46, zk47, zk48, zk49, zk50, zk51, zk52, zk53, zk54, zk55, zk56, zk57, zk58, zk59, zk60, zk61, zk62, zk63, zk64, zk65, zk66, zk67, zk68, zk69, zk70, zk71, zk72, zk73, zk74, zk75, zk76, zk77, zk78, zk79, zk80, zk81, zk82, zk83, zk84, zk85, zk86, zk87, zk88, zk89, zk90, zr2_0, zr2_1, zr2_2, zr2_3, zr2_4, zr2_6, zr2_7, zr2_10, zr2_11, zr2_12, zr1_0, zr1_1, zr14_0, zr14_1, zr14_2, zr14_3, zr14_4, zr14_6, zr14_7, zr14_10, zr14_11, zr14_12, zr13_0, zr25_0, zr25_1, zr25_2, zr25_3, zr25_4, zr25_6, zr25_7, zr25_10, zr25_11, zr25_12, zr13_1, zr1_2, zr37_0, zr1_3, zr39_0, zr39_1, zr39_2, zr39_5, zr39_7, zr39_8, zr1_4, zr46_1, zr46_2, zr46_3, zr46_4, zr46_0, zr1_5, zr51_2, zr51_10, zr51_0, zr51_1, zr54_1, zr54_2, zr54_3, zr1_6, zr58_1, zr58_2, zr58_3, zr58_0, zr1_7, zr62_2, zr62_3, zr62_0, zr62_1, zr1_8, zr1_9, zr1_10, zr1_15, zr68_2, zr68_3, zr68_4, zr68_5, zr68_7, zr68_8, zr68_9, zr68_12, zr68_13, zr68_14, zr68_22, zr68_23, zr68_24, zr68_26, zr68_35, zr68_36, zr68_37, zr68_38, zr68_39, zr68_40, zr68_41, zr68_42, t2]
        rw [← hQ, if_neg (by omega)]
        exact ⟨fq, Or.inr ⟨rfl, r2⟩⟩
  · rw [if_neg (fun x => c x.2)]
    rw [if_neg (fun x => c (by have := pw.mp x; omega))] at mu
    have f1 := zFt_68 (i := 18) (v := S a) hB (by decide)
    have hB1 := f1.2.1
    have bad : mup σ.1 68 18 (S a) 68 18 ≠ -1 := by rw [mup_same]; omega
    have t2 := r_takes0 (c := 2) hB1 bad
    have g2 := sum.2 (mup σ.1 68 18 (S a), σ.2) hB1 bad
    have po : zMc S (0, a, 0, g) σ (0, (mup σ.1 68 18 (S a), σ.2)) := ⟨f1, Or.inr ⟨rfl, by show mup σ.1 68 18 (S a) 68 18 = _; exact mup_same⟩⟩
    generalize zMc S (0, a, 0, g) σ = Q at *
    unfold M_Mo_readClause
    simp (maxSteps := 5000000) (disch := first | assumption | omega) only [wpo_bind, wpo_some, wpo_gf, wpo_gk, wpo_ld, wpo_pf, wpo_pz, wpo_sd, wpo_sr, wpo_ln, wpo_idv, wpo_irm, wpo_lrm, wpo_ldv, wpo_cpy, mlet, mnar_int, mup_same, mup_cell, mup_slot, ite_true, ite_false, true_and, and_true, eq_self, or_true, true_or, and_self, Int.reduceLT, Int.reduceLE, Int.reduceEq, Int.reduceNe, Int.reduceAdd, Int.reduceSub, Int.reduceMul, Int.reduceNeg, ne_eq, not_false_eq_true, not_true_eq_false, false_or, or_false, zor_inl, zor_inr, Bool.false_eq_true, false_and, and_false, zk1, zk2, zk3, zk4, zk5, zk6, zk7, zk8, zk9, zk10, zk11, zk12, zk13, zk14, zk15, zk16, zk17, zk18, zk19, zk20, zk21, zk22, zk23, zk24, zk25, zk26, zk27, zk28, zk29, zk30, zk31, zk32, zk33, zk34, zk35, zk36, zk37, zk38, zk39, zk40, zk41, zk42, zk43, zk44, zk45, zk46, zk47, zk48, zk49, zk50, zk51, zk52, zk53, zk54, zk55, zk56, zk57, zk58, zk59, zk60, zk61, zk62, zk63, zk64, zk65, zk66, zk67, zk68, zk69, zk70, zk71, zk72, zk73, zk74, zk75, zk76, zk77, zk78, zk79, zk80, zk81, zk82, zk83, zk84, zk85, zk86, zk87, zk88, zk89, zk90, zr2_0, zr2_1, zr2_2, zr2_3, zr2_4, zr2_6, zr2_7, zr2_10, zr2_11, zr2_12, zr1_0, zr1_1, zr14_0, zr14_1, zr14_2, zr14_3, zr14_4, zr14_6, zr14_7, zr14_10, zr14_11, zr14_12, zr13_0, zr25_0, zr25_1, zr25_2, zr25_3, zr25_4, zr25_6, zr25_7, zr25_10, zr25_11, zr25_12, zr13_1, zr1_2, zr37_0, zr1_3, zr39_0, zr39_1, zr39_2, zr39_5, zr39_7, zr39_8, zr1_4, zr46_1, zr46_2, zr46_3, zr46_4, zr46_0, zr1_5, zr51_2, zr51_10, zr51_0, zr51_1, zr54_1, zr54_2, zr54_3, zr1_6, zr58_1, zr58_2, zr58_3, zr58_0, zr1_7, zr62_2, zr62_3, zr62_0, zr62_1, zr1_8, zr1_9, zr1_10, zr1_15, zr68_2, zr68_3, zr68_4, zr68_5, zr68_7, zr68_8, zr68_9, zr68_12, zr68_13, zr68_14, zr68_22, zr68_23, zr68_24, zr68_26, zr68_35, zr68_36, zr68_37, zr68_38, zr68_39, zr68_40, zr68_41, zr68_42, mu]
    refine wpo_mono g2 ?_
    intro q hq
    rw [hq]
    simp (maxSteps := 5000000) (disch := first | assumption | omega) only [wpo_bind, wpo_some, wpo_gf, wpo_gk, wpo_ld, wpo_pf, wpo_pz, wpo_sd, wpo_sr, wpo_ln, wpo_idv, wpo_irm, wpo_lrm, wpo_ldv, wpo_cpy, mlet, mnar_int, mup_same, mup_cell, mup_slot, ite_true, ite_false, true_and, and_true, eq_self, or_true, true_or, and_self, Int.reduceLT, Int.reduceLE, Int.reduceEq, Int.reduceNe, Int.reduceAdd, Int.reduceSub, Int.reduceMul, Int.reduceNeg, ne_eq, not_false_eq_true, not_true_eq_false, false_or, or_false, zor_inl, zor_inr, Bool.false_eq_true, false_and, and_false, zk1, zk2, zk3, zk4, zk5, zk6, zk7, zk8, zk9, zk10, zk11, zk12, zk13, zk14, zk15, zk16, zk17, zk18, zk19, zk20, zk21, zk22, zk23, zk24, zk25, zk26, zk27, zk28, zk29, zk30, zk31, zk32, zk33, zk34, zk35, zk36, zk37, zk38, zk39, zk40, zk41, zk42, zk43, zk44, zk45, zk46, zk47, zk48, zk49, zk50, zk51, zk52, zk53, zk54, zk55, zk56, zk57, zk58, zk59, zk60, zk61, zk62, zk63, zk64, zk65, zk66, zk67, zk68, zk69, zk70, zk71, zk72, zk73, zk74, zk75, zk76, zk77, zk78, zk79, zk80, zk81, zk82, zk83, zk84, zk85, zk86, zk87, zk88, zk89, zk90, zr2_0, zr2_1, zr2_2, zr2_3, zr2_4, zr2_6, zr2_7, zr2_10, zr2_11, zr2_12, zr1_0, zr1_1, zr14_0, zr14_1, zr14_2, zr14_3, zr14_4, zr14_6, zr14_7, zr14_10, zr14_11, zr14_12, zr13_0, zr25_0, zr25_1, zr25_2, zr25_3, zr25_4, zr25_6, zr25_7, zr25_10, zr25_11, zr25_12, zr13_1, zr1_2, zr37_0, zr1_3, zr39_0, zr39_1, zr39_2, zr39_5, zr39_7, zr39_8, zr1_4, zr46_1, zr46_2, zr46_3, zr46_4, zr46_0, zr1_5, zr51_2, zr51_10, zr51_0, zr51_1, zr54_1, zr54_2, zr54_3, zr1_6, zr58_1, zr58_2, zr58_3, zr58_0, zr1_7, zr62_2, zr62_3, zr62_0, zr62_1, zr1_8, zr1_9, zr1_10, zr1_15, zr68_2, zr68_3, zr68_4, zr68_5, zr68_7, zr68_8, zr68_9, zr68_12, zr68_13, zr68_14, zr68_22, zr68_23, zr68_24, zr68_26, zr68_35, zr68_36, zr68_37, zr68_38, zr68_39, zr68_40, zr68_41, zr68_42, t2]
    exact po
/-- what a text leaves of the reference -/
def zFu (σ σ' : mS) : Prop := σ'.2 = σ.2 ∧ zB σ' ∧ (∀ r, r ≠ 68 → σ'.1 r = σ.1 r) ∧ ∀ i, i ≠ 10 → i ≠ 11 → i ≠ 16 → i ≠ 17 → i ≠ 18 → σ'.1 68 i = σ.1 68 i
theorem zFu.trans {σ σ' σ'' : mS} (h : zFu σ σ') (h' : zFu σ' σ'') : zFu σ σ'' := ⟨h'.1.trans h.1, h'.2.1, fun r a => (h'.2.2.1 r a).trans (h.2.2.1 r a), fun i a b c d e => (h'.2.2.2 i a b c d e).trans (h.2.2.2 i a b c d e)⟩
theorem zFt.fu {σ σ' : mS} (h : zFt σ σ') : zFu σ σ' := ⟨h.1, h.2.1, h.2.2.1, fun i _ _ a b c => h.2.2.2 i a b c⟩
def zMr (S : Nat → Int) (r : zRc) (σ : mS) (q : Int × mS) : Prop := zFu σ q.2 ∧ q.2.1 68 10 = σ.1 68 10 ∧ ((r.1 = 1 ∧ q.1 = 1 ∧ q.2.1 68 11 = -1) ∨ (r.1 = 0 ∧ q.1 = 0 ∧ q.2.1 68 11 = S r.2.1))
theorem r_47 {σ : mS} (hB : zB σ) : wpo (M_Mo_reads_47 68 σ) (fun q => q = (if σ.1 68 18 = -1 then 1 else 0, (mup σ.1 68 11 (σ.1 68 18), σ.2))) := by
  have hB1 := zB_mup (r := 68) (i := 11) (v := σ.1 68 18) hB (by decide +kernel)
  have fi := r_fine hB1
  have e18 : mup σ.1 68 11 (σ.1 68 18) 68 18 = σ.1 68 18 := mup_slot (by decide)
  have e18' : ((mup σ.1 68 11 (σ.1 68 18), σ.2) : mS).1 68 18 = σ.1 68 18 := e18
  rw [e18'] at fi
  unfold M_Mo_reads_47
  by_cases c : σ.1 68 18 = -1
  · rw [if_pos c] at fi ⊢
    simp (maxSteps := 5000000) (disch := first | assumption | omega) only [wpo_bind, wpo_some, wpo_gf, wpo_gk, wpo_ld, wpo_pf, wpo_pz, wpo_sd, wpo_sr, wpo_ln, wpo_idv, wpo_irm, wpo_lrm, wpo_ldv, wpo_cpy, mlet, mnar_int, mup_same, mup_cell, mup_slot, ite_true, ite_false, true_and, and_true, eq_self, or_true, true_or, and_self, Int.reduceLT, Int.reduceLE, Int.reduceEq, Int.reduceNe, Int.reduceAdd, Int.reduceSub, Int.reduceMul, Int.reduceNeg, ne_eq, not_false_eq_true, not_true_eq_false, false_or, or_false, zor_inl, zor_inr, Bool.false_eq_true, false_and, and_false, zk1, zk2, zk3, zk4, zk5, zk6, zk7, zk8, zk9, zk10, zk11, zk12, zk13, zk14, zk15, zk16, zk17, zk18, zk19, zk20, zk21, zk22, zk23, zk24, zk25, zk26, zk27, zk28, zk29, zk30, zk31, zk32, zk33, zk34, zk35, zk36, zk37, zk38, zk39, zk40, zk41, zk42, zk43, zk44, zk45, zk46, zk47, zk48, zk49, zk50, zk51, zk52, zk53, zk54, zk55, zk56, zk57, zk58, zk59, zk60, zk61, zk62, zk63, zk64, zk65, zk66, zk67, zk68, zk69, zk70, zk71, zk72, zk73, zk74, zk75, zk76, zk77, zk78, zk79, zk80, zk81, zk82, zk83, zk84, zk85, zk86, zk87, zk88, zk89, zk90, zr2_0, zr2_1, zr2_2, zr2_3, zr2_4, zr2_6, zr2_7, zr2_10, zr2_11, zr2_12, zr1_0, zr1_1, zr14_0, zr14_1, zr14_2, zr14_3, zr14_4, zr14_6, zr14_7, zr14_10, zr14_11, zr14_12, zr13_0, zr25_0, zr25_1, zr25_2, zr25_3, zr25_4, zr25_6, zr25_7, zr25_10, zr25_11, zr25_12, zr13_1, zr1_2, zr37_0, zr1_3, zr39_0, zr39_1, zr39_2, zr39_5, zr39_7, zr39_8, zr1_4, zr46_1, zr46_2, zr46_3, zr46_4, zr46_0, zr1_5, zr51_2, zr51_10, zr51_0, zr51_1, zr54_1, zr54_2, zr54_3, zr1_6, zr58_1, zr58_2, zr58_3, zr58_0, zr1_7, zr62_2, zr62_3, zr62_0, zr62_1, zr1_8, zr1_9, zr1_10, zr1_15, zr68_2, zr68_3, zr68_4, zr68_5, zr68_7, zr68_8, zr68_9, zr68_12, zr68_13, zr68_14, zr68_22, zr68_23, zr68_24, zr68_26, zr68_35, zr68_36, zr68_37, zr68_38, zr68_39, zr68_40, zr68_41, zr68_42, fi]
  · rw [if_neg c] at fi ⊢
    simp (maxSteps := 5000000) (disch := first | assumption | omega) only [wpo_bind, wpo_some, wpo_gf, wpo_gk, wpo_ld, wpo_pf, wpo_pz, wpo_sd, wpo_sr, wpo_ln, wpo_idv, wpo_irm, wpo_lrm, wpo_ldv, wpo_cpy, mlet, mnar_int, mup_same, mup_cell, mup_slot, ite_true, ite_false, true_and, and_true, eq_self, or_true, true_or, and_self, Int.reduceLT, Int.reduceLE, Int.reduceEq, Int.reduceNe, Int.reduceAdd, Int.reduceSub, Int.reduceMul, Int.reduceNeg, ne_eq, not_false_eq_true, not_true_eq_false, false_or, or_false, zor_inl, zor_inr, Bool.false_eq_true, false_and, and_false, zk1, zk2, zk3, zk4, zk5, zk6, zk7, zk8, zk9, zk10, zk11, zk12, zk13, zk14, zk15, zk16, zk17, zk18, zk19, zk20, zk21, zk22, zk23, zk24, zk25, zk26, zk27, zk28, zk29, zk30, zk31, zk32, zk33, zk34, zk35, zk36, zk37, zk38, zk39, zk40, zk41, zk42, zk43, zk44, zk45, zk46, zk47, zk48, zk49, zk50, zk51, zk52, zk53, zk54, zk55, zk56, zk57, zk58, zk59, zk60, zk61, zk62, zk63, zk64, zk65, zk66, zk67, zk68, zk69, zk70, zk71, zk72, zk73, zk74, zk75, zk76, zk77, zk78, zk79, zk80, zk81, zk82, zk83, zk84, zk85, zk86, zk87, zk88, zk89, zk90, zr2_0, zr2_1, zr2_2, zr2_3, zr2_4, zr2_6, zr2_7, zr2_10, zr2_11, zr2_12, zr1_0, zr1_1, zr14_0, zr14_1, zr14_2, zr14_3, zr14_4, zr14_6, zr14_7, zr14_10, zr14_11, zr14_12, zr13_0, zr25_0, zr25_1, zr25_2, zr25_3, zr25_4, zr25_6, zr25_7, zr25_10, zr25_11, zr25_12, zr13_1, zr1_2, zr37_0, zr1_3, zr39_0, zr39_1, zr39_2, zr39_5, zr39_7, zr39_8, zr1_4, zr46_1, zr46_2, zr46_3, zr46_4, zr46_0, zr1_5, zr51_2, zr51_10, zr51_0, zr51_1, zr54_1, zr54_2, zr54_3, zr1_6, zr58_1, zr58_2, zr58_3, zr58_0, zr1_7, zr62_2, zr62_3, zr62_0, zr62_1, zr1_8, zr1_9, zr1_10, zr1_15, zr68_2, zr68_3, zr68_4, zr68_5, zr68_7, zr68_8, zr68_9, zr68_12, zr68_13, zr68_14, zr68_22, zr68_23, zr68_24, zr68_26, zr68_35, zr68_36, zr68_37, zr68_38, zr68_39, zr68_40, zr68_41, zr68_42, fi]
theorem zFu_11 {σ : mS} {v : Int} (hB : zB σ) : zFu σ (mup σ.1 68 11 v, σ.2) := ⟨rfl, zB_mup hB (by decide +kernel), fun r a => mup_fun a, fun i _ a _ _ _ => by show mup σ.1 68 11 v 68 i = σ.1 68 i; exact mup_slot a⟩
/-- the loop's end where it has failed -/
theorem r_20bad {S : Nat → Int} {r : zRc} {σ0 σ : mS} {n : Int} (hB : zB σ) (h : σ.1 68 18 ≠ -1) (hr : r.1 = 0 ∧ σ.1 68 18 = S r.2.1) (hF : zFt σ0 σ) (M : Nat) : wpo (miter (fun s : Int × mS => B_Mo_reads_20 68 s.1 s.2) (M + 1) (n, σ)) (zMr S r σ0) := by
  have t1 := r_takes0 (c := w32 (100 + 59)) hB h
  have fi := r_fine0 hB h
  have e47 := r_47 hB
  rw [if_neg h] at e47
  unfold miter
  refine wpo_call (Q := fun z => z = Sum.inr (0, (mup σ.1 68 11 (σ.1 68 18), σ.2))) ?_ ?_
  · show wpo (B_Mo_reads_20 68 n σ) _
    unfold B_Mo_reads_20 M_Mo_sign
    refine wpo_bind.mpr (wpo_some.mpr ?_)
    refine wpo_bind.mpr (wpo_gk.mpr ⟨zk68 hB ▸ rfl, ?_⟩)
    rw [t1]
    refine wpo_bind.mpr (wpo_some.mpr ?_)
    rw [if_pos rfl]
    refine wpo_bind.mpr (wpo_gk.mpr ⟨zk68 hB ▸ rfl, ?_⟩)
    rw [fi]
    refine wpo_bind.mpr (wpo_some.mpr ?_)
    rw [if_pos rfl]
    exact wpo_call e47 (fun q hq => wpo_some.mpr (by rw [hq]))
  · intro z hz
    rw [hz]
    refine wpo_some.mpr ⟨hF.fu.trans (zFu_11 hB), ?_, Or.inr ⟨hr.1, rfl, ?_⟩⟩
    · show mup σ.1 68 11 (σ.1 68 18) 68 10 = _
      rw [mup_slot (by decide)]; exact hF.2.2.2 10 (by decide) (by decide) (by decide)
    · show mup σ.1 68 11 (σ.1 68 18) 68 11 = _
      rw [mup_same]; exact hr.2
set_option maxHeartbeats 4000000 in
theorem r_20 {K V S : Nat → Int} {N : Nat} (hT : zTx K V N) (hY : zTy K S N) : ∀ (n M m a p : Nat) (g : (Int → Int) → Int) (σ0 σ : mS), n + 1 < M → N < a + n → 1 ≤ m → m ≤ 12 → zMp K V S N a p σ → zFt σ0 σ →
    wpo (miter (fun s : Int × mS => B_Mo_reads_20 68 s.1 s.2) M ((m : Int), σ)) (zMr S (zFin K (zCz K V n m a p g)) σ0) := by
  have n10 : ¬ (1 : Int) = 0 := by decide
  intro n
  induction n with
  | zero => intro M m a p g σ0 σ _ h1 _ _ h2; have := h2.2.2.2.2.1; omega
  | succ n ih =>
    intro M m a p g σ0 σ hM hn m1 m12 hP hF
    obtain ⟨M, rfl⟩ : ∃ K, M = K + 1 := ⟨M - 1, by omega⟩
    have N4 := hT.1
    have hB := hP.1.1
    have aN := hP.2.2.2.2.1
    have p50 := hP.2.2.2.2.2
    have t1 := r_takesE 59 (w32 (100 + 59)) N4 hY hP (by decide) (by decide)
    unfold miter
    by_cases c : K a = 59
    · rw [if_pos c] at t1
      have ne : a ≠ N := by intro e; rw [e, hT.2.1] at c; omega
      obtain ⟨tf, tp⟩ := zMp_tok hP (by omega)
      have hB1 := tp.1.1
      have wm : ∀ u : Int, u = (m : Int) → w32 (u + 1) = ((m + 1 : Nat) : Int) := fun u hu => by rw [w32_in (by omega) (by omega)]; omega
      have ok := zCla_ok hT m (a + 1) p g (by omega) p50
      have step : wpo (B_Mo_reads_20 68 (m : Int) σ) (fun z => ∃ q : Int × mS, z = Sum.inl (((m + 1 : Nat) : Int), q.2) ∧ zMc S (zCla K V m (a + 1) p g) (mup σ.1 68 16 ((a + 1 : Nat) : Int), σ.2) q) := by
        generalize eX : ((mup σ.1 68 16 ((a + 1 : Nat) : Int), σ.2) : mS) = X at *
        unfold B_Mo_reads_20 M_Mo_sign
        refine wpo_bind.mpr (wpo_some.mpr ?_)
        refine wpo_bind.mpr (wpo_gk.mpr ⟨zk68 hB ▸ rfl, ?_⟩)
        rw [t1]
        refine wpo_bind.mpr (wpo_some.mpr ?_)
        rw [if_neg n10]
        by_cases cm : m = 12
        · have cm' : (m : Int) = 12 := by omega
          rw [if_pos cm']
          have ff := r_faults N4 tp
          have f1 := zFt_68 (i := 18) (v := S (a + 1)) hB1 (by decide)
          have hB2 := f1.2.1
          have s0 := (hY.1 (a + 1) (by omega)).2.2
          have fi := r_fine0 hB2 (by show mup X.1 68 18 (S (a + 1)) 68 18 ≠ -1; rw [mup_same]; omega)
          refine wpo_bind.mpr (wpo_gk.mpr ⟨zk68 hB1 ▸ rfl, ?_⟩)
          rw [ff]
          refine wpo_bind.mpr (wpo_some.mpr ?_)
          unfold M_Mo_reads_30
          refine wpo_bind.mpr (wpo_gk.mpr ⟨zk68 hB2 ▸ rfl, ?_⟩)
          rw [fi]
          refine wpo_bind.mpr (wpo_some.mpr ?_)
          rw [if_pos rfl, wm _ rfl]
          refine wpo_some.mpr ⟨(0, _), rfl, ?_⟩
          have ez : zCla K V m (a + 1) p g = (0, a + 1, 0, g) := by unfold zCla; rw [if_neg (fun x => by omega)]
          rw [ez]
          exact ⟨f1, Or.inr ⟨rfl, by show mup X.1 68 18 (S (a + 1)) 68 18 = _; exact mup_same⟩⟩
        · have cm' : ¬ (m : Int) = 12 := by omega
          rw [if_neg cm']
          have fi := r_fine1 hB1 tp.2.2.2.1
          have cl := r_clause hT hY (m := m) (g := g) (by omega) tp
          unfold M_Mo_reads_30
          refine wpo_bind.mpr (wpo_gk.mpr ⟨zk68 hB1 ▸ rfl, ?_⟩)
          rw [fi]
          refine wpo_bind.mpr (wpo_some.mpr ?_)
          rw [if_neg n10]
          refine wpo_bind.mpr (wpo_gk.mpr ⟨zk68 hB1 ▸ rfl, ?_⟩)
          refine wpo_call cl (fun q hq => ?_)
          rw [wm _ rfl]
          exact wpo_some.mpr ⟨q, rfl, hq⟩
      refine wpo_call step ?_
      intro z ⟨q, hz, q1, q2⟩
      rw [hz]
      have fq := hF.trans (tf.trans q1)
      unfold zCz
      rw [if_pos c]
      rcases ok with ⟨k1, k2, k3, k4⟩ | ⟨k1, k2, k3⟩
      · rcases q2 with ⟨r1, r2⟩ | ⟨r1, _⟩
        · rw [if_pos r1]
          have m11 : m < 12 := by
            refine Decidable.byContradiction (fun hc => ?_)
            have ez : zCla K V m (a + 1) p g = (0, a + 1, 0, g) := by unfold zCla; rw [if_neg (fun x => hc x.1)]
            rw [ez] at r1
            exact absurd r1 (by show ¬ (0 : Nat) = 1; decide)
          exact ih M (m + 1) _ _ _ σ0 q.2 (by omega) (by omega) (by omega) (by omega) (zMp_ofc tp.1 q1 r2 k3 k4) fq
        · omega
      · rcases q2 with ⟨r1, _⟩ | ⟨r1, r2⟩
        · omega
        · rw [if_neg (by omega)]
          obtain ⟨M, rfl⟩ : ∃ K, M = K + 1 := ⟨M - 1, by omega⟩
          have ef : zFin K (zCla K V m (a + 1) p g) = zCla K V m (a + 1) p g := by unfold zFin; rw [if_neg (fun x => by omega)]
          rw [ef]
          have s0 := (hY.1 (zCla K V m (a + 1) p g).2.1 k3).2.2
          exact r_20bad q1.2.1 (by omega) ⟨r1, r2⟩ fq M
    · rw [if_neg c] at t1
      have fi := r_fine1 hB hP.2.2.2.1
      have h16 := hP.2.1
      have h15 := hP.1.2.1
      have h18 := hP.2.2.2.1
      unfold zCz
      rw [if_neg c]
      refine wpo_call (Q := fun z => ∃ q : Int × mS, z = Sum.inr q ∧ zMr S (zFin K (1, a, p, g)) σ0 q) ?_ ?_
      · show wpo (B_Mo_reads_20 68 (m : Int) σ) _
        unfold B_Mo_reads_20 M_Mo_sign
        refine wpo_bind.mpr (wpo_some.mpr ?_)
        refine wpo_bind.mpr (wpo_gk.mpr ⟨zk68 hB ▸ rfl, ?_⟩)
        rw [t1]
        refine wpo_bind.mpr (wpo_some.mpr ?_)
        rw [if_pos rfl]
        refine wpo_bind.mpr (wpo_gk.mpr ⟨zk68 hB ▸ rfl, ?_⟩)
        rw [fi]
        refine wpo_bind.mpr (wpo_some.mpr ?_)
        rw [if_neg n10]
        refine wpo_bind.mpr (wpo_gf.mpr ⟨zk68 hB ▸ rfl, ?_⟩)
        refine wpo_bind.mpr (wpo_gf.mpr ⟨zk68 hB ▸ rfl, ?_⟩)
        show wpo (if σ.1 68 16 < σ.1 68 15 then _ else _) _
        rw [h16, h15]
        by_cases ca : a = N
        · have ka : K a = 256 := by rw [ca]; exact hT.2.1
          have ef : zFin K (1, a, p, g) = (1, a, p, g) := if_neg (fun x => x.2 ka)
          rw [if_neg (by omega), ef]
          have e47 := r_47 hB
          rw [if_pos h18] at e47
          refine wpo_call e47 (fun q hq => wpo_some.mpr ⟨q, rfl, ?_⟩)
          rw [hq]
          refine ⟨hF.fu.trans (zFu_11 hB), ?_, Or.inl ⟨rfl, rfl, ?_⟩⟩
          · show mup σ.1 68 11 (σ.1 68 18) 68 10 = _
            rw [mup_slot (by decide)]; exact hF.2.2.2 10 (by decide) (by decide) (by decide)
          · show mup σ.1 68 11 (σ.1 68 18) 68 11 = _
            rw [mup_same]; exact h18
        · have ka : K a ≠ 256 := hY.2 a (by omega)
          have ef : zFin K (1, a, p, g) = (0, a, 0, fun _ => 10) := if_pos ⟨rfl, ka⟩
          rw [if_pos (by omega), ef]
          have ff := r_faults N4 hP
          have f1 := zFt_68 (i := 18) (v := S a) hB (by decide)
          have hB2 := f1.2.1
          have s0 := (hY.1 a aN).2.2
          have e47 := r_47 hB2
          have b18 : ((mup σ.1 68 18 (S a), σ.2) : mS).1 68 18 = S a := by show mup σ.1 68 18 (S a) 68 18 = S a; exact mup_same
          rw [b18, if_neg (show ¬ S a = -1 by omega)] at e47
          refine wpo_bind.mpr (wpo_gk.mpr ⟨zk68 hB ▸ rfl, ?_⟩)
          rw [ff]
          refine wpo_bind.mpr (wpo_some.mpr ?_)
          refine wpo_call e47 (fun q hq => wpo_some.mpr ⟨q, rfl, ?_⟩)
          rw [hq]
          refine ⟨hF.fu.trans (f1.fu.trans (zFu_11 hB2)), ?_, Or.inr ⟨rfl, rfl, ?_⟩⟩
          · show mup (mup σ.1 68 18 (S a)) 68 11 (S a) 68 10 = _
            rw [mup_slot (by decide), mup_slot (by decide)]; exact hF.2.2.2 10 (by decide) (by decide) (by decide)
          · show mup (mup σ.1 68 18 (S a)) 68 11 (S a) 68 11 = _
            exact mup_same
      · intro z ⟨q, hz, hq⟩
        rw [hz]
        exact wpo_some.mpr hq
set_option maxHeartbeats 4000000 in
/-- what is read by the reference, once it is split -/
theorem r_text {K V S : Nat → Int} {N : Nat} (hT : zTx K V N) (hY : zTy K S N) {σ : mS} (hM : zMt K V S N σ) :
    wpo ((pf 11 10 68 0 σ).bind fun σ => (pf 11 16 68 0 σ).bind fun σ => (pf 11 17 68 0 σ).bind fun σ => (pf 11 18 68 (-1) σ).bind fun σ => (gk 11 68 σ).bind fun _ => (M_Mo_readClause 68 σ).bind fun p3 => M_Mo_reads_20 68 1 p3.2)
      (fun q => zFu σ q.2 ∧ q.2.1 68 10 = 0 ∧ (((zTxt K V).1 = 1 ∧ q.1 = 1 ∧ q.2.1 68 11 = -1) ∨ ((zTxt K V).1 = 0 ∧ q.1 = 0 ∧ q.2.1 68 11 = S (zTxt K V).2.1))) := by
  have hB := hM.1
  have f1 : zFu σ (mup (mup (mup (mup σ.1 68 10 0) 68 16 0) 68 17 0) 68 18 (-1), σ.2) := by
    have b1 := zB_mup (r := 68) (i := 10) (v := 0) hB (by decide +kernel)
    have b2 := zB_mup (r := 68) (i := 16) (v := 0) b1 (by decide +kernel)
    have b3 := zB_mup (r := 68) (i := 17) (v := 0) b2 (by decide +kernel)
    have b4 := zB_mup (r := 68) (i := 18) (v := -1) b3 (by decide +kernel)
    refine ⟨rfl, b4, fun r a1 => ?_, fun i a1 a2 a3 a4 a5 => ?_⟩
    · show mup (mup (mup (mup σ.1 68 10 0) 68 16 0) 68 17 0) 68 18 (-1) r = σ.1 r
      rw [mup_fun a1, mup_fun a1, mup_fun a1, mup_fun a1]
    · show mup (mup (mup (mup σ.1 68 10 0) 68 16 0) 68 17 0) 68 18 (-1) 68 i = σ.1 68 i
      rw [mup_slot a5, mup_slot a4, mup_slot a3, mup_slot a1]
  have mp0 : zMp K V S N 0 0 (mup (mup (mup (mup σ.1 68 10 0) 68 16 0) 68 17 0) 68 18 (-1), σ.2) := by
    refine ⟨⟨f1.2.1, ?_, fun j hj => ?_⟩, ?_, ?_, ?_, by omega, by omega⟩
    · rw [f1.2.2.2 15 (by decide) (by decide) (by decide) (by decide) (by decide)]; exact hM.2.1
    · rw [f1.2.2.1 76 (by decide), f1.2.2.1 77 (by decide), f1.2.2.1 78 (by decide)]; exact hM.2.2 j hj
    · show mup (mup (mup (mup σ.1 68 10 0) 68 16 0) 68 17 0) 68 18 (-1) 68 16 = 0
      rw [mup_slot (by decide), mup_slot (by decide), mup_same]
    · show mup (mup (mup (mup σ.1 68 10 0) 68 16 0) 68 17 0) 68 18 (-1) 68 17 = 0
      rw [mup_slot (by decide), mup_same]
    · show mup (mup (mup (mup σ.1 68 10 0) 68 16 0) 68 17 0) 68 18 (-1) 68 18 = -1
      exact mup_same
  have e10 : ((mup (mup (mup (mup σ.1 68 10 0) 68 16 0) 68 17 0) 68 18 (-1), σ.2) : mS).1 68 10 = 0 := by
    show mup (mup (mup (mup σ.1 68 10 0) 68 16 0) 68 17 0) 68 18 (-1) 68 10 = 0
    rw [mup_slot (by decide), mup_slot (by decide), mup_slot (by decide), mup_same]
  have cl := r_clause hT hY (m := 0) (g := fun _ => 10) (by decide) mp0
  have ok := zCla_ok hT 0 0 0 (fun _ => 10) (by omega) (by omega)
  have hBx := f1.2.1
  have mt := mp0.1
  generalize eX : ((mup (mup (mup (mup σ.1 68 10 0) 68 16 0) 68 17 0) 68 18 (-1), σ.2) : mS) = X at *
  have N4 := hT.1
  have eT : zTxt K V = if (zCla K V 0 0 0 (fun _ => 10)).1 = 1 then zFin K (zCz K V 401 1 (zCla K V 0 0 0 (fun _ => 10)).2.1 (zCla K V 0 0 0 (fun _ => 10)).2.2.1 (zCla K V 0 0 0 (fun _ => 10)).2.2.2) else zCla K V 0 0 0 (fun _ => 10) := rfl
  rw [eT]
  generalize eR : zCla K V 0 0 0 (fun _ => 10) = R at *
  generalize hQ : (fun q : Int × mS => zFu σ q.2 ∧ q.2.1 68 10 = 0 ∧ (((if R.1 = 1 then zFin K (zCz K V 401 1 R.2.1 R.2.2.1 R.2.2.2) else R).1 = 1 ∧ q.1 = 1 ∧ q.2.1 68 11 = -1) ∨ ((if R.1 = 1 then zFin K (zCz K V 401 1 R.2.1 R.2.2.1 R.2.2.2) else R).1 = 0 ∧ q.1 = 0 ∧ q.2.1 68 11 = S (if R.1 = 1 then zFin K (zCz K V 401 1 R.2.1 R.2.2.1 R.2.2.2) else R).2.1))) = Q
  simp (maxSteps := 5000000) (disch := first | assumption | omega) only [wpo_bind, wpo_some, wpo_gf, wpo_gk, wpo_ld, wpo_pf, wpo_pz, wpo_sd, wpo_sr, wpo_ln, wpo_idv, wpo_irm, wpo_lrm, wpo_ldv, wpo_cpy, mlet, mnar_int, mup_same, mup_cell, mup_slot, ite_true, ite_false, true_and, and_true, eq_self, or_true, true_or, and_self, Int.reduceLT, Int.reduceLE, Int.reduceEq, Int.reduceNe, Int.reduceAdd, Int.reduceSub, Int.reduceMul, Int.reduceNeg, ne_eq, not_false_eq_true, not_true_eq_false, false_or, or_false, zor_inl, zor_inr, Bool.false_eq_true, false_and, and_false, zk1, zk2, zk3, zk4, zk5, zk6, zk7, zk8, zk9, zk10, zk11, zk12, zk13, zk14, zk15, zk16, zk17, zk18, zk19, zk20, zk21, zk22, zk23, zk24, zk25, zk26, zk27, zk28, zk29, zk30, zk31, zk32, zk33, zk34, zk35, zk36, zk37, zk38, zk39, zk40, zk41, zk42, zk43, zk44, zk45, zk46, zk47, zk48, zk49, zk50, zk51, zk52, zk53, zk54, zk55, zk56, zk57, zk58, zk59, zk60, zk61, zk62, zk63, zk64, zk65, zk66, zk67, zk68, zk69, zk70, zk71, zk72, zk73, zk74, zk75, zk76, zk77, zk78, zk79, zk80, zk81, zk82, zk83, zk84, zk85, zk86, zk87, zk88, zk89, zk90, zr2_0, zr2_1, zr2_2, zr2_3, zr2_4, zr2_6, zr2_7, zr2_10, zr2_11, zr2_12, zr1_0, zr1_1, zr14_0, zr14_1, zr14_2, zr14_3, zr14_4, zr14_6, zr14_7, zr14_10, zr14_11, zr14_12, zr13_0, zr25_0, zr25_1, zr25_2, zr25_3, zr25_4, zr25_6, zr25_7, zr25_10, zr25_11, zr25_12, zr13_1, zr1_2, zr37_0, zr1_3, zr39_0, zr39_1, zr39_2, zr39_5, zr39_7, zr39_8, zr1_4, zr46_1, zr46_2, zr46_3, zr46_4, zr46_0, zr1_5, zr51_2, zr51_10, zr51_0, zr51_1, zr54_1, zr54_2, zr54_3, zr1_6, zr58_1, zr58_2, zr58_3, zr58_0, zr1_7, zr62_2, zr62_3, zr62_0, zr62_1, zr1_8, zr1_9, zr1_10, zr1_15, zr68_2, zr68_3, zr68_4, zr68_5, zr68_7, zr68_8, zr68_9, zr68_12, zr68_13, zr68_14, zr68_22, zr68_23, zr68_24, zr68_26, zr68_35, zr68_36, zr68_37, zr68_38, zr68_39, zr68_40, zr68_41, zr68_42, eX]
  refine wpo_mono cl ?_
  intro q ⟨q1, q2⟩
  have fin : ∀ (r : zRc) (z : Int × mS), r = (if R.1 = 1 then zFin K (zCz K V 401 1 R.2.1 R.2.2.1 R.2.2.2) else R) → zMr S r X z → Q z := by
    intro r z hr ⟨z1, z2, z3⟩
    rw [← hQ, ← hr]
    exact ⟨f1.trans z1, by rw [z2]; exact e10, z3⟩
  unfold M_Mo_reads_20
  rcases ok with ⟨k1, k2, k3, k4⟩ | ⟨k1, k2, k3⟩
  · rcases q2 with ⟨r1, r2⟩ | ⟨r1, _⟩
    · have := r_20 hT hY 401 mN 1 R.2.1 R.2.2.1 R.2.2.2 X q.2 (by rw [mN_eq]; decide) (by omega) (by omega) (by omega) (zMp_ofc mt q1 r2 k3 k4) q1
      refine wpo_mono this (fun z hz => fin _ z ?_ hz)
      rw [if_pos r1]
    · omega
  · rcases q2 with ⟨r1, _⟩ | ⟨r1, r2⟩
    · omega
    · have s0 := (hY.1 R.2.1 k3).2.2
      have := r_20bad (S := S) (r := R) (n := 1) q1.2.1 (by omega) ⟨r1, r2⟩ q1 99999
      rw [mN_eq]
      refine wpo_mono this (fun z hz => fin _ z ?_ hz)
      rw [if_neg (by omega)]
