/-! COMPARISONS, NOT and brackets of the developers' reader -/
set_option maxHeartbeats 4000000 in
theorem d_cmp {K V : Nat → Int} {N : Nat} (hT : zTx K V N) {sm : Nat → Nat → zRe} (hs : zSub N zDb sm) {dep : Int} (hG : ∀ (a p : Nat) (s fl : Int) (σ : mS), zPre K V N a p s fl σ → wpo (R_Reader_readSum mD 217 [(3, 39), (1, dep)] σ) (zPo a p s fl (sm a p) σ))
    (a p : Nat) (s fl : Int) (σ : mS) (hP : zPre K V N a p s fl σ) : wpo (M_Reader_readComparison 39 dep σ) (zPo a p s fl (zCmp K sm a p) σ) := by
  have N4 := hT.1
  have hP0 := hP
  obtain ⟨tk, at', aN, p50, s00, sa, flb⟩ := hP
  have hB := tk.1
  have n10 : ¬ (1 : Int) = 0 := by decide
  unfold M_Reader_readComparison
  refine wpo_bind.mpr (wpo_gk.mpr ⟨zk39 hB ▸ rfl, ?_⟩)
  refine wpo_call (hG a p s fl σ hP0) ?_
  intro q ⟨q1, q2⟩
  have hBq := q1.2.1
  unfold zCmp
  rcases q2 with ⟨r1, r2, s', fl', r3, r4, r5, r6, r7⟩ | ⟨r1, r2, r3⟩
  · rw [if_pos r1]
    have tkq := tk.fr q1
    rcases hs a p aN p50 with ⟨k1, k2, k3, k4, k5, k6⟩ | ⟨k1, _⟩
    · have kh := d_kind (a := (sm a p).2.1) N4 tkq r3.1 k3
      by_cases c : K (sm a p).2.1 = 60 ∨ K (sm a p).2.1 = 62 ∨ K (sm a p).2.1 = 61
      · rw [if_pos c]
        have ne : (sm a p).2.1 ≠ N := by intro e; rw [e, hT.2.1] at c; omega
        obtain ⟨tf, ta, t43⟩ := zPre_tok (b := (sm a p).2.1 + 1) hBq r3
        have tk1 := tkq.fr tf
        have hB1 := tk1.1
        have pre1 : zPre K V N ((sm a p).2.1 + 1) (sm a p).2.2.1 s' fl' (mup q.2.1 39 4 (((sm a p).2.1 + 1 : Nat) : Int), q.2.2) := ⟨tk1, ta, by omega, k5, by omega, by omega, r6⟩
        have w1 : ∀ u : Int, u = ((sm a p).2.1 : Int) → w32 (u + 1) = (((sm a p).2.1 + 1 : Nat) : Int) := fun u hu => by rw [w32_in (by omega) (by omega)]; omega
        have tf' : zFr s q.2 (mup q.2.1 39 4 (((sm a p).2.1 + 1 : Nat) : Int), q.2.2) := ⟨tf.1, tf.2.1, tf.2.2.1, tf.2.2.2.1, fun k hk => tf.2.2.2.2 k (by omega)⟩
        have r34 := r3.1
        have key : wpo (M_Reader_readComparison_20 39 dep (K (sm a p).2.1) q.2) (zPo a p s fl (if (sm ((sm a p).2.1 + 1) (sm a p).2.2.1).1 = 1 then (1, (sm ((sm a p).2.1 + 1) (sm a p).2.2.1).2.1, (sm ((sm a p).2.1 + 1) (sm a p).2.2.1).2.2.1, zbin (K (sm a p).2.1) (sm a p).2.2.2 (sm ((sm a p).2.1 + 1) (sm a p).2.2.1).2.2.2) else sm ((sm a p).2.1 + 1) (sm a p).2.2.1) σ) := by
          generalize hQ : zPo a p s fl (if (sm ((sm a p).2.1 + 1) (sm a p).2.2.1).1 = 1 then (1, (sm ((sm a p).2.1 + 1) (sm a p).2.2.1).2.1, (sm ((sm a p).2.1 + 1) (sm a p).2.2.1).2.2.1, zbin (K (sm a p).2.1) (sm a p).2.2.2 (sm ((sm a p).2.1 + 1) (sm a p).2.2.1).2.2.2) else sm ((sm a p).2.1 + 1) (sm a p).2.2.1) σ = Q
          unfold M_Reader_readComparison_20
          simp (maxSteps := 5000000) (disch := first | assumption | omega) only [wpo_bind, wpo_some, wpo_gf, wpo_gk, wpo_ld, wpo_pf, wpo_pz, wpo_sd, wpo_sr, wpo_ln, wpo_idv, wpo_irm, wpo_lrm, wpo_ldv, wpo_cpy, mlet, mnar_int, mup_same, mup_cell, mup_slot, ite_true, ite_false, true_and, and_true, eq_self, or_true, true_or, and_self, Int.reduceLT, Int.reduceLE, Int.reduceEq, Int.reduceNe, Int.reduceAdd, Int.reduceSub, Int.reduceMul, Int.reduceNeg, ne_eq, not_false_eq_true, not_true_eq_false, false_or, or_false, zor_inl, zor_inr, Bool.false_eq_true, false_and, and_false, zk1, zk2, zk3, zk4, zk5, zk6, zk7, zk8, zk9, zk10, zk11, zk12, zk13, zk14, zk15, zk16, zk17, zk18, zk19, zk20, zk21, zk22, zk23, zk24, zk25, zk26, zk27, zk28, zk29, zk30, zk31, zk32, zk33, zk34, zk35, zk36, zk37, zk38, zk39, zk40, zk41, zk42, zk43, zk44, zk45, zk46, zk47, zk48, zk49, zk50, zk51, zk52, zk53, zk54, zk55, zk56, zk57, zk58, zk59, zk60, zk61, zk62, zk63, zk64, zk65, zk66, zk67, zk68, zk69, zk70, zk71, zk72, zk73, zk74, zk75, zk76, zk77, zk78, zk79, zk80, zk81, zk82, zk83, zk84, zk85, zk86, zk87, zk88, zk89, zk90, zr2_0, zr2_1, zr2_2, zr2_3, zr2_4, zr2_6, zr2_7, zr2_10, zr2_11, zr2_12, zr1_0, zr1_1, zr14_0, zr14_1, zr14_2, zr14_3, zr14_4, zr14_6, zr14_7, zr14_10, zr14_11, zr14_12, zr13_0, zr25_0, zr25_1, zr25_2, zr25_3, zr25_4, zr25_6, zr25_7, zr25_10, zr25_11, zr25_12, zr13_1, zr1_2, zr37_0, zr1_3, zr39_0, zr39_1, zr39_2, zr39_5, zr39_7, zr39_8, zr1_4, zr46_1, zr46_2, zr46_3, zr46_4, zr46_0, zr1_5, zr51_2, zr51_10, zr51_0, zr51_1, zr54_1, zr54_2, zr54_3, zr1_6, zr58_1, zr58_2, zr58_3, zr58_0, zr1_7, zr62_2, zr62_3, zr62_0, zr62_1, zr1_8, zr1_9, zr1_10, zr1_15, zr68_2, zr68_3, zr68_4, zr68_5, zr68_7, zr68_8, zr68_9, zr68_12, zr68_13, zr68_14, zr68_22, zr68_23, zr68_24, zr68_26, zr68_35, zr68_36, zr68_37, zr68_38, zr68_39, zr68_40, zr68_41, zr68_42, r34, w1]
          refine wpo_mono (hG _ _ _ _ _ pre1) ?_
          intro z ⟨z1, z2⟩
          subst hQ
          have hBz := z1.2.1
          have fz : zFr s σ z.2 := (q1.trans tf' (Int.le_refl s)).trans z1 (by omega)
          rcases z2 with ⟨x1, x2, s2, fl2, x3, x4, x5, x6, x7⟩ | ⟨x1, x2, x3⟩
          · rcases hs ((sm a p).2.1 + 1) (sm a p).2.2.1 (by omega) k5 with ⟨y1, y2, y3, y4, y5, y6⟩ | ⟨y1, _⟩
            · have tkz := tk1.fr z1
              have fin : ∀ kd : Nat, (kd : Int) = (if K (sm a p).2.1 = 60 then 9 else if K (sm a p).2.1 = 62 then 10 else 11) → zPo a p s fl (if (sm ((sm a p).2.1 + 1) (sm a p).2.2.1).1 = 1 then (1, (sm ((sm a p).2.1 + 1) (sm a p).2.2.1).2.1, (sm ((sm a p).2.1 + 1) (sm a p).2.2.1).2.2.1, zbin (K (sm a p).2.1) (sm a p).2.2.2 (sm ((sm a p).2.1 + 1) (sm a p).2.2.1).2.2.2) else sm ((sm a p).2.1 + 1) (sm a p).2.2.1) σ (1, (mup (mup z.2.1 43 s2 (ior (ishl 0 4) (kd : Int))) 39 6 (s2 + 1), z.2.2)) := by
                intro kd hkd
                have hk : zkop kd = K (sm a p).2.1 ∧ 5 ≤ kd ∧ kd ≤ 11 := by
                  rcases c with c | c | c
                  · rw [c] at hkd ⊢
                    have : kd = 9 := by simp at hkd; omega
                    subst this; decide
                  · rw [c] at hkd ⊢
                    have : kd = 10 := by simp at hkd; omega
                    subst this; decide
                  · rw [c] at hkd ⊢
                    have : kd = 11 := by simp at hkd; omega
                    subst this; decide
                obtain ⟨e1, e2, e3, e4⟩ := zPre_emit (x := ior (ishl 0 4) (kd : Int)) tkz x3
                have e1' : zFr s z.2 (mup (mup z.2.1 43 s2 (ior (ishl 0 4) (kd : Int))) 39 6 (s2 + 1), z.2.2) := ⟨e1.1, e1.2.1, e1.2.2.1, e1.2.2.2.1, fun k hk => e1.2.2.2.2 k (by omega)⟩
                rw [if_pos x1]
                refine ⟨fz.trans e1' (Int.le_refl s), Or.inl ⟨rfl, rfl, s2 + 1, fl2, e2, ⟨by omega, by show s2 + 1 - s ≤ ((sm ((sm a p).2.1 + 1) (sm a p).2.2.1).2.1 : Int) - a; omega⟩, ?_, x6, ?_⟩⟩
                · have z3 : zF (mup (mup z.2.1 43 s2 (ior (ishl 0 4) (kd : Int))) 39 6 (s2 + 1) 43) s s' (((sm a p).2.2.1 : Int) - p) (sm a p).2.2.2 := by
                    refine zF_of r5 (fun k x y => ?_)
                    rw [e4 k (by omega), z1.2.2.2.2 k (by omega)]
                    exact congrFun t43 k
                  have z4 : zF (mup (mup z.2.1 43 s2 (ior (ishl 0 4) (kd : Int))) 39 6 (s2 + 1) 43) s' s2 (((sm ((sm a p).2.1 + 1) (sm a p).2.2.1).2.2.1 : Int) - (sm a p).2.2.1) (sm ((sm a p).2.1 + 1) (sm a p).2.2.1).2.2.2 := zF_of x5 (fun k x y => e4 k (by omega))
                  have z5 := zF_bin z3 z4 (e3.trans (insk kd (by omega))) (by omega)
                  rw [hk.1] at z5
                  have e0 : (((sm a p).2.2.1 : Int) - p) + (((sm ((sm a p).2.1 + 1) (sm a p).2.2.1).2.2.1 : Int) - (sm a p).2.2.1) = ((sm ((sm a p).2.1 + 1) (sm a p).2.2.1).2.2.1 : Int) - p := by omega
                  rw [e0] at z5
                  exact z5
                · intro h0
                  have h1 := x7 h0
                  have h2 := r7 h1.1
                  exact ⟨h2.1, zNH_bin h2.2 h1.2⟩
              generalize zPo a p s fl (if (sm ((sm a p).2.1 + 1) (sm a p).2.2.1).1 = 1 then (1, (sm ((sm a p).2.1 + 1) (sm a p).2.2.1).2.1, (sm ((sm a p).2.1 + 1) (sm a p).2.2.1).2.2.1, zbin (K (sm a p).2.1) (sm a p).2.2.2 (sm ((sm a p).2.1 + 1) (sm a p).2.2.1).2.2.2) else sm ((sm a p).2.1 + 1) (sm a p).2.2.1) σ = Q at *
              have em9 := d_emit (s := s2) (kd := 9) (n := 0) hBz x3.2.2.1 (by omega) (by omega)
              have em10 := d_emit (s := s2) (kd := 10) (n := 0) hBz x3.2.2.1 (by omega) (by omega)
              have em11 := d_emit (s := s2) (kd := 11) (n := 0) hBz x3.2.2.1 (by omega) (by omega)
              simp (maxSteps := 5000000) (disch := first | assumption | omega) only [wpo_bind, wpo_some, wpo_gf, wpo_gk, wpo_ld, wpo_pf, wpo_pz, wpo_sd, wpo_sr, wpo_ln, wpo_idv, wpo_irm, wpo_lrm, wpo_ldv, wpo_cpy, mlet, mnar_int, mup_same, mup_cell, mup_slot, ite_true, ite_false, true_and, and_true, eq_self, or_true, true_or, and_self, Int.reduceLT, Int.reduceLE, Int.reduceEq, Int.reduceNe, Int.reduceAdd, Int.reduceSub, Int.reduceMul, Int.reduceNeg, ne_eq, not_false_eq_true, not_true_eq_false, false_or, or_false, zor_inl, zor_inr, Bool.false_eq_true, false_and, and_false, zk1, zk2, zk3, zk4, zk5, zk6, zk7, zk8, zk9, zk10, zk11, zk12, zk13, zk14, zk15, zk16, zk17, zk18, zk19, zk20, zk21, zk22, zk23, zk24, zk25, zk26, zk27, zk28, zk29, zk30, zk31, zk32, zk33, zk34, zk35, zk36, zk37, zk38, zk39, zk40, zk41, zk42, zk43, zk44, zk45, zk46, zk47, zk48, zk49, zk50, zk51, zk52, zk53, zk54, zk55, zk56, zk57, zk58, zk59, zk60, zk61, zk62, zk63, zk64, zk65, zk66, zk67, zk68, zk69, zk70, zk71, zk72, zk73, zk74, zk75, zk76, zk77, zk78, zk79, zk80, zk81, zk82, zk83, zk84, zk85, zk86, zk87, zk88, zk89, zk90, zr2_0, zr2_1, zr2_2, zr2_3, zr2_4, zr2_6, zr2_7, zr2_10, zr2_11, zr2_12, zr1_0, zr1_1, zr14_0, zr14_1, zr14_2, zr14_3, zr14_4, zr14_6, zr14_7, zr14_10, zr14_11, zr14_12, zr13_0, zr25_0, zr25_1, zr25_2, zr25_3, zr25_4, zr25_6, zr25_7, zr25_10, zr25_11, zr25_12, zr13_1, zr1_2, zr37_0, zr1_3, zr39_0, zr39_1, zr39_2, zr39_5, zr39_7, zr39_8, zr1_4, zr46_1, zr46_2, zr46_3, zr46_4, zr46_0, zr1_5, zr51_2, zr51_10, zr51_0, zr51_1, zr54_1, zr54_2, zr54_3, zr1_6, zr58_1, zr58_2, zr58_3, zr58_0, zr1_7, zr62_2, zr62_3, zr62_0, zr62_1, zr1_8, zr1_9, zr1_10, zr1_15, zr68_2, zr68_3, zr68_4, zr68_5, zr68_7, zr68_8, zr68_9, zr68_12, zr68_13, zr68_14, zr68_22, zr68_23, zr68_24, zr68_26, zr68_35, zr68_36, zr68_37, zr68_38, zr68_39, zr68_40, zr68_41, zr68_42, x2, n10]
              by_cases c1 : K (sm a p).2.1 = 60
              · rw [if_pos c1]
                simp (maxSteps := 5000000) (disch := first | assumption | omega) only [wpo_bind, wpo_some, wpo_gf, wpo_gk, wpo_ld, wpo_pf, wpo_pz, wpo_sd, wpo_sr, wpo_ln, wpo_idv, wpo_irm, wpo_lrm, wpo_ldv, wpo_cpy, mlet, mnar_int, mup_same, mup_cell, mup_slot, ite_true, ite_false, true_and, and_true, eq_self, or_true, true_or, and_self, Int.reduceLT, Int.reduceLE, Int.reduceEq, Int.reduceNe, Int.reduceAdd, Int.reduceSub, Int.reduceMul, Int.reduceNeg, ne_eq, not_false_eq_true, not_true_eq_false, false_or, or_false, zor_inl, zor_inr, Bool.false_eq_true, false_and, and_false, zk1, zk2, zk3, zk4, zk5, zk6, zk7, zk8, zk9, zk10, zk11, zk12, zk13, zk14, zk15, zk16, zk17, zk18, zk19, zk20, zk21, zk22, zk23, zk24, zk25, zk26, zk27, zk28, zk29, zk30, zk31, zk32, zk33, zk34, zk35, zk36, zk37, zk38, zk39, zk40, zk41, zk42, zk43, zk44, zk45, zk46, zk47, zk48, zk49, zk50, zk51, zk52, zk53, zk54, zk55, zk56, zk57, zk58, zk59, zk60, zk61, zk62, zk63, zk64, zk65, zk66, zk67, zk68, zk69, zk70, zk71, zk72, zk73, zk74, zk75, zk76, zk77, zk78, zk79, zk80, zk81, zk82, zk83, zk84, zk85, zk86, zk87, zk88, zk89, zk90, zr2_0, zr2_1, zr2_2, zr2_3, zr2_4, zr2_6, zr2_7, zr2_10, zr2_11, zr2_12, zr1_0, zr1_1, zr14_0, zr14_1, zr14_2, zr14_3, zr14_4, zr14_6, zr14_7, zr14_10, zr14_11, zr14_12, zr13_0, zr25_0, zr25_1, zr25_2, zr25_3, zr25_4, zr25_6, zr25_7, zr25_10, zr25_11, zr25_12, zr13_1, zr1_2, zr37_0, zr1_3, zr39_0, zr39_1, zr39_2, zr39_5, zr39_7, zr39_8, zr1_4, zr46_1, zr46_2, zr46_3, zr46_4, zr46_0, zr1_5, zr51_2, zr51_10, zr51_0, zr51_1, zr54_1, zr54_2, zr54_3, zr1_6, zr58_1, zr58_2, zr58_3, zr58_0, zr1_7, zr62_2, zr62_3, zr62_0, zr62_1, zr1_8, zr1_9, zr1_10, zr1_15, zr68_2, zr68_3, zr68_4, zr68_5, zr68_7, zr68_8, zr68_9, zr68_12, zr68_13, zr68_14, zr68_22, zr68_23, zr68_24, zr68_26, zr68_35, zr68_36, zr68_37, zr68_38, zr68_39, zr68_40, zr68_41, zr68_42, em9]
                exact fin 9 (by rw [if_pos c1]; rfl)
              · rw [if_neg c1]
                by_cases c2 : K (sm a p).2.1 = 62
                · rw [if_pos c2]
                  simp (maxSteps := 5000000) (disch := first | assumption | omega) only [wpo_bind, wpo_some, wpo_gf, wpo_gk, wpo_ld, wpo_pf, wpo_pz, wpo_sd, wpo_sr, wpo_ln, wpo_idv, wpo_irm, wpo_lrm, wpo_ldv, wpo_cpy, mlet, mnar_int, mup_same, mup_cell, mup_slot, ite_true, ite_false, true_and, and_true, eq_self, or_true, true_or, and_self, Int.reduceLT, Int.reduceLE, Int.reduceEq, Int.reduceNe, Int.reduceAdd, Int.reduceSub, Int.reduceMul, Int.reduceNeg, ne_eq, not_false_eq_true, not_true_eq_false, false_or, or_false, zor_inl, zor_inr, Bool.false_eq_true, false_and, and_false, zk1, zk2, zk3, zk4, zk5, zk6, zk7, zk8, zk9, zk10, zk11, zk12, zk13, zk14, zk15, zk16, zk17, zk18, zk19, zk20, zk21, zk22, zk23, zk24, zk25, zk26, zk27, zk28, zk29, zk30, zk31, zk32, zk33, zk34, zk35, zk36, zk37, zk38, zk39, zk40, zk41, zk42, zk43, zk44, zk45, zk46, zk47, zk48, zk49, zk50, zk51, zk52, zk53, zk54, zk55, zk56, zk57, zk58, zk59, zk60, zk61, zk62, zk63, zk64, zk65, zk66, zk67, zk68, zk69, zk70, zk71, zk72, zk73, zk74, zk75, zk76, zk77, zk78, zk79, zk80, zk81, zk82, zk83, zk84, zk85, zk86, zk87, zk88, zk89, zk90, zr2_0, zr2_1, zr2_2, zr2_3, zr2_4, zr2_6, zr2_7, zr2_10, zr2_11, zr2_12, zr1_0, zr1_1, zr14_0, zr14_1, zr14_2, zr14_3, zr14_4, zr14_6, zr14_7, zr14_10, zr14_11, zr14_12, zr13_0, zr25_0, zr25_1, zr25_2, zr25_3, zr25_4, zr25_6, zr25_7, zr25_10, zr25_11, zr25_12, zr13_1, zr1_2, zr37_0, zr1_3, zr39_0, zr39_1, zr39_2, zr39_5, zr39_7, zr39_8, zr1_4, zr46_1, zr46_2, zr46_3, zr46_4, zr46_0, zr1_5, zr51_2, zr51_10, zr51_0, zr51_1, zr54_1, zr54_2, zr54_3, zr1_6, zr58_1, zr58_2, zr58_3, zr58_0, zr1_7, zr62_2, zr62_3, zr62_0, zr62_1, zr1_8, zr1_9, zr1_10, zr1_15, zr68_2, zr68_3, zr68_4, zr68_5, zr68_7, zr68_8, zr68_9, zr68_12, zr68_13, zr68_14, zr68_22, zr68_23, zr68_24, zr68_26, zr68_35, zr68_36, zr68_37, zr68_38, zr68_39, zr68_40, zr68_41, zr68_42, em10]
                  exact fin 10 (by rw [if_neg c1, if_pos c2]; rfl)
                · rw [if_neg c2]
                  simp (maxSteps := 5000000) (disch := first | assumption | omega) only [wpo_bind, wpo_some, wpo_gf, wpo_gk, wpo_ld, wpo_pf, wpo_pz, wpo_sd, wpo_sr, wpo_ln, wpo_idv, wpo_irm, wpo_lrm, wpo_ldv, wpo_cpy, mlet, mnar_int, mup_same, mup_cell, mup_slot, ite_true, ite_false, true_and, and_true, eq_self, or_true, true_or, and_self, Int.reduceLT, Int.reduceLE, Int.reduceEq, Int.reduceNe, Int.reduceAdd, Int.reduceSub, Int.reduceMul, Int.reduceNeg, ne_eq, not_false_eq_true, not_true_eq_false, false_or, or_false, zor_inl, zor_inr, Bool.false_eq_true, false_and, and_false, zk1, zk2, zk3, zk4, zk5, zk6, zk7, zk8, zk9, zk10, zk11, zk12, zk13, zk14, zk15, zk16, zk17, zk18, zk19, zk20, zk21, zk22, zk23, zk24, zk25, zk26, zk27, zk28, zk29, zk30, zk31, zk32, zk33, zk34, zk35, zk36, zk37, zk38, zk39, zk40, zk41, zk42, zk43, zk44, zk45, zk46, zk47, zk48, zk49, zk50, zk51, zk52, zk53, zk54, zk55, zk56, zk57, zk58, zk59, zk60, zk61, zk62, zk63, zk64, zk65, zk66, zk67, zk68, zk69, zk70, zk71, zk72, zk73, zk74, zk75, zk76, zk77, zk78, zk79, zk80, zk81, zk82, zk83, zk84, zk85, zk86, zk87, zk88, zk89, zk90, zr2_0, zr2_1, zr2_2, zr2_3, zr2_4, zr2_6, zr2_7, zr2_10, zr2_11, zr2_12, zr1_0, zr1_1, zr14_0, zr14_1, zr14_2, zr14_3, zr14_4, zr14_6, zr14_7, zr14_10, zr14_11, zr14_12, zr13_0, zr25_0, zr25_1, zr25_2, zr25_3, zr25_4, zr25_6, zr25_7, zr25_10, zr25_11, zr25_12, zr13_1, zr1_2, zr37_0, zr1_3, zr39_0, zr39_1, zr39_2, zr39_5, zr39_7, zr39_8, zr1_4, zr46_1, zr46_2, zr46_3, zr46_4, zr46_0, zr1_5, zr51_2, zr51_10, zr51_0, zr51_1, zr54_1, zr54_2, zr54_3, zr1_6, zr58_1, zr58_2, zr58_3, zr58_0, zr1_7, zr62_2, zr62_3, zr62_0, zr62_1, zr1_8, zr1_9, zr1_10, zr1_15, zr68_2, zr68_3, zr68_4, zr68_5, zr68_7, zr68_8, zr68_9, zr68_12, zr68_13, zr68_14, zr68_22, zr68_23, zr68_24, zr68_26, zr68_35, zr68_36, zr68_37, zr68_38, zr68_39, zr68_40, zr68_41, zr68_42, em11]
                  exact fin 11 (by rw [if_neg c1, if_neg c2]; rfl)
            · omega
          · rw [if_pos x2, if_neg (show ¬ (sm ((sm a p).2.1 + 1) (sm a p).2.2.1).1 = 1 by omega)]
            exact wpo_some.mpr ⟨fz, Or.inr ⟨x1, rfl, x3⟩⟩
        generalize zPo a p s fl (if (sm ((sm a p).2.1 + 1) (sm a p).2.2.1).1 = 1 then (1, (sm ((sm a p).2.1 + 1) (sm a p).2.2.1).2.1, (sm ((sm a p).2.1 + 1) (sm a p).2.2.1).2.2.1, zbin (K (sm a p).2.1) (sm a p).2.2.2 (sm ((sm a p).2.1 + 1) (sm a p).2.2.1).2.2.2) else sm ((sm a p).2.1 + 1) (sm a p).2.2.1) σ = Q at *
        simp (maxSteps := 5000000) (disch := first | assumption | omega) only [wpo_bind, wpo_some, wpo_gf, wpo_gk, wpo_ld, wpo_pf, wpo_pz, wpo_sd, wpo_sr, wpo_ln, wpo_idv, wpo_irm, wpo_lrm, wpo_ldv, wpo_cpy, mlet, mnar_int, mup_same, mup_cell, mup_slot, ite_true, ite_false, true_and, and_true, eq_self, or_true, true_or, and_self, Int.reduceLT, Int.reduceLE, Int.reduceEq, Int.reduceNe, Int.reduceAdd, Int.reduceSub, Int.reduceMul, Int.reduceNeg, ne_eq, not_false_eq_true, not_true_eq_false, false_or, or_false, zor_inl, zor_inr, Bool.false_eq_true, false_and, and_false, zk1, zk2, zk3, zk4, zk5, zk6, zk7, zk8, zk9, zk10, zk11, zk12, zk13, zk14, zk15, zk16, zk17, zk18, zk19, zk20, zk21, zk22, zk23, zk24, zk25, zk26, zk27, zk28, zk29, zk30, zk31, zk32, zk33, zk34, zk35, zk36, zk37, zk38, zk39, zk40, zk41, zk42, zk43, zk44, zk45, zk46, zk47, zk48, zk49, zk50, zk51, zk52, zk53, zk54, zk55, zk56, zk57, zk58, zk59, zk60, zk61, zk62, zk63, zk64, zk65, zk66, zk67, zk68, zk69, zk70, zk71, zk72, zk73, zk74, zk75, zk76, zk77, zk78, zk79, zk80, zk81, zk82, zk83, zk84, zk85, zk86, zk87, zk88, zk89, zk90, zr2_0, zr2_1, zr2_2, zr2_3, zr2_4, zr2_6, zr2_7, zr2_10, zr2_11, zr2_12, zr1_0, zr1_1, zr14_0, zr14_1, zr14_2, zr14_3, zr14_4, zr14_6, zr14_7, zr14_10, zr14_11, zr14_12, zr13_0, zr25_0, zr25_1, zr25_2, zr25_3, zr25_4, zr25_6, zr25_7, zr25_10, zr25_11, zr25_12, zr13_1, zr1_2, zr37_0, zr1_3, zr39_0, zr39_1, zr39_2, zr39_5, zr39_7, zr39_8, zr1_4, zr46_1, zr46_2, zr46_3, zr46_4, zr46_0, zr1_5, zr51_2, zr51_10, zr51_0, zr51_1, zr54_1, zr54_2, zr54_3, zr1_6, zr58_1, zr58_2, zr58_3, zr58_0, zr1_7, zr62_2, zr62_3, zr62_0, zr62_1, zr1_8, zr1_9, zr1_10, zr1_15, zr68_2, zr68_3, zr68_4, zr68_5, zr68_7, zr68_8, zr68_9, zr68_12, zr68_13, zr68_14, zr68_22, zr68_23, zr68_24, zr68_26, zr68_35, zr68_36, zr68_37, zr68_38, zr68_39, zr68_40, zr68_41, zr68_42, r2, n10, kh]
        rcases c with c | c | c
        · rw [if_pos c]; exact key
        · rw [if_neg (by omega), if_pos c]; exact key
        · rw [if_neg (by omega), if_neg (by omega), if_pos c]; exact key
      · rw [if_neg c]
        have c1 : ¬ K (sm a p).2.1 = 60 := by omega
        have c2 : ¬ K (sm a p).2.1 = 62 := by omega
        have c3 : ¬ K (sm a p).2.1 = 61 := by omega
        have po : zPo a p s fl (zno (sm a p).2.1 (sm a p).2.2.1) σ (0, q.2) := ⟨q1, Or.inr ⟨rfl, rfl, r3.1⟩⟩
        generalize zPo a p s fl (zno (sm a p).2.1 (sm a p).2.2.1) σ = Q at *
        simp (maxSteps := 5000000) (disch := first | assumption | omega) only [wpo_bind, wpo_some, wpo_gf, wpo_gk, wpo_ld, wpo_pf, wpo_pz, wpo_sd, wpo_sr, wpo_ln, wpo_idv, wpo_irm, wpo_lrm, wpo_ldv, wpo_cpy, mlet, mnar_int, mup_same, mup_cell, mup_slot, ite_true, ite_false, true_and, and_true, eq_self, or_true, true_or, and_self, Int.reduceLT, Int.reduceLE, Int.reduceEq, Int.reduceNe, Int.reduceAdd, Int.reduceSub, Int.reduceMul, Int.reduceNeg, ne_eq, not_false_eq_true, not_true_eq_false, false_or, or_false, zor_inl, zor_inr, Bool.false_eq_true, false_and, and_false, zk1, zk2, zk3, zk4, zk5, zk6, zk7, zk8, zk9, zk10, zk11, zk12, zk13, zk14, zk15, zk16, zk17, zk18, zk19, zk20, zk21, zk22, zk23, zk24, zk25, zk26, zk27, zk28, zk29, zk30, zk31, zk32, zk33, zk34, zk35, zk36, zk37, zk38, zk39, zk40, zk41, zk42, zk43, zk44, zk45, zk46, zk47, zk48, zk49, zk50, zk51, zk52, zk53, zk54, zk55, zk56, zk57, zk58, zk59, zk60, zk61, zk62, zk63, zk64, zk65, zk66, zk67, zk68, zk69, zk70, zk71, zk72, zk73, zk74, zk75, zk76, zk77, zk78, zk79, zk80, zk81, zk82, zk83, zk84, zk85, zk86, zk87, zk88, zk89, zk90, zr2_0, zr2_1, zr2_2, zr2_3, zr2_4, zr2_6, zr2_7, zr2_10, zr2_11, zr2_12, zr1_0, zr1_1, zr14_0, zr14_1, zr14_2, zr14_3, zr14_4, zr14_6, zr14_7, zr14_10, zr14_11, zr14_12, zr13_0, zr25_0, zr25_1, zr25_2, zr25_3, zr25_4, zr25_6, zr25_7, zr25_10, zr25_11, zr25_12, zr13_1, zr1_2, zr37_0, zr1_3, zr39_0, zr39_1, zr39_2, zr39_5, zr39_7, zr39_8, zr1_4, zr46_1, zr46_2, zr46_3, zr46_4, zr46_0, zr1_5, zr51_2, zr51_10, zr51_0, zr51_1, zr54_1, zr54_2, zr54_3, zr1_6, zr58_1, zr58_2, zr58_3, zr58_0, zr1_7, zr62_2, zr62_3, zr62_0, zr62_1, zr1_8, zr1_9, zr1_10, zr1_15, zr68_2, zr68_3, zr68_4, zr68_5, zr68_7, zr68_8, zr68_9, zr68_12, zr68_13, zr68_14, zr68_22, zr68_23, zr68_24, zr68_26, zr68_35, zr68_36, zr68_37, zr68_38, zr68_39, zr68_40, zr68_41, zr68_42, r2, n10, kh, c1, c2, c3]
        exact po
    · omega
  · rw [if_neg (show ¬ (sm a p).1 = 1 by omega), if_pos r2, if_pos (Or.inl rfl)]
    exact wpo_some.mpr ⟨q1, Or.inr ⟨r1, rfl, r3⟩⟩
/-- a reading further on is one from here -/
theorem zPo_at {a b p : Nat} {s fl : Int} {r : zRe} {σ σ1 : mS} {q : Int × mS} (h : zPo b p s fl r σ1 q) (f : zFr s σ σ1) (hab : a ≤ b) : zPo a p s fl r σ q := by
  obtain ⟨q1, q2⟩ := h
  refine ⟨f.trans q1 (Int.le_refl s), ?_⟩
  rcases q2 with ⟨r1, r2, s', fl', r3, r4, r5, r6, r7⟩ | h
  · exact Or.inl ⟨r1, r2, s', fl', r3, ⟨r4.1, by omega⟩, r5, r6, r7⟩
  · exact Or.inr h
set_option maxHeartbeats 4000000 in
theorem d_plain {K V : Nat → Int} {N : Nat} (hT : zTx K V N) {g : Nat → Nat → zRe} (hg : zSub N zD1 g) {G : Nat → List mV → mS → Option (Int × mS)} {dep : Int} (hG : ∀ (a p : Nat) (s fl : Int) (σ : mS), K a ≠ 263 → zPre K V N a p s fl σ → (K a = 40 → wpo (G 215 [(3, 39), (1, dep)] σ) (zPo a p s fl (g a p) σ)) ∧ (K a ≠ 40 → wpo (M_Reader_readComparison 39 dep σ) (zPo a p s fl (g a p) σ))) :
    ∀ (n M a0 a p : Nat) (i s fl : Int) (σ0 σ : mS), n < M → N < a + n → zPre K V N a p s fl σ → i = (a : Int) - a0 → a0 ≤ a → zFr s σ0 σ → zNt K 401 a0 = zNt K n a → a0 ≤ N → p ≤ 50 → s ≤ (a0 : Int) →
    wpo (miter (fun s : Int × Int × mS => B_Reader_readPlain_4 G 39 dep s.1 s.2.1 s.2.2) M ((((a - a0) % 2 : Nat) : Int), i, σ)) (zPo a0 p s fl (zPlN K g a0 p) σ0) := by
  have n10 : ¬ (1 : Int) = 0 := by decide
  intro n
  induction n with
  | zero => intro M a0 a p i s fl σ0 σ _ h1 h2; have := h2.2.2.1; omega
  | succ n ih =>
    intro M a0 a p i s fl σ0 σ hM hn hP hi ha hF hz ha0 hp sa0
    obtain ⟨M, rfl⟩ : ∃ K, M = K + 1 := ⟨M - 1, by omega⟩
    have hP0 := hP
    obtain ⟨tk, at', aN, p50, s00, sa, flb⟩ := hP
    have hB := tk.1
    have N4 := hT.1
    have tt := d_takes (k := 263) N4 tk at'.1 aN
    have kh := d_kind (a := a) N4 tk at'.1 aN
    unfold miter
    by_cases c : K a = 263
    · rw [if_pos c] at tt
      have ne : a ≠ N := by intro e; rw [e, hT.2.1] at c; omega
      obtain ⟨tf, ta, t43⟩ := zPre_tok (b := a + 1) hB at'
      have i4 : i < 400 := by omega
      have wi : ∀ u : Int, u = i → w32 (u + 1) = i + 1 := fun u hu => by rw [w32_in (by omega) (by omega)]; omega
      refine wpo_call (Q := fun z => z = Sum.inl ((((a + 1 - a0) % 2 : Nat) : Int), i + 1, (mup σ.1 39 4 ((a + 1 : Nat) : Int), σ.2))) ?_ ?_
      · show wpo (B_Reader_readPlain_4 G 39 dep (((a - a0) % 2 : Nat) : Int) i σ) _
        unfold B_Reader_readPlain_4
        by_cases cp : (a - a0) % 2 = 0
        · have e1 : (((a - a0) % 2 : Nat) : Int) = 0 := by omega
          have e2 : (((a + 1 - a0) % 2 : Nat) : Int) = 1 := by omega
          rw [e1, e2]
          simp (maxSteps := 5000000) (disch := first | assumption | omega) only [wpo_bind, wpo_some, wpo_gf, wpo_gk, wpo_ld, wpo_pf, wpo_pz, wpo_sd, wpo_sr, wpo_ln, wpo_idv, wpo_irm, wpo_lrm, wpo_ldv, wpo_cpy, mlet, mnar_int, mup_same, mup_cell, mup_slot, ite_true, ite_false, true_and, and_true, eq_self, or_true, true_or, and_self, Int.reduceLT, Int.reduceLE, Int.reduceEq, Int.reduceNe, Int.reduceAdd, Int.reduceSub, Int.reduceMul, Int.reduceNeg, ne_eq, not_false_eq_true, not_true_eq_false, false_or, or_false, zor_inl, zor_inr, Bool.false_eq_true, false_and, and_false, zk1, zk2, zk3, zk4, zk5, zk6, zk7, zk8, zk9, zk10, zk11, zk12, zk13, zk14, zk15, zk16, zk17, zk18, zk19, zk20, zk21, zk22, zk23, zk24, zk25, zk26, zk27, zk28, zk29, zk30, zk31, zk32, zk33, zk34, zk35, zk36, zk37, zk38, zk39, zk40, zk41, zk42, zk43, zk44, zk45, zk46, zk47, zk48, zk49, zk50, zk51, zk52, zk53, zk54, zk55, zk56, zk57, zk58, zk59, zk60, zk61, zk62, zk63, zk64, zk65, zk66, zk67, zk68, zk69, zk70, zk71, zk72, zk73, zk74, zk75, zk76, zk77, zk78, zk79, zk80, zk81, zk82, zk83, zk84, zk85, zk86, zk87, zk88, zk89, zk90, zr2_0, zr2_1, zr2_2, zr2_3, zr2_4, zr2_6, zr2_7, zr2_10, zr2_11, zr2_12, zr1_0, zr1_1, zr14_0, zr14_1, zr14_2, zr14_3, zr14_4, zr14_6, zr14_7, zr14_10, zr14_11, zr14_12, zr13_0, zr25_0, zr25_1, zr25_2, zr25_3, zr25_4, zr25_6, zr25_7, zr25_10, zr25_11, zr25_12, zr13_1, zr1_2, zr37_0, zr1_3, zr39_0, zr39_1, zr39_2, zr39_5, zr39_7, zr39_8, zr1_4, zr46_1, zr46_2, zr46_3, zr46_4, zr46_0, zr1_5, zr51_2, zr51_10, zr51_0, zr51_1, zr54_1, zr54_2, zr54_3, zr1_6, zr58_1, zr58_2, zr58_3, zr58_0, zr1_7, zr62_2, zr62_3, zr62_0, zr62_1, zr1_8, zr1_9, zr1_10, zr1_15, zr68_2, zr68_3, zr68_4, zr68_5, zr68_7, zr68_8, zr68_9, zr68_12, zr68_13, zr68_14, zr68_22, zr68_23, zr68_24, zr68_26, zr68_35, zr68_36, zr68_37, zr68_38, zr68_39, zr68_40, zr68_41, zr68_42, i4, tt, n10, wi]
        · have e1 : (((a - a0) % 2 : Nat) : Int) = 1 := by omega
          have e2 : (((a + 1 - a0) % 2 : Nat) : Int) = 0 := by omega
          rw [e1, e2]
          simp (maxSteps := 5000000) (disch := first | assumption | omega) only [wpo_bind, wpo_some, wpo_gf, wpo_gk, wpo_ld, wpo_pf, wpo_pz, wpo_sd, wpo_sr, wpo_ln, wpo_idv, wpo_irm, wpo_lrm, wpo_ldv, wpo_cpy, mlet, mnar_int, mup_same, mup_cell, mup_slot, ite_true, ite_false, true_and, and_true, eq_self, or_true, true_or, and_self, Int.reduceLT, Int.reduceLE, Int.reduceEq, Int.reduceNe, Int.reduceAdd, Int.reduceSub, Int.reduceMul, Int.reduceNeg, ne_eq, not_false_eq_true, not_true_eq_false, false_or, or_false, zor_inl, zor_inr, Bool.false_eq_true, false_and, and_false, zk1, zk2, zk3, zk4, zk5, zk6, zk7, zk8, zk9, zk10, zk11, zk12, zk13, zk14, zk15, zk16, zk17, zk18, zk19, zk20, zk21, zk22, zk23, zk24, zk25, zk26, zk27, zk28, zk29, zk30, zk31, zk32, zk33, zk34, zk35, zk36, zk37, zk38, zk39, zk40, zk41, zk42, zk43, zk44, zk45, zk46, zk47, zk48, zk49, zk50, zk51, zk52, zk53, zk54, zk55, zk56, zk57, zk58, zk59, zk60, zk61, zk62, zk63, zk64, zk65, zk66, zk67, zk68, zk69, zk70, zk71, zk72, zk73, zk74, zk75, zk76, zk77, zk78, zk79, zk80, zk81, zk82, zk83, zk84, zk85, zk86, zk87, zk88, zk89, zk90, zr2_0, zr2_1, zr2_2, zr2_3, zr2_4, zr2_6, zr2_7, zr2_10, zr2_11, zr2_12, zr1_0, zr1_1, zr14_0, zr14_1, zr14_2, zr14_3, zr14_4, zr14_6, zr14_7, zr14_10, zr14_11, zr14_12, zr13_0, zr25_0, zr25_1, zr25_2, zr25_3, zr25_4, zr25_6, zr25_7, zr25_10, zr25_11, zr25_12, zr13_1, zr1_2, zr37_0, zr1_3, zr39_0, zr39_1, zr39_2, zr39_5, zr39_7, zr39_8, zr1_4, zr46_1, zr46_2, zr46_3, zr46_4, zr46_0, zr1_5, zr51_2, zr51_10, zr51_0, zr51_1, zr54_1, zr54_2, zr54_3, zr1_6, zr58_1, zr58_2, zr58_3, zr58_0, zr1_7, zr62_2, zr62_3, zr62_0, zr62_1, zr1_8, zr1_9, zr1_10, zr1_15, zr68_2, zr68_3, zr68_4, zr68_5, zr68_7, zr68_8, zr68_9, zr68_12, zr68_13, zr68_14, zr68_22, zr68_23, zr68_24, zr68_26, zr68_35, zr68_36, zr68_37, zr68_38, zr68_39, zr68_40, zr68_41, zr68_42, i4, tt, n10, wi]
      · intro z hz'
        rw [hz']
        refine ih M a0 (a + 1) p (i + 1) s fl σ0 _ (by omega) (by omega) ⟨tk.fr tf, ta, by omega, p50, s00, by omega, flb⟩ (by omega) (by omega) (hF.trans tf (Int.le_refl s)) ?_ ha0 hp sa0
        rw [hz]
        show (if K a = 263 then zNt K n (a + 1) else a) = zNt K n (a + 1)
        rw [if_pos c]
    · rw [if_neg c] at tt
      have ez : zNt K 401 a0 = a := by
        rw [hz]
        show (if K a = 263 then zNt K n (a + 1) else a) = a
        rw [if_neg c]
      have m19 : wpo (M_Reader_readPlain_19 G 39 dep (((a - a0) % 2 : Nat) : Int) σ) (zPo a0 p s fl (zPlN K g a0 p) σ0) := by
        unfold zPlN
        rw [ez]
        have m30 : ∀ q : Int × mS, zPo a p s fl (g a p) σ q → wpo (M_Reader_readPlain_30 G 39 (((a - a0) % 2 : Nat) : Int) q.1 q.2) (zPo a0 p s fl (if (g a p).1 = 1 then (1, (g a p).2.1, (g a p).2.2.1, zNg (a - a0) (g a p).2.2.2) else g a p) σ0) := by
          intro q hq
          have hq0 := hq
          obtain ⟨q1, q2⟩ := hq
          have hBq := q1.2.1
          unfold M_Reader_readPlain_30
          rcases q2 with ⟨r1, r2, s', fl', r3, r4, r5, r6, r7⟩ | ⟨r1, r2, r3⟩
          · rw [if_pos r1, r2, if_neg n10]
            unfold zNg
            rcases hg a p aN p50 with ⟨k1, k2, k3, k4, k5, k6⟩ | ⟨k1, _⟩
            · by_cases cp : (a - a0) % 2 = 1
              · have e1 : ¬ (((a - a0) % 2 : Nat) : Int) = 0 := by omega
                rw [if_neg e1, if_pos cp]
                have tkq := tk.fr q1
                have em := d_emit (s := s') (kd := 2) (n := 0) hBq r3.2.2.1 (by omega) (by omega)
                obtain ⟨x1, x2, x3, x4⟩ := zPre_emit (x := ior (ishl 0 4) 2) tkq r3
                have x1' : zFr s q.2 (mup (mup q.2.1 43 s' (ior (ishl 0 4) 2)) 39 6 (s' + 1), q.2.2) := ⟨x1.1, x1.2.1, x1.2.2.1, x1.2.2.2.1, fun k hk => x1.2.2.2.2 k (by omega)⟩
                have po : zPo a0 p s fl (1, (g a p).2.1, (g a p).2.2.1, zneg (g a p).2.2.2) σ0 (1, (mup (mup q.2.1 43 s' (ior (ishl 0 4) 2)) 39 6 (s' + 1), q.2.2)) := by
                  refine ⟨(hF.trans q1 (Int.le_refl s)).trans x1' (Int.le_refl s), Or.inl ⟨rfl, rfl, s' + 1, fl', x2, ⟨by omega, by show s' + 1 - s ≤ ((g a p).2.1 : Int) - a0; omega⟩, ?_, r6, fun h => ⟨(r7 h).1, zNH_neg (r7 h).2⟩⟩⟩
                  exact zF_neg (zF_of r5 (fun k x y => x4 k (by omega))) k6 (x3.trans (insk 2 (by decide)))
                generalize zPo a0 p s fl (1, (g a p).2.1, (g a p).2.2.1, zneg (g a p).2.2.2) σ0 = Q at *
                simp (maxSteps := 5000000) (disch := first | assumption | omega) only [wpo_bind, wpo_some, wpo_gf, wpo_gk, wpo_ld, wpo_pf, wpo_pz, wpo_sd, wpo_sr, wpo_ln, wpo_idv, wpo_irm, wpo_lrm, wpo_ldv, wpo_cpy, mlet, mnar_int, mup_same, mup_cell, mup_slot, ite_true, ite_false, true_and, and_true, eq_self, or_true, true_or, and_self, Int.reduceLT, Int.reduceLE, Int.reduceEq, Int.reduceNe, Int.reduceAdd, Int.reduceSub, Int.reduceMul, Int.reduceNeg, ne_eq, not_false_eq_true, not_true_eq_false, false_or, or_false, zor_inl, zor_inr, Bool.false_eq_true, false_and, and_false, zk1, zk2, zk3, zk4, zk5, zk6, zk7, zk8, zk9, zk10, zk11, zk12, zk13, zk14, zk15, zk16, zk17, zk18, zk19, zk20, zk21, zk22, zk23, zk24, zk25, zk26, zk27, zk28, zk29, zk30, zk31, zk32, zk33, zk34, zk35, zk36, zk37, zk38, zk39, zk40, zk41, zk42, zk43, zk44, zk45, zk46, zk47, zk48, zk49, zk50, zk51, zk52, zk53, zk54, zk55, zk56, zk57, zk58, zk59, zk60, zk61, zk62, zk63, zk64, zk65, zk66, zk67, zk68, zk69, zk70, zk71, zk72, zk73, zk74, zk75, zk76, zk77, zk78, zk79, zk80, zk81, zk82, zk83, zk84, zk85, zk86, zk87, zk88, zk89, zk90, zr2_0, zr2_1, zr2_2, zr2_3, zr2_4, zr2_6, zr2_7, zr2_10, zr2_11, zr2_12, zr1_0, zr1_1, zr14_0, zr14_1, zr14_2, zr14_3, zr14_4, zr14_6, zr14_7, zr14_10, zr14_11, zr14_12, zr13_0, zr25_0, zr25_1, zr25_2, zr25_3, zr25_4, zr25_6, zr25_7, zr25_10, zr25_11, zr25_12, zr13_1, zr1_2, zr37_0, zr1_3, zr39_0, zr39_1, zr39_2, zr39_5, zr39_7, zr39_8, zr1_4, zr46_1, zr46_2, zr46_3, zr46_4, zr46_0, zr1_5, zr51_2, zr51_10, zr51_0, zr51_1, zr54_1, zr54_2, zr54_3, zr1_6, zr58_1, zr58_2, zr58_3, zr58_0, zr1_7, zr62_2, zr62_3, zr62_0, zr62_1, zr1_8, zr1_9, zr1_10, zr1_15, zr68_2, zr68_3, zr68_4, zr68_5, zr68_7, zr68_8, zr68_9, zr68_12, zr68_13, zr68_14, zr68_22, zr68_23, zr68_24, zr68_26, zr68_35, zr68_36, zr68_37, zr68_38, zr68_39, zr68_40, zr68_41, zr68_42, em]
                exact po
              · have e1 : (((a - a0) % 2 : Nat) : Int) = 0 := by omega
                rw [if_pos e1, if_neg cp, if_pos (Or.inr rfl)]
                refine wpo_some.mpr (zPo_at ?_ hF ha)
                exact ⟨q1, Or.inl ⟨rfl, rfl, s', fl', r3, r4, r5, r6, r7⟩⟩
            · omega
          · rw [if_pos r2, if_pos (Or.inl r2), if_neg (show ¬ (g a p).1 = 1 by omega)]
            exact wpo_some.mpr (zPo_at hq0 hF ha)
        have gg := hG a p s fl σ c hP0
        unfold M_Reader_readPlain_19
        generalize zPo a0 p s fl (if (g a p).1 = 1 then (1, (g a p).2.1, (g a p).2.2.1, zNg (a - a0) (g a p).2.2.2) else g a p) σ0 = Q at *
        simp (maxSteps := 5000000) (disch := first | assumption | omega) only [wpo_bind, wpo_some, wpo_gf, wpo_gk, wpo_ld, wpo_pf, wpo_pz, wpo_sd, wpo_sr, wpo_ln, wpo_idv, wpo_irm, wpo_lrm, wpo_ldv, wpo_cpy, mlet, mnar_int, mup_same, mup_cell, mup_slot, ite_true, ite_false, true_and, and_true, eq_self, or_true, true_or, and_self, Int.reduceLT, Int.reduceLE, Int.reduceEq, Int.reduceNe, Int.reduceAdd, Int.reduceSub, Int.reduceMul, Int.reduceNeg, ne_eq, not_false_eq_true, not_true_eq_false, false_or, or_false, zor_inl, zor_inr, Bool.false_eq_true, false_and, and_false, zk1, zk2, zk3, zk4, zk5, zk6, zk7, zk8, zk9, zk10, zk11, zk12, zk13, zk14, zk15, zk16, zk17, zk18, zk19, zk20, zk21, zk22, zk23, zk24, zk25, zk26, zk27, zk28, zk29, zk30, zk31, zk32, zk33, zk34, zk35, zk36, zk37, zk38, zk39, zk40, zk41, zk42, zk43, zk44, zk45, zk46, zk47, zk48, zk49, zk50, zk51, zk52, zk53, zk54, zk55, zk56, zk57, zk58, zk59, zk60, zk61, zk62, zk63, zk64, zk65, zk66, zk67, zk68, zk69, zk70, zk71, zk72, zk73, zk74, zk75, zk76, zk77, zk78, zk79, zk80, zk81, zk82, zk83, zk84, zk85, zk86, zk87, zk88, zk89, zk90, zr2_0, zr2_1, zr2_2, zr2_3, zr2_4, zr2_6, zr2_7, zr2_10, zr2_11, zr2_12, zr1_0, zr1_1, zr14_0, zr14_1, zr14_2, zr14_3, zr14_4, zr14_6, zr14_7, zr14_10, zr14_11, zr14_12, zr13_0, zr25_0, zr25_1, zr25_2, zr25_3, zr25_4, zr25_6, zr25_7, zr25_10, zr25_11, zr25_12, zr13_1, zr1_2, zr37_0, zr1_3, zr39_0, zr39_1, zr39_2, zr39_5, zr39_7, zr39_8, zr1_4, zr46_1, zr46_2, zr46_3, zr46_4, zr46_0, zr1_5, zr51_2, zr51_10, zr51_0, zr51_1, zr54_1, zr54_2, zr54_3, zr1_6, zr58_1, zr58_2, zr58_3, zr58_0, zr1_7, zr62_2, zr62_3, zr62_0, zr62_1, zr1_8, zr1_9, zr1_10, zr1_15, zr68_2, zr68_3, zr68_4, zr68_5, zr68_7, zr68_8, zr68_9, zr68_12, zr68_13, zr68_14, zr68_22, zr68_23, zr68_24, zr68_26, zr68_35, zr68_36, zr68_37, zr68_38, zr68_39, zr68_40, zr68_41, zr68_42, kh]
        by_cases c4 : K a = 40
        · rw [if_pos c4]
          simp (maxSteps := 5000000) (disch := first | assumption | omega) only [wpo_bind, wpo_some, wpo_gf, wpo_gk, wpo_ld, wpo_pf, wpo_pz, wpo_sd, wpo_sr, wpo_ln, wpo_idv, wpo_irm, wpo_lrm, wpo_ldv, wpo_cpy, mlet, mnar_int, mup_same, mup_cell, mup_slot, ite_true, ite_false, true_and, and_true, eq_self, or_true, true_or, and_self, Int.reduceLT, Int.reduceLE, Int.reduceEq, Int.reduceNe, Int.reduceAdd, Int.reduceSub, Int.reduceMul, Int.reduceNeg, ne_eq, not_false_eq_true, not_true_eq_false, false_or, or_false, zor_inl, zor_inr, Bool.false_eq_true, false_and, and_false, zk1, zk2, zk3, zk4, zk5, zk6, zk7, zk8, zk9, zk10, zk11, zk12, zk13, zk14, zk15, zk16, zk17, zk18, zk19, zk20, zk21, zk22, zk23, zk24, zk25, zk26, zk27, zk28, zk29, zk30, zk31, zk32, zk33, zk34, zk35, zk36, zk37, zk38, zk39, zk40, zk41, zk42, zk43, zk44, zk45, zk46, zk47, zk48, zk49, zk50, zk51, zk52, zk53, zk54, zk55, zk56, zk57, zk58, zk59, zk60, zk61, zk62, zk63, zk64, zk65, zk66, zk67, zk68, zk69, zk70, zk71, zk72, zk73, zk74, zk75, zk76, zk77, zk78, zk79, zk80, zk81, zk82, zk83, zk84, zk85, zk86, zk87, zk88, zk89, zk90, zr2_0, zr2_1, zr2_2, zr2_3, zr2_4, zr2_6, zr2_7, zr2_10, zr2_11, zr2_12, zr1_0, zr1_1, zr14_0, zr14_1, zr14_2, zr14_3, zr14_4, zr14_6, zr14_7, zr14_10, zr14_11, zr14_12, zr13_0, zr25_0, zr25_1, zr25_2, zr25_3, zr25_4, zr25_6, zr25_7, zr25_10, zr25_11, zr25_12, zr13_1, zr1_2, zr37_0, zr1_3, zr39_0, zr39_1, zr39_2, zr39_5, zr39_7, zr39_8, zr1_4, zr46_1, zr46_2, zr46_3, zr46_4, zr46_0, zr1_5, zr51_2, zr51_10, zr51_0, zr51_1, zr54_1, zr54_2, zr54_3, zr1_6, zr58_1, zr58_2, zr58_3, zr58_0, zr1_7, zr62_2, zr62_3, zr62_0, zr62_1, zr1_8, zr1_9, zr1_10, zr1_15, zr68_2, zr68_3, zr68_4, zr68_5, zr68_7, zr68_8, zr68_9, zr68_12, zr68_13, zr68_14, zr68_22, zr68_23, zr68_24, zr68_26, zr68_35, zr68_36, zr68_37, zr68_38, zr68_39, zr68_40, zr68_41, zr68_42]
          exact wpo_mono (gg.1 c4) m30
        · rw [if_neg c4]
          simp (maxSteps := 5000000) (disch := first | assumption | omega) only [wpo_bind, wpo_some, wpo_gf, wpo_gk, wpo_ld, wpo_pf, wpo_pz, wpo_sd, wpo_sr, wpo_ln, wpo_idv, wpo_irm, wpo_lrm, wpo_ldv, wpo_cpy, mlet, mnar_int, mup_same, mup_cell, mup_slot, ite_true, ite_false, true_and, and_true, eq_self, or_true, true_or, and_self, Int.reduceLT, Int.reduceLE, Int.reduceEq, Int.reduceNe, Int.reduceAdd, Int.reduceSub, Int.reduceMul, Int.reduceNeg, ne_eq, not_false_eq_true, not_true_eq_false, false_or, or_false, zor_inl, zor_inr, Bool.false_eq_true, false_and, and_false, zk1, zk2, zk3, zk4, zk5, zk6, zk7, zk8, zk9, zk10, zk11, zk12, zk13, zk14, zk15, zk16, zk17, zk18, zk19, zk20, zk21, zk22, zk23, zk24, zk25, zk26, zk27, zk28, zk29, zk30, zk31, zk32, zk33, zk34, zk35, zk36, zk37, zk38, zk39, zk40, zk41, zk42, zk43, zk44, zk45, zk46, zk47, zk48, zk49, zk50, zk51, zk52, zk53, zk54, zk55, zk56, zk57, zk58, zk59, zk60, zk61, zk62, zk63, zk64, zk65, zk66, zk67, zk68, zk69, zk70, zk71, zk72, zk73, zk74, zk75, zk76, zk77, zk78, zk79, zk80, zk81, zk82, zk83, zk84, zk85, zk86, zk87, zk88, zk89, zk90, zr2_0, zr2_1, zr2_2, zr2_3, zr2_4, zr2_6, zr2_7, zr2_10, zr2_11, zr2_12, zr1_0, zr1_1, zr14_0, zr14_1, zr14_2, zr14_3, zr14_4, zr14_6, zr14_7, zr14_10, zr14_11, zr14_12, zr13_0, zr25_0, zr25_1, zr25_2, zr25_3, zr25_4, zr25_6, zr25_7, zr25_10, zr25_11, zr25_12, zr13_1, zr1_2, zr37_0, zr1_3, zr39_0, zr39_1, zr39_2, zr39_5, zr39_7, zr39_8, zr1_4, zr46_1, zr46_2, zr46_3, zr46_4, zr46_0, zr1_5, zr51_2, zr51_10, zr51_0, zr51_1, zr54_1, zr54_2, zr54_3, zr1_6, zr58_1, zr58_2, zr58_3, zr58_0, zr1_7, zr62_2, zr62_3, zr62_0, zr62_1, zr1_8, zr1_9, zr1_10, zr1_15, zr68_2, zr68_3, zr68_4, zr68_5, zr68_7, zr68_8, zr68_9, zr68_12, zr68_13, zr68_14, zr68_22, zr68_23, zr68_24, zr68_26, zr68_35, zr68_36, zr68_37, zr68_38, zr68_39, zr68_40, zr68_41, zr68_42]
          exact wpo_mono (gg.2 c4) m30
      refine wpo_call (Q := fun z => ∃ q, z = Sum.inr q ∧ zPo a0 p s fl (zPlN K g a0 p) σ0 q) ?_ ?_
      · show wpo (B_Reader_readPlain_4 G 39 dep (((a - a0) % 2 : Nat) : Int) i σ) _
        unfold B_Reader_readPlain_4
        have m19' : wpo ((M_Reader_readPlain_19 G 39 dep (((a - a0) % 2 : Nat) : Int) σ).bind fun z => some (Sum.inr z)) (fun z : (Int × Int × mS) ⊕ (Int × mS) => ∃ q, z = Sum.inr q ∧ zPo a0 p s fl (zPlN K g a0 p) σ0 q) := wpo_call m19 (fun q hq => wpo_some.mpr ⟨q, rfl, hq⟩)
        by_cases i4 : i < 400
        · rw [if_pos i4]
          generalize (fun z : (Int × Int × mS) ⊕ (Int × mS) => ∃ q, z = Sum.inr q ∧ zPo a0 p s fl (zPlN K g a0 p) σ0 q) = Q at *
          refine wpo_bind.mpr (wpo_gk.mpr ⟨zk39 hB ▸ rfl, ?_⟩)
          rw [tt]
          refine wpo_bind.mpr (wpo_some.mpr ?_)
          rw [if_pos rfl]
          exact m19'
        · rw [if_neg i4]
          exact m19'
      · intro z ⟨q, hz', hq⟩
        rw [hz']
        exact wpo_some.mpr hq
set_option maxHeartbeats 4000000 in
theorem d_inbr {K V : Nat → Int} {N : Nat} (hT : zTx K V N) {g : Nat → Nat → zRe} (hg : zSub N zD1 g) {G : Nat → List mV → mS → Option (Int × mS)} {dep : Int} (hd : 0 ≤ dep ∧ dep < 8) (hG : ∀ (a p : Nat) (s fl : Int) (σ : mS), zPre K V N a p s fl σ → wpo (G 212 [(3, 39), (1, dep + 1)] σ) (zPo a p s fl (g a p) σ))
    {a p : Nat} {s fl : Int} {σ : mS} (hP : zPre K V N a p s fl σ) (hk : K a = 40) : wpo (B_Reader_readInBrackets G 39 dep σ) (zPo a p s fl (zBr K 41 g a p) σ) := by
  obtain ⟨tk, at', aN, p50, s00, sa, flb⟩ := hP
  have hB := tk.1
  have N4 := hT.1
  have ne : a ≠ N := by intro e; rw [e, hT.2.1] at hk; omega
  have tt := d_takes (k := 40) N4 tk at'.1 aN
  rw [if_pos hk] at tt
  obtain ⟨tf, ta, t43⟩ := zPre_tok (b := a + 1) hB at'
  have hB1 := tf.2.1
  have pre1 : zPre K V N (a + 1) p s fl (mup σ.1 39 4 ((a + 1 : Nat) : Int), σ.2) := ⟨tk.fr tf, ta, by omega, p50, s00, by omega, flb⟩
  generalize eX : ((mup σ.1 39 4 ((a + 1 : Nat) : Int), σ.2) : mS) = X at *
  have d8 : dep < 8 := hd.2
  have wd : ∀ u : Int, u = dep → w32 (u + 1) = dep + 1 := fun u hu => by rw [w32_in (by omega) (by omega)]; omega
  have n10 : ¬ (1 : Int) = 0 := by decide
  generalize hQ : zPo a p s fl (zBr K 41 g a p) σ = Q
  unfold B_Reader_readInBrackets
  simp (maxSteps := 5000000) (disch := first | assumption | omega) only [wpo_bind, wpo_some, wpo_gf, wpo_gk, wpo_ld, wpo_pf, wpo_pz, wpo_sd, wpo_sr, wpo_ln, wpo_idv, wpo_irm, wpo_lrm, wpo_ldv, wpo_cpy, mlet, mnar_int, mup_same, mup_cell, mup_slot, ite_true, ite_false, true_and, and_true, eq_self, or_true, true_or, and_self, Int.reduceLT, Int.reduceLE, Int.reduceEq, Int.reduceNe, Int.reduceAdd, Int.reduceSub, Int.reduceMul, Int.reduceNeg, ne_eq, not_false_eq_true, not_true_eq_false, false_or, or_false, zor_inl, zor_inr, Bool.false_eq_true, false_and, and_false, zk1, zk2, zk3, zk4, zk5, zk6, zk7, zk8, zk9, zk10, zk11, zk12, zk13, zk14, zk15, zk16, zk17, zk18, zk19, zk20, zk21, zk22, zk23, zk24, zk25, zk26, zk27, zk28, zk29, zk30, zk31, zk32, zk33, zk34, zk35, zk36, zk37, zk38, zk39, zk40, zk41, zk42, zk43, zk44, zk45, zk46, zk47, zk48, zk49, zk50, zk51, zk52, zk53, zk54, zk55, zk56, zk57, zk58, zk59, zk60, zk61, zk62, zk63, zk64, zk65, zk66, zk67, zk68, zk69, zk70, zk71, zk72, zk73, zk74, zk75, zk76, zk77, zk78, zk79, zk80, zk81, zk82, zk83, zk84, zk85, zk86, zk87, zk88, zk89, zk90, zr2_0, zr2_1, zr2_2, zr2_3, zr2_4, zr2_6, zr2_7, zr2_10, zr2_11, zr2_12, zr1_0, zr1_1, zr14_0, zr14_1, zr14_2, zr14_3, zr14_4, zr14_6, zr14_7, zr14_10, zr14_11, zr14_12, zr13_0, zr25_0, zr25_1, zr25_2, zr25_3, zr25_4, zr25_6, zr25_7, zr25_10, zr25_11, zr25_12, zr13_1, zr1_2, zr37_0, zr1_3, zr39_0, zr39_1, zr39_2, zr39_5, zr39_7, zr39_8, zr1_4, zr46_1, zr46_2, zr46_3, zr46_4, zr46_0, zr1_5, zr51_2, zr51_10, zr51_0, zr51_1, zr54_1, zr54_2, zr54_3, zr1_6, zr58_1, zr58_2, zr58_3, zr58_0, zr1_7, zr62_2, zr62_3, zr62_0, zr62_1, zr1_8, zr1_9, zr1_10, zr1_15, zr68_2, zr68_3, zr68_4, zr68_5, zr68_7, zr68_8, zr68_9, zr68_12, zr68_13, zr68_14, zr68_22, zr68_23, zr68_24, zr68_26, zr68_35, zr68_36, zr68_37, zr68_38, zr68_39, zr68_40, zr68_41, zr68_42, d8, tt, n10, wd]
  refine wpo_mono (hG (a + 1) p s fl X pre1) ?_
  intro q hq
  subst hQ
  have hq' := hq
  obtain ⟨q1, q2⟩ := hq'
  have hBq := q1.2.1
  have tkq := (tk.fr tf).fr q1
  unfold zBr
  have sk := hg (a + 1) p (by omega) p50
  rcases q2 with ⟨r1, r2, s', fl', r3, r4, r5, r6, r7⟩ | ⟨r1, r2, r3⟩
  · rcases sk with ⟨k1, k2, k3, k4, k5, k6⟩ | ⟨k1, _⟩
    · have t2 := d_takes (k := 41) N4 tkq r3.1 k3
      rw [if_pos r1]
      by_cases c : K (g (a + 1) p).2.1 = 41
      · rw [if_pos c] at t2 ⊢
        have po := zPo_br (b := (g (a + 1) p).2.1 + 1) hq tf r1 rfl rfl
        generalize zPo a p s fl (1, (g (a + 1) p).2.1 + 1, (g (a + 1) p).2.2.1, (g (a + 1) p).2.2.2) σ = Q at *
        simp (maxSteps := 5000000) (disch := first | assumption | omega) only [wpo_bind, wpo_some, wpo_gf, wpo_gk, wpo_ld, wpo_pf, wpo_pz, wpo_sd, wpo_sr, wpo_ln, wpo_idv, wpo_irm, wpo_lrm, wpo_ldv, wpo_cpy, mlet, mnar_int, mup_same, mup_cell, mup_slot, ite_true, ite_false, true_and, and_true, eq_self, or_true, true_or, and_self, Int.reduceLT, Int.reduceLE, Int.reduceEq, Int.reduceNe, Int.reduceAdd, Int.reduceSub, Int.reduceMul, Int.reduceNeg, ne_eq, not_false_eq_true, not_true_eq_false, false_or, or_false, zor_inl, zor_inr, Bool.false_eq_true, false_and, and_false, zk1, zk2, zk3, zk4, zk5, zk6, zk7, zk8, zk9, zk10, zk11, zk12, zk13, zk14, zk15, zk16, zk17, zk18, zk19, zk20, zk21, zk22, zk23, zk24, zk25, zk26, zk27, zk28, zk29, zk30, zk31, zk32, zk33, zk34, zk35, zk36, zk37, zk38, zk39, zk40, zk41, zk42, zk43, zk44, zk45, zk46, zk47, zk48, zk49, zk50, zk51, zk52, zk53, zk54, zk55, zk56, zk57, zk58, zk59, zk60, zk61, zk62, zk63, zk64, zk65, zk66, zk67, zk68, zk69, zk70, zk71, zk72, zk73, zk74, zk75, zk76, zk77, zk78, zk79, zk80, zk81, zk82, zk83, zk84, zk85, zk86, zk87, zk88, zk89, zk90, zr2_0, zr2_1, zr2_2, zr2_3, zr2_4, zr2_6, zr2_7, zr2_10, zr2_11, zr2_12, zr1_0, zr1_1, zr14_0, zr14_1, zr14_2, zr14_3, zr14_4, zr14_6, zr14_7, zr14_10, zr14_11, zr14_12, zr13_0, zr25_0, zr25_1, zr25_2, zr25_3, zr25_4, zr25_6, zr25_7, zr25_10, zr25_11, zr25_12, zr13_1, zr1_2, zr37_0, zr1_3, zr39_0, zr39_1, zr39_2, zr39_5, zr39_7, zr39_8, zr1_4, zr46_1, zr46_2, zr46_3, zr46_4, zr46_0, zr1_5, zr51_2, zr51_10, zr51_0, zr51_1, zr54_1, zr54_2, zr54_3, zr1_6, zr58_1, zr58_2, zr58_3, zr58_0, zr1_7, zr62_2, zr62_3, zr62_0, zr62_1, zr1_8, zr1_9, zr1_10, zr1_15, zr68_2, zr68_3, zr68_4, zr68_5, zr68_7, zr68_8, zr68_9, zr68_12, zr68_13, zr68_14, zr68_22, zr68_23, zr68_24, zr68_26, zr68_35, zr68_36, zr68_37, zr68_38, zr68_39, zr68_40, zr68_41, zr68_42, r2, n10, t2]
        exact po
      · rw [if_neg c] at t2 ⊢
        have po : zPo a p s fl (zno (g (a + 1) p).2.1 (g (a + 1) p).2.2.1) σ (0, q.2) := ⟨tf.trans q1 (Int.le_refl s), Or.inr ⟨rfl, rfl, r3.1⟩⟩
        generalize zPo a p s fl (zno (g (a + 1) p).2.1 (g (a + 1) p).2.2.1) σ = Q at *
        simp (maxSteps := 5000000) (disch := first | assumption | omega) only [wpo_bind, wpo_some, wpo_gf, wpo_gk, wpo_ld, wpo_pf, wpo_pz, wpo_sd, wpo_sr, wpo_ln, wpo_idv, wpo_irm, wpo_lrm, wpo_ldv, wpo_cpy, mlet, mnar_int, mup_same, mup_cell, mup_slot, ite_true, ite_false, true_and, and_true, eq_self, or_true, true_or, and_self, Int.reduceLT, Int.reduceLE, Int.reduceEq, Int.reduceNe, Int.reduceAdd, Int.reduceSub, Int.reduceMul, Int.reduceNeg, ne_eq, not_false_eq_true, not_true_eq_false, false_or, or_false, zor_inl, zor_inr, Bool.false_eq_true, false_and, and_false, zk1, zk2, zk3, zk4, zk5, zk6, zk7, zk8, zk9, zk10, zk11, zk12, zk13, zk14, zk15, zk16, zk17, zk18, zk19, zk20, zk21, zk22, zk23, zk24, zk25, zk26, zk27, zk28, zk29, zk30, zk31, zk32, zk33, zk34, zk35, zk36, zk37, zk38, zk39, zk40, zk41, zk42, zk43, zk44, zk45, zk46, zk47, zk48, zk49, zk50, zk51, zk52, zk53, zk54, zk55, zk56, zk57, zk58, zk59, zk60, zk61, zk62, zk63, zk64, zk65, zk66, zk67, zk68, zk69, zk70, zk71, zk72, zk73, zk74, zk75, zk76, zk77, zk78, zk79, zk80, zk81, zk82, zk83, zk84, zk85, zk86, zk87, zk88, zk89, zk90, zr2_0, zr2_1, zr2_2, zr2_3, zr2_4, zr2_6, zr2_7, zr2_10, zr2_11, zr2_12, zr1_0, zr1_1, zr14_0, zr14_1, zr14_2, zr14_3, zr14_4, zr14_6, zr14_7, zr14_10, zr14_11, zr14_12, zr13_0, zr25_0, zr25_1, zr25_2, zr25_3, zr25_4, zr25_6, zr25_7, zr25_10, zr25_11, zr25_12, zr13_1, zr1_2, zr37_0, zr1_3, zr39_0, zr39_1, zr39_2, zr39_5, zr39_7, zr39_8, zr1_4, zr46_1, zr46_2, zr46_3, zr46_4, zr46_0, zr1_5, zr51_2, zr51_10, zr51_0, zr51_1, zr54_1, zr54_2, zr54_3, zr1_6, zr58_1, zr58_2, zr58_3, zr58_0, zr1_7, zr62_2, zr62_3, zr62_0, zr62_1, zr1_8, zr1_9, zr1_10, zr1_15, zr68_2, zr68_3, zr68_4, zr68_5, zr68_7, zr68_8, zr68_9, zr68_12, zr68_13, zr68_14, zr68_22, zr68_23, zr68_24, zr68_26, zr68_35, zr68_36, zr68_37, zr68_38, zr68_39, zr68_40, zr68_41, zr68_42, r2, n10, t2]
        exact po
    · omega
  · rw [if_neg (show ¬ (g (a + 1) p).1 = 1 by omega)]
    have po : zPo a p s fl (g (a + 1) p) σ (0, q.2) := ⟨tf.trans q1 (Int.le_refl s), Or.inr ⟨r1, rfl, r3⟩⟩
    generalize zPo a p s fl (g (a + 1) p) σ = Q at *
    simp (maxSteps := 5000000) (disch := first | assumption | omega) only [wpo_bind, wpo_some, wpo_gf, wpo_gk, wpo_ld, wpo_pf, wpo_pz, wpo_sd, wpo_sr, wpo_ln, wpo_idv, wpo_irm, wpo_lrm, wpo_ldv, wpo_cpy, mlet, mnar_int, mup_same, mup_cell, mup_slot, ite_true, ite_false, true_and, and_true, eq_self, or_true, true_or, and_self, Int.reduceLT, Int.reduceLE, Int.reduceEq, Int.reduceNe, Int.reduceAdd, Int.reduceSub, Int.reduceMul, Int.reduceNeg, ne_eq, not_false_eq_true, not_true_eq_false, false_or, or_false, zor_inl, zor_inr, Bool.false_eq_true, false_and, and_false, zk1, zk2, zk3, zk4, zk5, zk6, zk7, zk8, zk9, zk10, zk11, zk12, zk13, zk14, zk15, zk16, zk17, zk18, zk19, zk20, zk21, zk22, zk23, zk24, zk25, zk26, zk27, zk28, zk29, zk30, zk31, zk32, zk33, zk34, zk35, zk36, zk37, zk38, zk39, zk40, zk41, zk42, zk43, zk44, zk45, zk46, zk47, zk48, zk49, zk50, zk51, zk52, zk53, zk54, zk55, zk56, zk57, zk58, zk59, zk60, zk61, zk62, zk63, zk64, zk65, zk66, zk67, zk68, zk69, zk70, zk71, zk72, zk73, zk74, zk75, zk76, zk77, zk78, zk79, zk80, zk81, zk82, zk83, zk84, zk85, zk86, zk87, zk88, zk89, zk90, zr2_0, zr2_1, zr2_2, zr2_3, zr2_4, zr2_6, zr2_7, zr2_10, zr2_11, zr2_12, zr1_0, zr1_1, zr14_0, zr14_1, zr14_2, zr14_3, zr14_4, zr14_6, zr14_7, zr14_10, zr14_11, zr14_12, zr13_0, zr25_0, zr25_1, zr25_2, zr25_3, zr25_4, zr25_6, zr25_7, zr25_10, zr25_11, zr25_12, zr13_1, zr1_2, zr37_0, zr1_3, zr39_0, zr39_1, zr39_2, zr39_5, zr39_7, zr39_8, zr1_4, zr46_1, zr46_2, zr46_3, zr46_4, zr46_0, zr1_5, zr51_2, zr51_10, zr51_0, zr51_1, zr54_1, zr54_2, zr54_3, zr1_6, zr58_1, zr58_2, zr58_3, zr58_0, zr1_7, zr62_2, zr62_3, zr62_0, zr62_1, zr1_8, zr1_9, zr1_10, zr1_15, zr68_2, zr68_3, zr68_4, zr68_5, zr68_7, zr68_8, zr68_9, zr68_12, zr68_13, zr68_14, zr68_22, zr68_23, zr68_24, zr68_26, zr68_35, zr68_36, zr68_37, zr68_38, zr68_39, zr68_40, zr68_41, zr68_42, r2]
    exact po
/-- a plain test whose inside is read -/
theorem d_plain' {K V : Nat → Int} {N : Nat} (hT : zTx K V N) {g : Nat → Nat → zRe} (hg : zSub N zD1 g) {G : Nat → List mV → mS → Option (Int × mS)} {dep : Int} (hG : ∀ (a p : Nat) (s fl : Int) (σ : mS), K a ≠ 263 → zPre K V N a p s fl σ → (K a = 40 → wpo (G 215 [(3, 39), (1, dep)] σ) (zPo a p s fl (g a p) σ)) ∧ (K a ≠ 40 → wpo (M_Reader_readComparison 39 dep σ) (zPo a p s fl (g a p) σ)))
    (a p : Nat) (s fl : Int) (σ : mS) (hP : zPre K V N a p s fl σ) : wpo (B_Reader_readPlain G 39 dep σ) (zPo a p s fl (zPlN K g a p) σ) := by
  have N4 := hT.1
  have key := d_plain hT hg hG 401 mN a a p 0 s fl σ σ (by rw [mN_eq]; decide) (by omega) hP (by omega) (Nat.le_refl a) (zFr.rfl' hP.1.1) rfl hP.2.2.1 hP.2.2.2.1 hP.2.2.2.2.2.1
  rw [Nat.sub_self] at key
  exact key
theorem d_readTest {K V : Nat → Int} {N : Nat} (hT : zTx K V N) : ∀ (f : Nat), f ≤ 8 →
    (∀ n, 4 * f + 2 ≤ n → ∀ (a p : Nat) (s fl : Int) (σ : mS), zPre K V N a p s fl σ → wpo (R_Reader_readTest n 214 [(3, 39), (1, 8 - (f : Int))] σ) (zPo a p s fl (zPlF K V f a p) σ)) ∧
    (∀ n, 4 * f + 4 ≤ n → ∀ (a p : Nat) (s fl : Int) (σ : mS), zPre K V N a p s fl σ → wpo (R_Reader_readTest n 212 [(3, 39), (1, 8 - (f : Int))] σ) (zPo a p s fl (zTestF K V f a p) σ)) := by
  have up : ∀ f : Nat, (∀ n, 4 * f + 2 ≤ n → ∀ (a p : Nat) (s fl : Int) (σ : mS), zPre K V N a p s fl σ → wpo (R_Reader_readTest n 214 [(3, 39), (1, 8 - (f : Int))] σ) (zPo a p s fl (zPlF K V f a p) σ)) →
    (∀ n, 4 * f + 4 ≤ n → ∀ (a p : Nat) (s fl : Int) (σ : mS), zPre K V N a p s fl σ → wpo (R_Reader_readTest n 212 [(3, 39), (1, 8 - (f : Int))] σ) (zPo a p s fl (zTestF K V f a p) σ)) := by
    intro f h1
    have ok := zPlF_ok hT f
    have h2 : ∀ n, 4 * f + 3 ≤ n → ∀ (a p : Nat) (s fl : Int) (σ : mS), zPre K V N a p s fl σ → wpo (R_Reader_readTest n 213 [(3, 39), (1, 8 - (f : Int))] σ) (zPo a p s fl (zBothF K V f a p) σ) := by
      intro n hn a p s fl σ hP
      obtain ⟨n, rfl⟩ : ∃ m, n = m + 1 := ⟨n - 1, by omega⟩
      exact d_Both hT ok.1 (h1 n (by omega)) a p s fl σ hP
    intro n hn a p s fl σ hP
    obtain ⟨n, rfl⟩ : ∃ m, n = m + 1 := ⟨n - 1, by omega⟩
    exact d_Test hT ok.2.1 (h2 n (by omega)) a p s fl σ hP
  have sumG : ∀ f : Nat, f ≤ 8 → ∀ (a p : Nat) (s fl : Int) (σ : mS), zPre K V N a p s fl σ → wpo (R_Reader_readSum mD 217 [(3, 39), (1, 8 - (f : Int))] σ) (zPo a p s fl (zSumF K V f a p) σ) := fun f hf => (d_readSum hT f hf).2.2 mD (by rw [mD_eq]; omega)
  intro f
  induction f with
  | zero =>
    intro _
    have h1 : ∀ n, 4 * 0 + 2 ≤ n → ∀ (a p : Nat) (s fl : Int) (σ : mS), zPre K V N a p s fl σ → wpo (R_Reader_readTest n 214 [(3, 39), (1, 8 - ((0 : Nat) : Int))] σ) (zPo a p s fl (zPlF K V 0 a p) σ) := by
      intro n hn a p s fl σ hP
      obtain ⟨n, rfl⟩ : ∃ m, n = m + 1 := ⟨n - 1, by omega⟩
      obtain ⟨n, rfl⟩ : ∃ m, n = m + 1 := ⟨n - 1, by omega⟩
      refine d_plain' hT (g := zPl0 K (zSumF K V 0)) ?_ ?_ a p s fl σ hP
      · intro a p ha hp
        unfold zPl0
        split
        · exact zno_ok ha
        · exact zCmp_ok hT (zPartF_ok hT 0).2.2 a p ha hp
      · intro a p s fl σ _ hP
        constructor
        · intro c
          show wpo (B_Reader_readInBrackets (R_Reader_readTest n) 39 8 σ) _
          unfold B_Reader_readInBrackets zPl0
          rw [if_neg (by decide), if_pos (Or.inl rfl), if_pos c]
          exact wpo_some.mpr ⟨zFr.rfl' hP.1.1, Or.inr ⟨rfl, rfl, hP.2.1.1⟩⟩
        · intro c
          have := d_cmp hT (zPartF_ok hT 0).2.2 (sumG 0 (by decide)) a p s fl σ hP
          unfold zPl0
          rw [if_neg c]
          exact this
    exact ⟨h1, up 0 h1⟩
  | succ f ih =>
    intro hf
    have ih := ih (by omega)
    have h1 : ∀ n, 4 * (f + 1) + 2 ≤ n → ∀ (a p : Nat) (s fl : Int) (σ : mS), zPre K V N a p s fl σ → wpo (R_Reader_readTest n 214 [(3, 39), (1, 8 - ((f + 1 : Nat) : Int))] σ) (zPo a p s fl (zPlF K V (f + 1) a p) σ) := by
      intro n hn a p s fl σ hP
      obtain ⟨n, rfl⟩ : ∃ m, n = m + 1 := ⟨n - 1, by omega⟩
      obtain ⟨n, rfl⟩ : ∃ m, n = m + 1 := ⟨n - 1, by omega⟩
      rw [zPlF_succ]
      have ed : 8 - ((f + 1 : Nat) : Int) + 1 = 8 - (f : Int) := by omega
      refine d_plain' hT (g := zPl K (zTestF K V f) (zSumF K V (f + 1))) ?_ ?_ a p s fl σ hP
      · intro a p ha hp
        unfold zPl
        split
        · rename_i c
          have ne : a ≠ N := by intro e; rw [e, hT.2.1] at c; omega
          exact zBr_ok (by rw [hT.2.1]; decide) (zPlF_ok hT f).2.2 (by omega) hp
        · exact zCmp_ok hT (zPartF_ok hT (f + 1)).2.2 a p ha hp
      · intro a p s fl σ _ hP
        constructor
        · intro c
          have := d_inbr hT (zPlF_ok hT f).2.2 (G := R_Reader_readTest n) (dep := 8 - ((f + 1 : Nat) : Int)) (by omega) (by rw [ed]; exact ih.2 n (by omega)) hP c
          unfold zPl
          rw [if_pos c]
          exact this
        · intro c
          have := d_cmp hT (zPartF_ok hT (f + 1)).2.2 (sumG (f + 1) hf) a p s fl σ hP
          unfold zPl
          rw [if_neg c]
          exact this
    exact ⟨h1, up (f + 1) h1⟩
