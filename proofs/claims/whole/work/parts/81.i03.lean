/-! CHANGES: what must be shown of both programs so that all holds again -/
theorem zAir_new {W W' : Int → Int → Int → Int} {σ σ1 : mS} (h : zAir W σ) (hc : σ.2.2.1 ≤ σ1.2.2.1) (hk : ∀ r, r ≤ σ.2.2.1 → σ1.2.1 r = σ.2.1 r) (hf : ∀ r, r = 47 ∨ 54 ≤ r ∧ r ≤ 57 ∨ 90 < r ∧ r ≤ σ.2.2.1 → σ1.1 r = σ.1 r)
    (ha : ∀ p, 0 ≤ p → p < 64 → σ.1 48 p ≤ σ1.1 48 p ∧ σ1.1 48 p ≤ 100000 ∧ (σ1.1 48 p = σ.1 48 p → ∀ s i, W' s p i = W s p i)) : zAir W' σ1 := by
  refine ⟨fun p p0 p1 => ⟨by have := (h.1 p p0 p1).1; have := (ha p p0 p1).1; omega, (ha p p0 p1).2.1⟩, fun s s0 s1 => ?_⟩
  rw [hf 47 (Or.inl rfl)]
  rcases h.2 s s0 s1 with e | e
  · exact Or.inl e
  · refine Or.inr ?_
    obtain ⟨e1, e2, e3⟩ := e
    have lo := zHB_low e1
    generalize σ.1 47 s = b at *
    obtain ⟨g1, g2, g3, g4, g5, g6, g7, g8, g9⟩ := e1
    have fb : ∀ j, 0 ≤ j → j ≤ 3 → σ1.1 (b + j) = σ.1 (b + j) := fun j j0 j3 => hf _ (by omega)
    have f0 : σ1.1 b = σ.1 b := hf _ (by omega)
    have f1 := fb 1 (by decide) (by decide)
    have f2 := fb 2 (by decide) (by decide)
    have f3 := fb 3 (by decide) (by decide)
    refine ⟨⟨g1, by omega, by rw [hk _ (by omega)]; exact g3, by rw [hk _ (by omega)]; exact g4, by rw [hk _ (by omega)]; exact g5, by rw [hk _ (by omega)]; exact g6, by rw [f0]; exact g7, by rw [f0]; exact g8, by rw [f0]; exact g9⟩, by rw [f0]; exact e2, fun p p0 p1 => ?_⟩
    obtain ⟨x1, x2⟩ := e3 p p0 p1
    obtain ⟨y1, y2, y3⟩ := ha p p0 p1
    rw [f3]
    refine ⟨by omega, fun ee => ?_⟩
    have hw := y3 (by omega)
    intro i i0 i1
    have z := x2 (by omega) i i0 i1
    rw [f1, f2, hw]
    have ep : zpull (W' s) p i = zpull (W s) p i := by unfold zpull; rw [hw, hw]
    rw [ep]
    exact z
theorem zChg {k : Nat} {D D' : Int → (Int → Int) → Int} {A A' : Int → Int} {σ σ1 σ2 : mS} (h : zInv k D A σ) (hk : k ≤ 1000) (hW : zWF A') (hL : ∀ t, 0 ≤ t → t < A' 186 → zLm A' t (D' t))
    (b1 : zB σ1) (n1 : zN σ1) (c1 : σ.2.2.1 ≤ σ1.2.2.1 ∧ σ1.2.2.1 ≤ σ.2.2.1 + 4) (c2 : σ1.2.2.2 ≤ σ.2.2.2 + 500) (kk : ∀ r, r ≤ σ.2.2.1 → σ1.2.1 r = σ.2.1 r)
    (f1 : ∀ r, 14 ≤ r ∧ r ≤ 36 ∨ r = 47 ∨ 54 ≤ r ∧ r ≤ 57 ∨ r = 71 ∨ r = 72 ∨ 90 < r ∧ r ≤ σ.2.2.1 → σ1.1 r = σ.1 r) (l0 : zL0 σ1) (hR : zRoad 2 A' σ1.1) (hLw : zLaws σ1 2 A' D') (h58 : σ1.1 58 4 = 0)
    (ha : ∀ p, 0 ≤ p → p < 64 → σ.1 48 p ≤ σ1.1 48 p ∧ σ1.1 48 p ≤ 100000 ∧ (σ1.1 48 p = σ.1 48 p → ∀ s i, zWd D' A' s p i = zWd D A s p i))
    (b2 : zB σ2) (e2 : σ2.2 = σ1.2) (f2 : ∀ r, r ≤ 64 ∨ r = 71 ∨ r = 72 ∨ 90 < r → σ2.1 r = σ1.1 r) (h70 : σ2.1 70 = A') (hv : σ2.1 68 1 = σ.1 68 1 + 1) (h25 : σ2.1 68 25 = σ.1 68 25) (h81 : σ2.1 81 = σ.1 81) (hRs : zRs (k + 1) σ2) : zInv (k + 1) D' A' σ2 := by
  obtain ⟨q1, q2, q3, q4, q5, q6⟩ := h
  have f47 : σ2.1 47 = σ.1 47 := (f2 47 (by omega)).trans (f1 47 (by omega))
  have hQ1 : zQ D' A' σ1 := ⟨⟨b1, hW, hR, hLw, zAir_new q1.1.2.2.2.2 c1.1 kk (fun r hr => f1 r (by omega)) ha⟩, n1, Or.inl h58⟩
  refine ⟨zQ_fr hQ1 e2 b2 (fun r hr => f2 r (by omega)), ?_, hL, hRs, ?_, ?_⟩
  · refine ⟨b2, hW, fun s p i => zWd_bd hW hLw s p i, h70, zML_of hW hL, ?_, ?_⟩
    · have := q2.2.2.2.2.2.1
      have := hRs.2.2.2.2.2.2.2.2.2
      omega
    · rcases q2.2.2.2.2.2.2 with g | ⟨g, g'⟩
      · exact Or.inl (by rw [h25]; exact g)
      · refine Or.inr ⟨by rw [h25]; exact g, fun s s0 s1 => ?_⟩
        have := (g' s s0 s1).1
        rw [hv, h81]
        exact ⟨by omega, fun e => by omega⟩
  · have m1 : zIm σ1 := zIm_fr q5 l0 (fun r hr => f1 r (by omega)) (fun b b0 _ _ bc j j0 j3 => f1 _ (by omega)) kk c1.1
    exact zIm_fr m1 (zL0_fr l0 (fun r hr => f2 r (by omega))) (fun r hr => f2 r (by omega)) (fun b b0 _ _ _ j j0 j1 => f2 _ (by omega)) (fun r _ => by rw [e2]) (by rw [e2]; exact Int.le_refl _)
  · unfold zCn
    rw [f47, e2]
    exact ⟨by have := q6.1; omega, by have := q6.2; omega⟩
/-- a refusal of the developers' program, and of the reference -/
theorem e_refuse {σ : mS} {by' m : Int} (hB : zB σ) (hm : m = -by') (hb : 1 ≤ m ∧ m ≤ 6) (hc : 0 ≤ σ.1 67 m ∧ σ.1 67 m ≤ 100000) : M_RW_refuse 1 by' σ = some (by', (mup (mup σ.1 1 14 by') 67 m (σ.1 67 m + 1), σ.2)) := by
  have : wpo (M_RW_refuse 1 by' σ) (fun q => q = (by', (mup (mup σ.1 1 14 by') 67 m (σ.1 67 m + 1), σ.2))) := by
    have hB1 := zB_mup (r := 1) (i := 14) (v := by') hB (by decide +kernel)
    have w1 : ∀ u : Int, u = -by' → w32 u = m := fun u hu => by rw [w32_in (by omega) (by omega)]; omega
    have w2 : ∀ u : Int, u = 6 → w32 u = 6 := fun u hu => by rw [w32_in (by omega) (by omega)]; omega
    have w3 : ∀ u : Int, u = σ.1 67 m → w32 (u + 1) = σ.1 67 m + 1 := fun u hu => by rw [w32_in (by omega) (by omega)]; omega
    have c0 : 0 ≤ m ∧ m ≤ 6 := by omega
    have c1 : 0 ≤ m := by omega
    have c2 : m < 7 := by omega
    have n10 : ¬ (1 : Int) = 0 := by decide
    unfold M_RW_refuse
    simp (maxSteps := 5000000) (disch := first | assumption | omega) only [wpo_bind, wpo_some, wpo_gf, wpo_gk, wpo_ld, wpo_pf, wpo_pz, wpo_sd, wpo_sr, wpo_ln, wpo_idv, wpo_irm, wpo_lrm, wpo_ldv, wpo_cpy, mlet, mnar_int, mup_same, mup_cell, mup_slot, ite_true, ite_false, true_and, and_true, eq_self, or_true, true_or, and_self, Int.reduceLT, Int.reduceLE, Int.reduceEq, Int.reduceNe, Int.reduceAdd, Int.reduceSub, Int.reduceMul, Int.reduceNeg, ne_eq, not_false_eq_true, not_true_eq_false, false_or, or_false, zor_inl, zor_inr, Bool.false_eq_true, false_and, and_false, zk1, zk2, zk3, zk4, zk5, zk6, zk7, zk8, zk9, zk10, zk11, zk12, zk13, zk14, zk15, zk16, zk17, zk18, zk19, zk20, zk21, zk22, zk23, zk24, zk25, zk26, zk27, zk28, zk29, zk30, zk31, zk32, zk33, zk34, zk35, zk36, zk37, zk38, zk39, zk40, zk41, zk42, zk43, zk44, zk45, zk46, zk47, zk48, zk49, zk50, zk51, zk52, zk53, zk54, zk55, zk56, zk57, zk58, zk59, zk60, zk61, zk62, zk63, zk64, zk65, zk66, zk67, zk68, zk69, zk70, zk71, zk72, zk73, zk74, zk75, zk76, zk77, zk78, zk79, zk80, zk81, zk82, zk83, zk84, zk85, zk86, zk87, zk88, zk89, zk90, zr2_0, zr2_1, zr2_2, zr2_3, zr2_4, zr2_6, zr2_7, zr2_10, zr2_11, zr2_12, zr1_0, zr1_1, zr14_0, zr14_1, zr14_2, zr14_3, zr14_4, zr14_6, zr14_7, zr14_10, zr14_11, zr14_12, zr13_0, zr25_0, zr25_1, zr25_2, zr25_3, zr25_4, zr25_6, zr25_7, zr25_10, zr25_11, zr25_12, zr13_1, zr1_2, zr37_0, zr1_3, zr39_0, zr39_1, zr39_2, zr39_5, zr39_7, zr39_8, zr1_4, zr46_1, zr46_2, zr46_3, zr46_4, zr46_0, zr1_5, zr51_2, zr51_10, zr51_0, zr51_1, zr54_1, zr54_2, zr54_3, zr1_6, zr58_1, zr58_2, zr58_3, zr58_0, zr1_7, zr62_2, zr62_3, zr62_0, zr62_1, zr1_8, zr1_9, zr1_10, zr1_15, zr68_2, zr68_3, zr68_4, zr68_5, zr68_7, zr68_8, zr68_9, zr68_12, zr68_13, zr68_14, zr68_22, zr68_23, zr68_24, zr68_26, zr68_35, zr68_36, zr68_37, zr68_38, zr68_39, zr68_40, zr68_41, zr68_42, w1, w2, e_within, c0, n10, c1, c2, w3]
  obtain ⟨y, e, rfl⟩ := this
  exact e
theorem f_refuses {σ : mS} {by' m : Int} (hB : zB σ) (hm : m = -by') (hb : 1 ≤ m ∧ m ≤ 6) (hc : 0 ≤ σ.1 69 m ∧ σ.1 69 m ≤ 100000) : M_Mo_refuses 68 by' σ = some (by', (mup (mup σ.1 68 0 by') 69 m (σ.1 69 m + 1), σ.2)) := by
  have : wpo (M_Mo_refuses 68 by' σ) (fun q => q = (by', (mup (mup σ.1 68 0 by') 69 m (σ.1 69 m + 1), σ.2))) := by
    have hB1 := zB_mup (r := 68) (i := 0) (v := by') hB (by decide +kernel)
    have w1 : ∀ u : Int, u = -by' → w32 u = m := fun u hu => by rw [w32_in (by omega) (by omega)]; omega
    have w3 : ∀ u : Int, u = σ.1 69 m → w32 (u + 1) = σ.1 69 m + 1 := fun u hu => by rw [w32_in (by omega) (by omega)]; omega
    have c1 : 0 ≤ m := by omega
    have c2 : m < 7 := by omega
    unfold M_Mo_refuses
    simp (maxSteps := 5000000) (disch := first | assumption | omega) only [wpo_bind, wpo_some, wpo_gf, wpo_gk, wpo_ld, wpo_pf, wpo_pz, wpo_sd, wpo_sr, wpo_ln, wpo_idv, wpo_irm, wpo_lrm, wpo_ldv, wpo_cpy, mlet, mnar_int, mup_same, mup_cell, mup_slot, ite_true, ite_false, true_and, and_true, eq_self, or_true, true_or, and_self, Int.reduceLT, Int.reduceLE, Int.reduceEq, Int.reduceNe, Int.reduceAdd, Int.reduceSub, Int.reduceMul, Int.reduceNeg, ne_eq, not_false_eq_true, not_true_eq_false, false_or, or_false, zor_inl, zor_inr, Bool.false_eq_true, false_and, and_false, zk1, zk2, zk3, zk4, zk5, zk6, zk7, zk8, zk9, zk10, zk11, zk12, zk13, zk14, zk15, zk16, zk17, zk18, zk19, zk20, zk21, zk22, zk23, zk24, zk25, zk26, zk27, zk28, zk29, zk30, zk31, zk32, zk33, zk34, zk35, zk36, zk37, zk38, zk39, zk40, zk41, zk42, zk43, zk44, zk45, zk46, zk47, zk48, zk49, zk50, zk51, zk52, zk53, zk54, zk55, zk56, zk57, zk58, zk59, zk60, zk61, zk62, zk63, zk64, zk65, zk66, zk67, zk68, zk69, zk70, zk71, zk72, zk73, zk74, zk75, zk76, zk77, zk78, zk79, zk80, zk81, zk82, zk83, zk84, zk85, zk86, zk87, zk88, zk89, zk90, zr2_0, zr2_1, zr2_2, zr2_3, zr2_4, zr2_6, zr2_7, zr2_10, zr2_11, zr2_12, zr1_0, zr1_1, zr14_0, zr14_1, zr14_2, zr14_3, zr14_4, zr14_6, zr14_7, zr14_10, zr14_11, zr14_12, zr13_0, zr25_0, zr25_1, zr25_2, zr25_3, zr25_4, zr25_6, zr25_7, zr25_10, zr25_11, zr25_12, zr13_1, zr1_2, zr37_0, zr1_3, zr39_0, zr39_1, zr39_2, zr39_5, zr39_7, zr39_8, zr1_4, zr46_1, zr46_2, zr46_3, zr46_4, zr46_0, zr1_5, zr51_2, zr51_10, zr51_0, zr51_1, zr54_1, zr54_2, zr54_3, zr1_6, zr58_1, zr58_2, zr58_3, zr58_0, zr1_7, zr62_2, zr62_3, zr62_0, zr62_1, zr1_8, zr1_9, zr1_10, zr1_15, zr68_2, zr68_3, zr68_4, zr68_5, zr68_7, zr68_8, zr68_9, zr68_12, zr68_13, zr68_14, zr68_22, zr68_23, zr68_24, zr68_26, zr68_35, zr68_36, zr68_37, zr68_38, zr68_39, zr68_40, zr68_41, zr68_42, w1, c1, c2, w3]
  obtain ⟨y, e, rfl⟩ := this
  exact e
theorem e_accept {σ : mS} {v : Int} (hB : zB σ) : M_RW_accept 1 v σ = some (v, (mup (mup σ.1 1 14 0) 58 4 0, σ.2)) := by
  have : wpo (M_RW_accept 1 v σ) (fun q => q = (v, (mup (mup σ.1 1 14 0) 58 4 0, σ.2))) := by
    have hB1 := zB_mup (r := 1) (i := 14) (v := 0) hB (by decide +kernel)
    unfold M_RW_accept M_Field_forget
    simp (maxSteps := 5000000) (disch := first | assumption | omega) only [wpo_bind, wpo_some, wpo_gf, wpo_gk, wpo_ld, wpo_pf, wpo_pz, wpo_sd, wpo_sr, wpo_ln, wpo_idv, wpo_irm, wpo_lrm, wpo_ldv, wpo_cpy, mlet, mnar_int, mup_same, mup_cell, mup_slot, ite_true, ite_false, true_and, and_true, eq_self, or_true, true_or, and_self, Int.reduceLT, Int.reduceLE, Int.reduceEq, Int.reduceNe, Int.reduceAdd, Int.reduceSub, Int.reduceMul, Int.reduceNeg, ne_eq, not_false_eq_true, not_true_eq_false, false_or, or_false, zor_inl, zor_inr, Bool.false_eq_true, false_and, and_false, zk1, zk2, zk3, zk4, zk5, zk6, zk7, zk8, zk9, zk10, zk11, zk12, zk13, zk14, zk15, zk16, zk17, zk18, zk19, zk20, zk21, zk22, zk23, zk24, zk25, zk26, zk27, zk28, zk29, zk30, zk31, zk32, zk33, zk34, zk35, zk36, zk37, zk38, zk39, zk40, zk41, zk42, zk43, zk44, zk45, zk46, zk47, zk48, zk49, zk50, zk51, zk52, zk53, zk54, zk55, zk56, zk57, zk58, zk59, zk60, zk61, zk62, zk63, zk64, zk65, zk66, zk67, zk68, zk69, zk70, zk71, zk72, zk73, zk74, zk75, zk76, zk77, zk78, zk79, zk80, zk81, zk82, zk83, zk84, zk85, zk86, zk87, zk88, zk89, zk90, zr2_0, zr2_1, zr2_2, zr2_3, zr2_4, zr2_6, zr2_7, zr2_10, zr2_11, zr2_12, zr1_0, zr1_1, zr14_0, zr14_1, zr14_2, zr14_3, zr14_4, zr14_6, zr14_7, zr14_10, zr14_11, zr14_12, zr13_0, zr25_0, zr25_1, zr25_2, zr25_3, zr25_4, zr25_6, zr25_7, zr25_10, zr25_11, zr25_12, zr13_1, zr1_2, zr37_0, zr1_3, zr39_0, zr39_1, zr39_2, zr39_5, zr39_7, zr39_8, zr1_4, zr46_1, zr46_2, zr46_3, zr46_4, zr46_0, zr1_5, zr51_2, zr51_10, zr51_0, zr51_1, zr54_1, zr54_2, zr54_3, zr1_6, zr58_1, zr58_2, zr58_3, zr58_0, zr1_7, zr62_2, zr62_3, zr62_0, zr62_1, zr1_8, zr1_9, zr1_10, zr1_15, zr68_2, zr68_3, zr68_4, zr68_5, zr68_7, zr68_8, zr68_9, zr68_12, zr68_13, zr68_14, zr68_22, zr68_23, zr68_24, zr68_26, zr68_35, zr68_36, zr68_37, zr68_38, zr68_39, zr68_40, zr68_41, zr68_42]
  obtain ⟨y, e, rfl⟩ := this
  exact e
theorem f_good {σ : mS} {v : Int} (hB : zB σ) (hv : 0 ≤ σ.1 68 1 ∧ σ.1 68 1 ≤ 100000) : M_Mo_good 68 v σ = some (v, (mup (mup σ.1 68 0 0) 68 1 (σ.1 68 1 + 1), σ.2)) := by
  have : wpo (M_Mo_good 68 v σ) (fun q => q = (v, (mup (mup σ.1 68 0 0) 68 1 (σ.1 68 1 + 1), σ.2))) := by
    have hB1 := zB_mup (r := 68) (i := 0) (v := 0) hB (by decide +kernel)
    have w3 : ∀ u : Int, u = σ.1 68 1 → w32 (u + 1) = σ.1 68 1 + 1 := fun u hu => by rw [w32_in (by omega) (by omega)]; omega
    unfold M_Mo_good
    simp (maxSteps := 5000000) (disch := first | assumption | omega) only [wpo_bind, wpo_some, wpo_gf, wpo_gk, wpo_ld, wpo_pf, wpo_pz, wpo_sd, wpo_sr, wpo_ln, wpo_idv, wpo_irm, wpo_lrm, wpo_ldv, wpo_cpy, mlet, mnar_int, mup_same, mup_cell, mup_slot, ite_true, ite_false, true_and, and_true, eq_self, or_true, true_or, and_self, Int.reduceLT, Int.reduceLE, Int.reduceEq, Int.reduceNe, Int.reduceAdd, Int.reduceSub, Int.reduceMul, Int.reduceNeg, ne_eq, not_false_eq_true, not_true_eq_false, false_or, or_false, zor_inl, zor_inr, Bool.false_eq_true, false_and, and_false, zk1, zk2, zk3, zk4, zk5, zk6, zk7, zk8, zk9, zk10, zk11, zk12, zk13, zk14, zk15, zk16, zk17, zk18, zk19, zk20, zk21, zk22, zk23, zk24, zk25, zk26, zk27, zk28, zk29, zk30, zk31, zk32, zk33, zk34, zk35, zk36, zk37, zk38, zk39, zk40, zk41, zk42, zk43, zk44, zk45, zk46, zk47, zk48, zk49, zk50, zk51, zk52, zk53, zk54, zk55, zk56, zk57, zk58, zk59, zk60, zk61, zk62, zk63, zk64, zk65, zk66, zk67, zk68, zk69, zk70, zk71, zk72, zk73, zk74, zk75, zk76, zk77, zk78, zk79, zk80, zk81, zk82, zk83, zk84, zk85, zk86, zk87, zk88, zk89, zk90, zr2_0, zr2_1, zr2_2, zr2_3, zr2_4, zr2_6, zr2_7, zr2_10, zr2_11, zr2_12, zr1_0, zr1_1, zr14_0, zr14_1, zr14_2, zr14_3, zr14_4, zr14_6, zr14_7, zr14_10, zr14_11, zr14_12, zr13_0, zr25_0, zr25_1, zr25_2, zr25_3, zr25_4, zr25_6, zr25_7, zr25_10, zr25_11, zr25_12, zr13_1, zr1_2, zr37_0, zr1_3, zr39_0, zr39_1, zr39_2, zr39_5, zr39_7, zr39_8, zr1_4, zr46_1, zr46_2, zr46_3, zr46_4, zr46_0, zr1_5, zr51_2, zr51_10, zr51_0, zr51_1, zr54_1, zr54_2, zr54_3, zr1_6, zr58_1, zr58_2, zr58_3, zr58_0, zr1_7, zr62_2, zr62_3, zr62_0, zr62_1, zr1_8, zr1_9, zr1_10, zr1_15, zr68_2, zr68_3, zr68_4, zr68_5, zr68_7, zr68_8, zr68_9, zr68_12, zr68_13, zr68_14, zr68_22, zr68_23, zr68_24, zr68_26, zr68_35, zr68_36, zr68_37, zr68_38, zr68_39, zr68_40, zr68_41, zr68_42, w3]
  obtain ⟨y, e, rfl⟩ := this
  exact e
/-- a refusal of both -/
theorem zRefu {k : Nat} {D : Int → (Int → Int) → Int} {A : Int → Int} {σ : mS} {by' m : Int} {F G : mS → Option (Int × mS)} (h : zInv k D A σ) (hk : k ≤ 1000) (hm : m = -by') (hb : 1 ≤ m ∧ m ≤ 6)
    (hF : M_RW_refuse 1 by' σ = some (by', (mup (mup σ.1 1 14 by') 67 m (σ.1 67 m + 1), σ.2)) → wpo (F σ) (fun q => q = (by', (mup (mup σ.1 1 14 by') 67 m (σ.1 67 m + 1), σ.2))))
    (hG : ∀ σ1 : mS, zB σ1 → (∀ r, 68 ≤ r → r ≤ 90 → σ1.1 r = σ.1 r) → M_Mo_refuses 68 by' σ1 = some (by', (mup (mup σ1.1 68 0 by') 69 m (σ1.1 69 m + 1), σ1.2)) → wpo (G σ1) (fun q => q = (by', (mup (mup σ1.1 68 0 by') 69 m (σ1.1 69 m + 1), σ1.2)))) :
    wpo (F σ) (fun q => wpo (G q.2) (fun z => z.1 = q.1 ∧ ∃ D' A', zInv (k + 1) D' A' z.2)) := by
  have hB := h.1.1.1
  obtain ⟨q1, q2, q3, ⟨r1, r2, r3, r4, r5, r6, r7, r8, r9, r10⟩, q5, q6⟩ := h
  have rm := r2 m (by omega) (by omega)
  refine wpo_mono (hF (e_refuse hB hm hb (by omega))) ?_
  intro q hq
  subst hq
  have b0 := zB_mup (r := 1) (i := 14) (v := by') hB (by decide +kernel)
  have b1 := zB_mup (r := 67) (i := m) (v := σ.1 67 m + 1) b0 (zokr_arr (by decide +kernel))
  have fX : ∀ r, r ≠ 1 → r ≠ 67 → mup (mup σ.1 1 14 by') 67 m (σ.1 67 m + 1) r = σ.1 r := fun r x y => by rw [mup_fun y, mup_fun x]
  refine wpo_mono (hG (mup (mup σ.1 1 14 by') 67 m (σ.1 67 m + 1), σ.2) b1 (fun r x y => fX r (by omega) (by omega)) (f_refuses b1 hm hb (by show 0 ≤ mup (mup σ.1 1 14 by') 67 m (σ.1 67 m + 1) 69 m ∧ mup (mup σ.1 1 14 by') 67 m (σ.1 67 m + 1) 69 m ≤ 100000; rw [fX 69 (by decide) (by decide)]; omega))) ?_
  intro z hz
  subst hz
  refine ⟨rfl, D, A, ?_⟩
  have b2 := zB_mup (r := 68) (i := 0) (v := by') b1 (by decide +kernel)
  have b3 := zB_mup (r := 69) (i := m) (v := σ.1 69 m + 1) b2 (zokr_arr (by decide +kernel))
  have e69 : ((mup (mup σ.1 1 14 by') 67 m (σ.1 67 m + 1), σ.2) : mS).1 69 m = σ.1 69 m := congrFun (fX 69 (by decide) (by decide)) m
  rw [e69]
  show zInv (k + 1) D A (mup (mup (mup (mup σ.1 1 14 by') 67 m (σ.1 67 m + 1)) 68 0 by') 69 m (σ.1 69 m + 1), σ.2)
  have fY : ∀ r, r ≠ 1 → r ≠ 67 → r ≠ 68 → r ≠ 69 → mup (mup (mup (mup σ.1 1 14 by') 67 m (σ.1 67 m + 1)) 68 0 by') 69 m (σ.1 69 m + 1) r = σ.1 r := fun r x y z w => by rw [mup_fun w, mup_fun z, fX r x y]
  have f1 : ∀ i, i ≠ 14 → mup (mup (mup (mup σ.1 1 14 by') 67 m (σ.1 67 m + 1)) 68 0 by') 69 m (σ.1 69 m + 1) 1 i = σ.1 1 i := fun i hi => by rw [mup_cell (by decide), mup_cell (by decide), mup_cell (by decide), mup_slot hi]
  have f68 : ∀ i, i ≠ 0 → mup (mup (mup (mup σ.1 1 14 by') 67 m (σ.1 67 m + 1)) 68 0 by') 69 m (σ.1 69 m + 1) 68 i = σ.1 68 i := fun i hi => by rw [mup_cell (by decide), mup_slot hi, fX 68 (by decide) (by decide)]
  generalize eY : ((mup (mup (mup (mup σ.1 1 14 by') 67 m (σ.1 67 m + 1)) 68 0 by') 69 m (σ.1 69 m + 1), σ.2) : mS) = Y
  have gY : ∀ r, r ≠ 1 → r ≠ 67 → r ≠ 68 → r ≠ 69 → Y.1 r = σ.1 r := fun r x y z w => by rw [← eY]; exact fY r x y z w
  have g1 : ∀ i, i ≠ 14 → Y.1 1 i = σ.1 1 i := fun i hi => by rw [← eY]; exact f1 i hi
  have g68 : ∀ i, i ≠ 0 → Y.1 68 i = σ.1 68 i := fun i hi => by rw [← eY]; exact f68 i hi
  have gB : zB Y := by rw [← eY]; exact b3
  have g2 : Y.2 = σ.2 := by rw [← eY]
  refine ⟨zQ_fr q1 g2 gB (fun r hr => gY r (by omega) (by omega) (by omega) (by omega)), ?_, q3, ⟨?_, ?_, ?_, ?_, ?_, ?_, ?_, ?_, ?_, ?_⟩, ?_, ?_⟩
  · obtain ⟨_, hW, hb', hA, hM, hv, hc⟩ := q2
    exact ⟨gB, hW, hb', by rw [gY 70 (by decide) (by decide) (by decide) (by decide)]; exact hA, hM, by rw [g68 1 (by decide)]; exact hv, by rw [g68 1 (by decide), g68 25 (by decide), gY 80 (by decide) (by decide) (by decide) (by decide), gY 81 (by decide) (by decide) (by decide) (by decide)]; exact hc⟩
  · rw [← eY]
    show mup (mup (mup (mup σ.1 1 14 by') 67 m (σ.1 67 m + 1)) 68 0 by') 69 m (σ.1 69 m + 1) 1 14 = mup (mup (mup (mup σ.1 1 14 by') 67 m (σ.1 67 m + 1)) 68 0 by') 69 m (σ.1 69 m + 1) 68 0
    rw [mup_cell (by decide), mup_cell (by decide), mup_cell (by decide), mup_same, mup_cell (by decide), mup_same]
  · intro j j0 j1
    have rj := r2 j j0 j1
    rw [← eY]
    show mup (mup (mup (mup σ.1 1 14 by') 67 m (σ.1 67 m + 1)) 68 0 by') 69 m (σ.1 69 m + 1) 67 j = mup (mup (mup (mup σ.1 1 14 by') 67 m (σ.1 67 m + 1)) 68 0 by') 69 m (σ.1 69 m + 1) 69 j ∧ 0 ≤ mup (mup (mup (mup σ.1 1 14 by') 67 m (σ.1 67 m + 1)) 68 0 by') 69 m (σ.1 69 m + 1) 69 j ∧ mup (mup (mup (mup σ.1 1 14 by') 67 m (σ.1 67 m + 1)) 68 0 by') 69 m (σ.1 69 m + 1) 69 j ≤ ((k + 1 : Nat) : Int)
    rw [mup_cell (by decide), mup_cell (by decide), mup_if, mup_if, mup_cell (by decide), mup_cell (by decide), mup_cell (by decide), mup_cell (by decide)]
    by_cases cj : j = m
    · rw [if_pos cj, if_pos cj]; omega
    · rw [if_neg cj, if_neg cj]; omega
  · rw [g1 12 (by decide), g68 6 (by decide)]; exact r3
  · rw [g1 13 (by decide), g68 11 (by decide)]; exact r4
  · rw [gY 37 (by decide) (by decide) (by decide) (by decide), g68 10 (by decide)]; exact r5
  · rw [gY 74 (by decide) (by decide) (by decide) (by decide), gY 38 (by decide) (by decide) (by decide) (by decide)]; exact r6
  · rw [g1 11 (by decide), g68 43 (by decide)]; exact r7
  · rw [gY 65 (by decide) (by decide) (by decide) (by decide), gY 66 (by decide) (by decide) (by decide) (by decide), gY 89 (by decide) (by decide) (by decide) (by decide), gY 90 (by decide) (by decide) (by decide) (by decide), g68 43 (by decide)]; exact r8
  · intro p p0 p1
    rw [gY 48 (by decide) (by decide) (by decide) (by decide)]
    have := r9 p p0 p1
    omega
  · rw [g68 1 (by decide)]; omega
  · exact zIm_fr q5 (zL0_fr q5.1 (fun r hr => gY r (by omega) (by omega) (by omega) (by omega))) (fun r hr => gY r (by omega) (by omega) (by omega) (by omega)) (fun b b0 _ _ _ j j0 j1 => gY _ (by omega) (by omega) (by omega) (by omega)) (fun r _ => by rw [g2]) (by rw [g2]; exact Int.le_refl _)
  · unfold zCn
    rw [gY 47 (by decide) (by decide) (by decide) (by decide), g2]
    exact ⟨by have := q6.1; omega, by have := q6.2; omega⟩
