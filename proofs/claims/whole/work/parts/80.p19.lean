/-! PARTS and comparisons as the reference tells them -/
theorem zBr_1 {K : Nat → Int} {N : Nat} {cl : Int} {Pd : zDn → Prop} {g : Nat → Nat → zRe} {a p : Nat} (hg : zRok N Pd (a + 1) p (g (a + 1) p)) (h : (zBr K cl g a p).1 = 1) : (g (a + 1) p).1 = 1 ∧ K (g (a + 1) p).2.1 = cl ∧ zBr K cl g a p = (1, (g (a + 1) p).2.1 + 1, (g (a + 1) p).2.2.1, (g (a + 1) p).2.2.2) := by
  unfold zBr at h ⊢
  rcases hg with ⟨k1, _⟩ | ⟨k1, _⟩
  · rw [if_pos k1] at h ⊢
    by_cases c : K (g (a + 1) p).2.1 = cl
    · rw [if_pos c]; exact ⟨k1, c, rfl⟩
    · rw [if_neg c] at h
      exact absurd h (by show ¬ (0 : Nat) = 1; decide)
  · rw [if_neg (by omega)] at h; omega
theorem zLeaf_1 {K V : Nat → Int} {a p : Nat} (h : (zLeaf K V a p).1 = 1) : (((K a = 257 ∧ V a ≤ 1000) ∨ (264 ≤ K a ∧ K a < 270)) ∧ p < 50) ∧ zLeaf K V a p = (1, a + 1, p + 1, fun w => some (if K a = 257 then V a else w (K a - 264))) := by
  unfold zLeaf at h ⊢
  by_cases c : ((K a = 257 ∧ V a ≤ 1000) ∨ (264 ≤ K a ∧ K a < 270)) ∧ p < 50
  · rw [if_pos c]; exact ⟨c, rfl⟩
  · rw [if_neg c] at h
    exact absurd h (by show ¬ (0 : Nat) = 1; decide)
set_option maxHeartbeats 4000000 in
theorem v_leaf {K V : Nat → Int} {N : Nat} (hT : zTx K V N) {A : Int → Int} {t : Int} (hA : zAk K V N A t) (hK : ∀ j : Nat, j ≤ N → 0 ≤ K j ∧ K j < 270) {w : Int → Int} (hw : zwok w) {live : Int} (hl : live = 0 ∨ live = 1) {G : Nat → List mV → mS → Option (Int × mS)} {a p : Nat} {br : Int} {σ : mS} (hk : K a ≠ 91) (hok : (zLeaf K V a p).1 = 1) (aN : a ≤ N) (hE : zEv A N t w σ) (hs : zAe t a br σ) (brb : br = 0 ∨ br = 1) :
    wpo (B_Mo_partOf G 68 live σ) (fun q => zFe σ q.2 ∧ ∃ br', zAe t (zLeaf K V a p).2.1 br' q.2 ∧ zRl live br (zLeaf K V a p).2.2.2 w q.1 br') := by
  obtain ⟨⟨lc, p50⟩, el⟩ := zLeaf_1 hok
  rw [el]
  have hB := hE.1
  have ky := hK a aN
  have ne : a ≠ N := by intro e; rw [e, hT.2.1] at lc; omega
  have N4 := hT.1
  have t0 := hA.1
  have v0 := hT.2.2 a
  have ps := phi_sign (k := K a) (c := 91) ky (by decide)
  have pa := v_passes (c := w32 191) hT hA hE aN hs
  have s1 : w32 191 = 100 + 91 := by decide
  rw [if_neg (by rw [s1]; exact fun e => hk (ps.mp e))] at pa
  have cd := v_codeAt hT hA hE aN
  have h19 := hs.1
  obtain ⟨tf, te, ta⟩ := v_tok (b := a + 1) hE hs
  have hB1 := te.1
  have h21 := ta.2
  have g19 := ta.1
  have e70 := te.2.1
  have n10 : ¬ (1 : Int) = 0 := by decide
  have w1 : ∀ u : Int, u = 400 * t + (a : Int) → w32 (u + 1) = 400 * t + ((a + 1 : Nat) : Int) := fun u hu => by rw [w32_in (by omega) (by omega)]; omega
  generalize hQ : (fun q : Int × mS => zFe σ q.2 ∧ ∃ br', zAe t ((1, a + 1, p + 1, fun w => some (if K a = 257 then V a else w (K a - 264))) : zRe).2.1 br' q.2 ∧ zRl live br ((1, a + 1, p + 1, fun w => some (if K a = 257 then V a else w (K a - 264))) : zRe).2.2.2 w q.1 br') = Q
  have qin : ¬ (live = 1 ∧ br = 0) → Q (0, (mup σ.1 68 19 (400 * t + ((a + 1 : Nat) : Int)), σ.2)) := by
    intro na
    rw [← hQ]
    exact ⟨tf, br, ta, brb, (by show (-1000000000 : Int) ≤ 0 ∧ (0 : Int) ≤ 1000000000; decide), fun h => absurd h na, fun _ => ⟨rfl, rfl⟩⟩
  have qact : live = 1 → br = 0 → Q ((if K a = 257 then V a else w (K a - 264)), (mup σ.1 68 19 (400 * t + ((a + 1 : Nat) : Int)), σ.2)) := by
    intro l1 b0
    rw [← hQ]
    refine ⟨tf, br, ta, brb, ?_, fun _ => ⟨fun x hx => ?_, fun hx => by cases hx⟩, fun h => absurd ⟨l1, b0⟩ h⟩
    · show -1000000000 ≤ (if K a = 257 then V a else w (K a - 264)) ∧ (if K a = 257 then V a else w (K a - 264)) ≤ 1000000000
      by_cases c2 : K a = 257
      · rw [if_pos c2]; omega
      · rw [if_neg c2]
        have := hw (K a - 264) (by omega) (by omega)
        omega
    · have hx : some (if K a = 257 then V a else w (K a - 264)) = some x := hx
      cases hx
      exact ⟨rfl, b0⟩
  unfold B_Mo_partOf M_Mo_sign
  simp (maxSteps := 5000000) (disch := first | assumption | omega) only [wpo_bind, wpo_some, wpo_gf, wpo_gk, wpo_ld, wpo_pf, wpo_pz, wpo_sd, wpo_sr, wpo_ln, wpo_idv, wpo_irm, wpo_lrm, wpo_ldv, wpo_cpy, mlet, mnar_int, mup_same, mup_cell, mup_slot, ite_true, ite_false, true_and, and_true, eq_self, or_true, true_or, and_self, Int.reduceLT, Int.reduceLE, Int.reduceEq, Int.reduceNe, Int.reduceAdd, Int.reduceSub, Int.reduceMul, Int.reduceNeg, ne_eq, not_false_eq_true, not_true_eq_false, false_or, or_false, zor_inl, zor_inr, Bool.false_eq_true, false_and, and_false, zk1, zk2, zk3, zk4, zk5, zk6, zk7, zk8, zk9, zk10, zk11, zk12, zk13, zk14, zk15, zk16, zk17, zk18, zk19, zk20, zk21, zk22, zk23, zk24, zk25, zk26, zk27, zk28, zk29, zk30, zk31, zk32, zk33, zk34, zk35, zk36, zk37, zk38, zk39, zk40, zk41, zk42, zk43, zk44, zk45, zk46, zk47, zk48, zk49, zk50, zk51, zk52, zk53, zk54, zk55, zk56, zk57, zk58, zk59, zk60, zk61, zk62, zk63, zk64, zk65, zk66, zk67, zk68, zk69, zk70, zk71, zk72, zk73, zk74, zk75, zk76, zk77, zk78, zk79, zk80, zk81, zk82, zk83, zk84, zk85, zk86, zk87, zk88, zk89, zk90, zr2_0, zr2_1, zr2_2, zr2_3, zr2_4, zr2_6, zr2_7, zr2_10, zr2_11, zr2_12, zr1_0, zr1_1, zr14_0, zr14_1, zr14_2, zr14_3, zr14_4, zr14_6, zr14_7, zr14_10, zr14_11, zr14_12, zr13_0, zr25_0, zr25_1, zr25_2, zr25_3, zr25_4, zr25_6, zr25_7, zr25_10, zr25_11, zr25_12, zr13_1, zr1_2, zr37_0, zr1_3, zr39_0, zr39_1, zr39_2, zr39_5, zr39_7, zr39_8, zr1_4, zr46_1, zr46_2, zr46_3, zr46_4, zr46_0, zr1_5, zr51_2, zr51_10, zr51_0, zr51_1, zr54_1, zr54_2, zr54_3, zr1_6, zr58_1, zr58_2, zr58_3, zr58_0, zr1_7, zr62_2, zr62_3, zr62_0, zr62_1, zr1_8, zr1_9, zr1_10, zr1_15, zr68_2, zr68_3, zr68_4, zr68_5, zr68_7, zr68_8, zr68_9, zr68_12, zr68_13, zr68_14, zr68_22, zr68_23, zr68_24, zr68_26, zr68_35, zr68_36, zr68_37, zr68_38, zr68_39, zr68_40, zr68_41, zr68_42, pa, h19, cd, w1]
  generalize eX : ((mup σ.1 68 19 (400 * t + ((a + 1 : Nat) : Int)), σ.2) : mS) = X at *
  rcases hl with l0 | l1
  · simp (maxSteps := 5000000) (disch := first | assumption | omega) only [wpo_bind, wpo_some, wpo_gf, wpo_gk, wpo_ld, wpo_pf, wpo_pz, wpo_sd, wpo_sr, wpo_ln, wpo_idv, wpo_irm, wpo_lrm, wpo_ldv, wpo_cpy, mlet, mnar_int, mup_same, mup_cell, mup_slot, ite_true, ite_false, true_and, and_true, eq_self, or_true, true_or, and_self, Int.reduceLT, Int.reduceLE, Int.reduceEq, Int.reduceNe, Int.reduceAdd, Int.reduceSub, Int.reduceMul, Int.reduceNeg, ne_eq, not_false_eq_true, not_true_eq_false, false_or, or_false, zor_inl, zor_inr, Bool.false_eq_true, false_and, and_false, zk1, zk2, zk3, zk4, zk5, zk6, zk7, zk8, zk9, zk10, zk11, zk12, zk13, zk14, zk15, zk16, zk17, zk18, zk19, zk20, zk21, zk22, zk23, zk24, zk25, zk26, zk27, zk28, zk29, zk30, zk31, zk32, zk33, zk34, zk35, zk36, zk37, zk38, zk39, zk40, zk41, zk42, zk43, zk44, zk45, zk46, zk47, zk48, zk49, zk50, zk51, zk52, zk53, zk54, zk55, zk56, zk57, zk58, zk59, zk60, zk61, zk62, zk63, zk64, zk65, zk66, zk67, zk68, zk69, zk70, zk71, zk72, zk73, zk74, zk75, zk76, zk77, zk78, zk79, zk80, zk81, zk82, zk83, zk84, zk85, zk86, zk87, zk88, zk89, zk90, zr2_0, zr2_1, zr2_2, zr2_3, zr2_4, zr2_6, zr2_7, zr2_10, zr2_11, zr2_12, zr1_0, zr1_1, zr14_0, zr14_1, zr14_2, zr14_3, zr14_4, zr14_6, zr14_7, zr14_10, zr14_11, zr14_12, zr13_0, zr25_0, zr25_1, zr25_2, zr25_3, zr25_4, zr25_6, zr25_7, zr25_10, zr25_11, zr25_12, zr13_1, zr1_2, zr37_0, zr1_3, zr39_0, zr39_1, zr39_2, zr39_5, zr39_7, zr39_8, zr1_4, zr46_1, zr46_2, zr46_3, zr46_4, zr46_0, zr1_5, zr51_2, zr51_10, zr51_0, zr51_1, zr54_1, zr54_2, zr54_3, zr1_6, zr58_1, zr58_2, zr58_3, zr58_0, zr1_7, zr62_2, zr62_3, zr62_0, zr62_1, zr1_8, zr1_9, zr1_10, zr1_15, zr68_2, zr68_3, zr68_4, zr68_5, zr68_7, zr68_8, zr68_9, zr68_12, zr68_13, zr68_14, zr68_22, zr68_23, zr68_24, zr68_26, zr68_35, zr68_36, zr68_37, zr68_38, zr68_39, zr68_40, zr68_41, zr68_42, l0]
    exact qin (by omega)
  · simp (maxSteps := 5000000) (disch := first | assumption | omega) only [wpo_bind, wpo_some, wpo_gf, wpo_gk, wpo_ld, wpo_pf, wpo_pz, wpo_sd, wpo_sr, wpo_ln, wpo_idv, wpo_irm, wpo_lrm, wpo_ldv, wpo_cpy, mlet, mnar_int, mup_same, mup_cell, mup_slot, ite_true, ite_false, true_and, and_true, eq_self, or_true, true_or, and_self, Int.reduceLT, Int.reduceLE, Int.reduceEq, Int.reduceNe, Int.reduceAdd, Int.reduceSub, Int.reduceMul, Int.reduceNeg, ne_eq, not_false_eq_true, not_true_eq_false, false_or, or_false, zor_inl, zor_inr, Bool.false_eq_true, false_and, and_false, zk1, zk2, zk3, zk4, zk5, zk6, zk7, zk8, zk9, zk10, zk11, zk12, zk13, zk14, zk15, zk16, zk17, zk18, zk19, zk20, zk21, zk22, zk23, zk24, zk25, zk26, zk27, zk28, zk29, zk30, zk31, zk32, zk33, zk34, zk35, zk36, zk37, zk38, zk39, zk40, zk41, zk42, zk43, zk44, zk45, zk46, zk47, zk48, zk49, zk50, zk51, zk52, zk53, zk54, zk55, zk56, zk57, zk58, zk59, zk60, zk61, zk62, zk63, zk64, zk65, zk66, zk67, zk68, zk69, zk70, zk71, zk72, zk73, zk74, zk75, zk76, zk77, zk78, zk79, zk80, zk81, zk82, zk83, zk84, zk85, zk86, zk87, zk88, zk89, zk90, zr2_0, zr2_1, zr2_2, zr2_3, zr2_4, zr2_6, zr2_7, zr2_10, zr2_11, zr2_12, zr1_0, zr1_1, zr14_0, zr14_1, zr14_2, zr14_3, zr14_4, zr14_6, zr14_7, zr14_10, zr14_11, zr14_12, zr13_0, zr25_0, zr25_1, zr25_2, zr25_3, zr25_4, zr25_6, zr25_7, zr25_10, zr25_11, zr25_12, zr13_1, zr1_2, zr37_0, zr1_3, zr39_0, zr39_1, zr39_2, zr39_5, zr39_7, zr39_8, zr1_4, zr46_1, zr46_2, zr46_3, zr46_4, zr46_0, zr1_5, zr51_2, zr51_10, zr51_0, zr51_1, zr54_1, zr54_2, zr54_3, zr1_6, zr58_1, zr58_2, zr58_3, zr58_0, zr1_7, zr62_2, zr62_3, zr62_0, zr62_1, zr1_8, zr1_9, zr1_10, zr1_15, zr68_2, zr68_3, zr68_4, zr68_5, zr68_7, zr68_8, zr68_9, zr68_12, zr68_13, zr68_14, zr68_22, zr68_23, zr68_24, zr68_26, zr68_35, zr68_36, zr68_37, zr68_38, zr68_39, zr68_40, zr68_41, zr68_42, l1, n10, h21]
    rcases brb with b0 | b1
    · rw [if_pos b0]
      have qa := qact l1 b0
      by_cases c5 : zphi (K a) = 50
      · have k257 := (phi_num ky).mp c5
        rw [if_pos k257] at qa
        rw [if_pos c5]
        have w2 : ∀ u : Int, u = 400 * t + ((a + 1 : Nat) : Int) → w32 (w32 (2594 + u) - 1) = 2594 + (400 * t + (a : Int)) := fun u hu => by rw [w32_in (x := 2594 + u) (by omega) (by omega), w32_in (by omega) (by omega)]; omega
        have c2 : 0 ≤ 2594 + (400 * t + (a : Int)) := by omega
        have c3 : 2594 + (400 * t + (a : Int)) < 4994 := by omega
        have kv := (hA.2.2 a (by omega)).2 k257 (by omega)
        simp (maxSteps := 5000000) (disch := first | assumption | omega) only [wpo_bind, wpo_some, wpo_gf, wpo_gk, wpo_ld, wpo_pf, wpo_pz, wpo_sd, wpo_sr, wpo_ln, wpo_idv, wpo_irm, wpo_lrm, wpo_ldv, wpo_cpy, mlet, mnar_int, mup_same, mup_cell, mup_slot, ite_true, ite_false, true_and, and_true, eq_self, or_true, true_or, and_self, Int.reduceLT, Int.reduceLE, Int.reduceEq, Int.reduceNe, Int.reduceAdd, Int.reduceSub, Int.reduceMul, Int.reduceNeg, ne_eq, not_false_eq_true, not_true_eq_false, false_or, or_false, zor_inl, zor_inr, Bool.false_eq_true, false_and, and_false, zk1, zk2, zk3, zk4, zk5, zk6, zk7, zk8, zk9, zk10, zk11, zk12, zk13, zk14, zk15, zk16, zk17, zk18, zk19, zk20, zk21, zk22, zk23, zk24, zk25, zk26, zk27, zk28, zk29, zk30, zk31, zk32, zk33, zk34, zk35, zk36, zk37, zk38, zk39, zk40, zk41, zk42, zk43, zk44, zk45, zk46, zk47, zk48, zk49, zk50, zk51, zk52, zk53, zk54, zk55, zk56, zk57, zk58, zk59, zk60, zk61, zk62, zk63, zk64, zk65, zk66, zk67, zk68, zk69, zk70, zk71, zk72, zk73, zk74, zk75, zk76, zk77, zk78, zk79, zk80, zk81, zk82, zk83, zk84, zk85, zk86, zk87, zk88, zk89, zk90, zr2_0, zr2_1, zr2_2, zr2_3, zr2_4, zr2_6, zr2_7, zr2_10, zr2_11, zr2_12, zr1_0, zr1_1, zr14_0, zr14_1, zr14_2, zr14_3, zr14_4, zr14_6, zr14_7, zr14_10, zr14_11, zr14_12, zr13_0, zr25_0, zr25_1, zr25_2, zr25_3, zr25_4, zr25_6, zr25_7, zr25_10, zr25_11, zr25_12, zr13_1, zr1_2, zr37_0, zr1_3, zr39_0, zr39_1, zr39_2, zr39_5, zr39_7, zr39_8, zr1_4, zr46_1, zr46_2, zr46_3, zr46_4, zr46_0, zr1_5, zr51_2, zr51_10, zr51_0, zr51_1, zr54_1, zr54_2, zr54_3, zr1_6, zr58_1, zr58_2, zr58_3, zr58_0, zr1_7, zr62_2, zr62_3, zr62_0, zr62_1, zr1_8, zr1_9, zr1_10, zr1_15, zr68_2, zr68_3, zr68_4, zr68_5, zr68_7, zr68_8, zr68_9, zr68_12, zr68_13, zr68_14, zr68_22, zr68_23, zr68_24, zr68_26, zr68_35, zr68_36, zr68_37, zr68_38, zr68_39, zr68_40, zr68_41, zr68_42, e70, g19, w2, c2, c3, kv]
        exact qa
      · have k257 : ¬ K a = 257 := fun e => c5 ((phi_num ky).mpr e)
        rw [if_neg k257] at qa
        rw [if_neg c5]
        have kr : 264 ≤ K a ∧ K a < 270 := by omega
        have ez : zphi (K a) = K a - 258 := by unfold zphi; rw [if_neg (by omega), if_neg (by omega), if_neg (by omega)]
        have w2 : ∀ u : Int, u = K a - 258 → w32 (u - 6) = K a - 264 := fun u hu => by rw [w32_in (by omega) (by omega)]; omega
        have c2 : 0 ≤ K a - 264 := by omega
        have c3 : K a - 264 < 6 := by omega
        have kv := te.2.2.2 (K a - 264) c2 c3
        simp (maxSteps := 5000000) (disch := first | assumption | omega) only [wpo_bind, wpo_some, wpo_gf, wpo_gk, wpo_ld, wpo_pf, wpo_pz, wpo_sd, wpo_sr, wpo_ln, wpo_idv, wpo_irm, wpo_lrm, wpo_ldv, wpo_cpy, mlet, mnar_int, mup_same, mup_cell, mup_slot, ite_true, ite_false, true_and, and_true, eq_self, or_true, true_or, and_self, Int.reduceLT, Int.reduceLE, Int.reduceEq, Int.reduceNe, Int.reduceAdd, Int.reduceSub, Int.reduceMul, Int.reduceNeg, ne_eq, not_false_eq_true, not_true_eq_false, false_or, or_false, zor_inl, zor_inr, Bool.false_eq_true, false_and, and_false, zk1, zk2, zk3, zk4, zk5, zk6, zk7, zk8, zk9, zk10, zk11, zk12, zk13, zk14, zk15, zk16, zk17, zk18, zk19, zk20, zk21, zk22, zk23, zk24, zk25, zk26, zk27, zk28, zk29, zk30, zk31, zk32, zk33, zk34, zk35, zk36, zk37, zk38, zk39, zk40, zk41, zk42, zk43, zk44, zk45, zk46, zk47, zk48, zk49, zk50, zk51, zk52, zk53, zk54, zk55, zk56, zk57, zk58, zk59, zk60, zk61, zk62, zk63, zk64, zk65, zk66, zk67, zk68, zk69, zk70, zk71, zk72, zk73, zk74, zk75, zk76, zk77, zk78, zk79, zk80, zk81, zk82, zk83, zk84, zk85, zk86, zk87, zk88, zk89, zk90, zr2_0, zr2_1, zr2_2, zr2_3, zr2_4, zr2_6, zr2_7, zr2_10, zr2_11, zr2_12, zr1_0, zr1_1, zr14_0, zr14_1, zr14_2, zr14_3, zr14_4, zr14_6, zr14_7, zr14_10, zr14_11, zr14_12, zr13_0, zr25_0, zr25_1, zr25_2, zr25_3, zr25_4, zr25_6, zr25_7, zr25_10, zr25_11, zr25_12, zr13_1, zr1_2, zr37_0, zr1_3, zr39_0, zr39_1, zr39_2, zr39_5, zr39_7, zr39_8, zr1_4, zr46_1, zr46_2, zr46_3, zr46_4, zr46_0, zr1_5, zr51_2, zr51_10, zr51_0, zr51_1, zr54_1, zr54_2, zr54_3, zr1_6, zr58_1, zr58_2, zr58_3, zr58_0, zr1_7, zr62_2, zr62_3, zr62_0, zr62_1, zr1_8, zr1_9, zr1_10, zr1_15, zr68_2, zr68_3, zr68_4, zr68_5, zr68_7, zr68_8, zr68_9, zr68_12, zr68_13, zr68_14, zr68_22, zr68_23, zr68_24, zr68_26, zr68_35, zr68_36, zr68_37, zr68_38, zr68_39, zr68_40, zr68_41, zr68_42, ez, w2, c2, c3, kv]
        exact qa
    · rw [if_neg (by omega)]
      simp (maxSteps := 5000000) (disch := first | assumption | omega) only [wpo_bind, wpo_some, wpo_gf, wpo_gk, wpo_ld, wpo_pf, wpo_pz, wpo_sd, wpo_sr, wpo_ln, wpo_idv, wpo_irm, wpo_lrm, wpo_ldv, wpo_cpy, mlet, mnar_int, mup_same, mup_cell, mup_slot, ite_true, ite_false, true_and, and_true, eq_self, or_true, true_or, and_self, Int.reduceLT, Int.reduceLE, Int.reduceEq, Int.reduceNe, Int.reduceAdd, Int.reduceSub, Int.reduceMul, Int.reduceNeg, ne_eq, not_false_eq_true, not_true_eq_false, false_or, or_false, zor_inl, zor_inr, Bool.false_eq_true, false_and, and_false, zk1, zk2, zk3, zk4, zk5, zk6, zk7, zk8, zk9, zk10, zk11, zk12, zk13, zk14, zk15, zk16, zk17, zk18, zk19, zk20, zk21, zk22, zk23, zk24, zk25, zk26, zk27, zk28, zk29, zk30, zk31, zk32, zk33, zk34, zk35, zk36, zk37, zk38, zk39, zk40, zk41, zk42, zk43, zk44, zk45, zk46, zk47, zk48, zk49, zk50, zk51, zk52, zk53, zk54, zk55, zk56, zk57, zk58, zk59, zk60, zk61, zk62, zk63, zk64, zk65, zk66, zk67, zk68, zk69, zk70, zk71, zk72, zk73, zk74, zk75, zk76, zk77, zk78, zk79, zk80, zk81, zk82, zk83, zk84, zk85, zk86, zk87, zk88, zk89, zk90, zr2_0, zr2_1, zr2_2, zr2_3, zr2_4, zr2_6, zr2_7, zr2_10, zr2_11, zr2_12, zr1_0, zr1_1, zr14_0, zr14_1, zr14_2, zr14_3, zr14_4, zr14_6, zr14_7, zr14_10, zr14_11, zr14_12, zr13_0, zr25_0, zr25_1, zr25_2, zr25_3, zr25_4, zr25_6, zr25_7, zr25_10, zr25_11, zr25_12, zr13_1, zr1_2, zr37_0, zr1_3, zr39_0, zr39_1, zr39_2, zr39_5, zr39_7, zr39_8, zr1_4, zr46_1, zr46_2, zr46_3, zr46_4, zr46_0, zr1_5, zr51_2, zr51_10, zr51_0, zr51_1, zr54_1, zr54_2, zr54_3, zr1_6, zr58_1, zr58_2, zr58_3, zr58_0, zr1_7, zr62_2, zr62_3, zr62_0, zr62_1, zr1_8, zr1_9, zr1_10, zr1_15, zr68_2, zr68_3, zr68_4, zr68_5, zr68_7, zr68_8, zr68_9, zr68_12, zr68_13, zr68_14, zr68_22, zr68_23, zr68_24, zr68_26, zr68_35, zr68_36, zr68_37, zr68_38, zr68_39, zr68_40, zr68_41, zr68_42]
      exact qin (by omega)
set_option maxHeartbeats 4000000 in
theorem v_part {K V : Nat → Int} {N : Nat} (hT : zTx K V N) {A : Int → Int} {t : Int} (hA : zAk K V N A t) (hK : ∀ j : Nat, j ≤ N → 0 ≤ K j ∧ K j < 270) {w : Int → Int} (hw : zwok w) {live : Int} (hl : live = 0 ∨ live = 1) {g : Nat → Nat → zRe} (hg : zSub N zDb g) {G : Nat → List mV → mS → Option (Int × mS)} (hG : zEs N A t w live (G 102 [(3, 68), (1, live)]) g) : zEs N A t w live (B_Mo_partOf G 68 live) (zPart K V g) := by
  intro a p br σ hok aN p50 hE hs brb
  unfold zPart at hok ⊢
  by_cases hk : K a = 91
  · rw [if_pos hk] at hok ⊢
    have ne : a ≠ N := by intro e; rw [e, hT.2.1] at hk; omega
    have rk := hg (a + 1) p (by omega) p50
    obtain ⟨k1, kc, eb⟩ := zBr_1 rk hok
    rw [eb]
    rcases rk with ⟨_, k2, k3, k4, k5, k6⟩ | ⟨k0, _⟩
    · have hB := hE.1
      have ky := hK a aN
      have N4 := hT.1
      have t0 := hA.1
      have ps := phi_sign (k := K a) (c := 91) ky (by decide)
      have pa := v_passes (c := w32 191) hT hA hE aN hs
      have s1 : w32 191 = 100 + 91 := by decide
      rw [if_pos (by rw [s1]; exact ps.mpr hk)] at pa
      obtain ⟨tf, te, ta⟩ := v_tok (b := a + 1) hE hs
      have hB1 := te.1
      have g1 := hG (a + 1) p br _ k1 (by omega) p50 te ta brb
      have n10 : ¬ (1 : Int) = 0 := by decide
      have w1 : ∀ u : Int, u = 400 * t + ((g (a + 1) p).2.1 : Int) → w32 (u + 1) = 400 * t + (((g (a + 1) p).2.1 + 1 : Nat) : Int) := fun u hu => by rw [w32_in (by omega) (by omega)]; omega
      generalize hQ : (fun q : Int × mS => zFe σ q.2 ∧ ∃ br', zAe t ((1, (g (a + 1) p).2.1 + 1, (g (a + 1) p).2.2.1, (g (a + 1) p).2.2.2) : zRe).2.1 br' q.2 ∧ zRl live br ((1, (g (a + 1) p).2.1 + 1, (g (a + 1) p).2.2.1, (g (a + 1) p).2.2.2) : zRe).2.2.2 w q.1 br') = Q
      unfold B_Mo_partOf M_Mo_sign
      simp (maxSteps := 5000000) (disch := first | assumption | omega) only [wpo_bind, wpo_some, wpo_gf, wpo_gk, wpo_ld, wpo_pf, wpo_pz, wpo_sd, wpo_sr, wpo_ln, wpo_idv, wpo_irm, wpo_lrm, wpo_ldv, wpo_cpy, mlet, mnar_int, mup_same, mup_cell, mup_slot, ite_true, ite_false, true_and, and_true, eq_self, or_true, true_or, and_self, Int.reduceLT, Int.reduceLE, Int.reduceEq, Int.reduceNe, Int.reduceAdd, Int.reduceSub, Int.reduceMul, Int.reduceNeg, ne_eq, not_false_eq_true, not_true_eq_false, false_or, or_false, zor_inl, zor_inr, Bool.false_eq_true, false_and, and_false, zk1, zk2, zk3, zk4, zk5, zk6, zk7, zk8, zk9, zk10, zk11, zk12, zk13, zk14, zk15, zk16, zk17, zk18, zk19, zk20, zk21, zk22, zk23, zk24, zk25, zk26, zk27, zk28, zk29, zk30, zk31, zk32, zk33, zk34, zk35, zk36, zk37, zk38, zk39, zk40, zk41, zk42, zk43, zk44, zk45, zk46, zk47, zk48, zk49, zk50, zk51, zk52, zk53, zk54, zk55, zk56, zk57, zk58, zk59, zk60, zk61, zk62, zk63, zk64, zk65, zk66, zk67, zk68, zk69, zk70, zk71, zk72, zk73, zk74, zk75, zk76, zk77, zk78, zk79, zk80, zk81, zk82, zk83, zk84, zk85, zk86, zk87, zk88, zk89, zk90, zr2_0, zr2_1, zr2_2, zr2_3, zr2_4, zr2_6, zr2_7, zr2_10, zr2_11, zr2_12, zr1_0, zr1_1, zr14_0, zr14_1, zr14_2, zr14_3, zr14_4, zr14_6, zr14_7, zr14_10, zr14_11, zr14_12, zr13_0, zr25_0, zr25_1, zr25_2, zr25_3, zr25_4, zr25_6, zr25_7, zr25_10, zr25_11, zr25_12, zr13_1, zr1_2, zr37_0, zr1_3, zr39_0, zr39_1, zr39_2, zr39_5, zr39_7, zr39_8, zr1_4, zr46_1, zr46_2, zr46_3, zr46_4, zr46_0, zr1_5, zr51_2, zr51_10, zr51_0, zr51_1, zr54_1, zr54_2, zr54_3, zr1_6, zr58_1, zr58_2, zr58_3, zr58_0, zr1_7, zr62_2, zr62_3, zr62_0, zr62_1, zr1_8, zr1_9, zr1_10, zr1_15, zr68_2, zr68_3, zr68_4, zr68_5, zr68_7, zr68_8, zr68_9, zr68_12, zr68_13, zr68_14, zr68_22, zr68_23, zr68_24, zr68_26, zr68_35, zr68_36, zr68_37, zr68_38, zr68_39, zr68_40, zr68_41, zr68_42, pa, n10]
      refine wpo_mono g1 ?_
      intro q ⟨q1, br', q2, q3⟩
      have hBq := q1.2.1
      have q19 := q2.1
      obtain ⟨uf, ue, ua⟩ := v_tok (b := (g (a + 1) p).2.1 + 1) (te.fe q1) q2
      simp (maxSteps := 5000000) (disch := first | assumption | omega) only [wpo_bind, wpo_some, wpo_gf, wpo_gk, wpo_ld, wpo_pf, wpo_pz, wpo_sd, wpo_sr, wpo_ln, wpo_idv, wpo_irm, wpo_lrm, wpo_ldv, wpo_cpy, mlet, mnar_int, mup_same, mup_cell, mup_slot, ite_true, ite_false, true_and, and_true, eq_self, or_true, true_or, and_self, Int.reduceLT, Int.reduceLE, Int.reduceEq, Int.reduceNe, Int.reduceAdd, Int.reduceSub, Int.reduceMul, Int.reduceNeg, ne_eq, not_false_eq_true, not_true_eq_false, false_or, or_false, zor_inl, zor_inr, Bool.false_eq_true, false_and, and_false, zk1, zk2, zk3, zk4, zk5, zk6, zk7, zk8, zk9, zk10, zk11, zk12, zk13, zk14, zk15, zk16, zk17, zk18, zk19, zk20, zk21, zk22, zk23, zk24, zk25, zk26, zk27, zk28, zk29, zk30, zk31, zk32, zk33, zk34, zk35, zk36, zk37, zk38, zk39, zk40, zk41, zk42, zk43, zk44, zk45, zk46, zk47, zk48, zk49, zk50, zk51, zk52, zk53, zk54, zk55, zk56, zk57, zk58, zk59, zk60, zk61, zk62, zk63, zk64, zk65, zk66, zk67, zk68, zk69, zk70, zk71, zk72, zk73, zk74, zk75, zk76, zk77, zk78, zk79, zk80, zk81, zk82, zk83, zk84, zk85, zk86, zk87, zk88, zk89, zk90, zr2_0, zr2_1, zr2_2, zr2_3, zr2_4, zr2_6, zr2_7, zr2_10, zr2_11, zr2_12, zr1_0, zr1_1, zr14_0, zr14_1, zr14_2, zr14_3, zr14_4, zr14_6, zr14_7, zr14_10, zr14_11, zr14_12, zr13_0, zr25_0, zr25_1, zr25_2, zr25_3, zr25_4, zr25_6, zr25_7, zr25_10, zr25_11, zr25_12, zr13_1, zr1_2, zr37_0, zr1_3, zr39_0, zr39_1, zr39_2, zr39_5, zr39_7, zr39_8, zr1_4, zr46_1, zr46_2, zr46_3, zr46_4, zr46_0, zr1_5, zr51_2, zr51_10, zr51_0, zr51_1, zr54_1, zr54_2, zr54_3, zr1_6, zr58_1, zr58_2, zr58_3, zr58_0, zr1_7, zr62_2, zr62_3, zr62_0, zr62_1, zr1_8, zr1_9, zr1_10, zr1_15, zr68_2, zr68_3, zr68_4, zr68_5, zr68_7, zr68_8, zr68_9, zr68_12, zr68_13, zr68_14, zr68_22, zr68_23, zr68_24, zr68_26, zr68_35, zr68_36, zr68_37, zr68_38, zr68_39, zr68_40, zr68_41, zr68_42, q19, w1]
      rw [← hQ]
      exact ⟨(tf.trans q1).trans uf, br', ua, q3⟩
    · omega
  · rw [if_neg hk] at hok ⊢
    exact v_leaf hT hA hK hw hl hk hok aN hE hs brb
theorem v_sumF {K V : Nat → Int} {N : Nat} (hT : zTx K V N) {A : Int → Int} {t : Int} (hA : zAk K V N A t) (hK : ∀ j : Nat, j ≤ N → 0 ≤ K j ∧ K j < 270) {w : Int → Int} (hw : zwok w) {live : Int} (hl : live = 0 ∨ live = 1) : ∀ (f : Nat),
    (∀ n, 3 * f + 1 ≤ n → zEs N A t w live (R_Mo_sumOf n 104 [(3, 68), (1, live)]) (zPartF K V f)) ∧ (∀ n, 3 * f + 3 ≤ n → zEs N A t w live (R_Mo_sumOf n 102 [(3, 68), (1, live)]) (zSumF K V f)) := by
  have up : ∀ f : Nat, (∀ n, 3 * f + 1 ≤ n → zEs N A t w live (R_Mo_sumOf n 104 [(3, 68), (1, live)]) (zPartF K V f)) → (∀ n, 3 * f + 3 ≤ n → zEs N A t w live (R_Mo_sumOf n 102 [(3, 68), (1, live)]) (zSumF K V f)) := by
    intro f h1
    have ok := zPartF_ok hT f
    have h2 : ∀ n, 3 * f + 2 ≤ n → zEs N A t w live (R_Mo_sumOf n 103 [(3, 68), (1, live)]) (zTermF K V f) := by
      intro n hn
      obtain ⟨n, rfl⟩ : ∃ m, n = m + 1 := ⟨n - 1, by omega⟩
      exact v_Term hT hA hK hl ok.1 (h1 n (by omega))
    intro n hn
    obtain ⟨n, rfl⟩ : ∃ m, n = m + 1 := ⟨n - 1, by omega⟩
    exact v_Sum hT hA hK hl ok.2.1 (h2 n (by omega))
  intro f
  induction f with
  | zero =>
    have h1 : ∀ n, 3 * 0 + 1 ≤ n → zEs N A t w live (R_Mo_sumOf n 104 [(3, 68), (1, live)]) (zPartF K V 0) := by
      intro n hn
      obtain ⟨n, rfl⟩ : ∃ m, n = m + 1 := ⟨n - 1, by omega⟩
      intro a p br σ hok aN p50 hE hs brb
      show wpo (B_Mo_partOf (R_Mo_sumOf n) 68 live σ) (fun q => zFe σ q.2 ∧ ∃ br', zAe t (zPart0 K V a p).2.1 br' q.2 ∧ zRl live br (zPart0 K V a p).2.2.2 w q.1 br')
      have hok : (zPart0 K V a p).1 = 1 := hok
      unfold zPart0 at hok ⊢
      by_cases hk : K a = 91
      · rw [if_pos hk] at hok
        exact absurd hok (by show ¬ (0 : Nat) = 1; decide)
      · rw [if_neg hk] at hok ⊢
        exact v_leaf hT hA hK hw hl hk hok aN hE hs brb
    exact ⟨h1, up 0 h1⟩
  | succ f ih =>
    have h1 : ∀ n, 3 * (f + 1) + 1 ≤ n → zEs N A t w live (R_Mo_sumOf n 104 [(3, 68), (1, live)]) (zPartF K V (f + 1)) := by
      intro n hn
      obtain ⟨n, rfl⟩ : ∃ m, n = m + 1 := ⟨n - 1, by omega⟩
      rw [zPartF_succ]
      exact v_part hT hA hK hw hl (zPartF_ok hT f).2.2 (ih.2 n (by omega))
    exact ⟨h1, up (f + 1) h1⟩
