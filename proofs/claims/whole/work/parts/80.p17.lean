/-! THE REFERENCE tells a law: values -/
/-- the t-th law as it is kept: its N tokens -/
def zAk (K V : Nat → Int) (N : Nat) (A : Int → Int) (t : Int) : Prop := (0 ≤ t ∧ t < 6) ∧ A (188 + t) = (N : Int) ∧ ∀ j : Nat, j < N → A (194 + (400 * t + (j : Int))) = zphi (K j) ∧ (K j = 257 → V j ≤ 1000 → A (2594 + (400 * t + (j : Int))) = V j)
def zEv (A : Int → Int) (N : Nat) (t : Int) (w : Int → Int) (σ : mS) : Prop := zB σ ∧ σ.1 70 = A ∧ σ.1 68 20 = 400 * t + (N : Int) ∧ ∀ k, 0 ≤ k → k < 6 → σ.1 79 k = w k
def zFe (σ σ' : mS) : Prop := σ'.2 = σ.2 ∧ zB σ' ∧ (∀ r, r ≠ 68 → σ'.1 r = σ.1 r) ∧ ∀ i, i ≠ 19 → i ≠ 21 → σ'.1 68 i = σ.1 68 i
theorem zFe.rfl' {σ : mS} (h : zB σ) : zFe σ σ := ⟨rfl, h, fun _ _ => rfl, fun _ _ _ => rfl⟩
theorem zFe.trans {σ σ' σ'' : mS} (h : zFe σ σ') (h' : zFe σ' σ'') : zFe σ σ'' := ⟨h'.1.trans h.1, h'.2.1, fun r a => (h'.2.2.1 r a).trans (h.2.2.1 r a), fun i a b => (h'.2.2.2 i a b).trans (h.2.2.2 i a b)⟩
theorem zEv.fe {A : Int → Int} {N : Nat} {t : Int} {w : Int → Int} {σ σ' : mS} (h : zEv A N t w σ) (f : zFe σ σ') : zEv A N t w σ' := ⟨f.2.1, by rw [f.2.2.1 70 (by decide)]; exact h.2.1, by rw [f.2.2.2 20 (by decide) (by decide)]; exact h.2.2.1, by rw [f.2.2.1 79 (by decide)]; exact h.2.2.2⟩
theorem zFe_68 {σ : mS} {i v : Int} (h : zB σ) (hi : i = 19 ∨ i = 21) : zFe σ (mup σ.1 68 i v, σ.2) := by
  refine ⟨rfl, zB_mup h ?_, fun r a => mup_fun a, fun j a b => ?_⟩
  · rcases hi with e | e <;> subst e <;> decide +kernel
  · show mup σ.1 68 i v 68 j = σ.1 68 j
    exact mup_slot (by omega)
/-- where it stands: at the a-th token; broken or not -/
def zAe (t : Int) (a : Nat) (br : Int) (σ : mS) : Prop := σ.1 68 19 = 400 * t + (a : Int) ∧ σ.1 68 21 = br
def zRl (live br0 : Int) (d : zDn) (w : Int → Int) (v br : Int) : Prop := (br = 0 ∨ br = 1) ∧ (-1000000000 ≤ v ∧ v ≤ 1000000000) ∧ ((live = 1 ∧ br0 = 0) → (∀ x, d w = some x → v = x ∧ br = 0) ∧ (d w = none → br = 1)) ∧ (¬ (live = 1 ∧ br0 = 0) → br = br0 ∧ v = 0)
theorem v_codeAt {K V : Nat → Int} {N a : Nat} {A : Int → Int} {t : Int} {w : Int → Int} {σ : mS} (hT : zTx K V N) (hA : zAk K V N A t) (h : zEv A N t w σ) (ha : a ≤ N) : M_Mo_codeAt 68 (400 * t + (a : Int)) σ = some (zphi (K a), σ) := by
  obtain ⟨hB, h70, h20, _⟩ := h
  have t0 := hA.1
  have N4 := hT.1
  by_cases c : a = N
  · have : wpo (M_Mo_codeAt 68 (400 * t + (a : Int)) σ) (fun q => q = (0, σ)) := by
      have c1 : ¬ 400 * t + (a : Int) < 400 * t + (N : Int) := by omega
      unfold M_Mo_codeAt
      simp (maxSteps := 5000000) (disch := first | assumption | omega) only [wpo_bind, wpo_some, wpo_gf, wpo_gk, wpo_ld, wpo_pf, wpo_pz, wpo_sd, wpo_sr, wpo_ln, wpo_idv, wpo_irm, wpo_lrm, wpo_ldv, wpo_cpy, mlet, mnar_int, mup_same, mup_cell, mup_slot, ite_true, ite_false, true_and, and_true, eq_self, or_true, true_or, and_self, Int.reduceLT, Int.reduceLE, Int.reduceEq, Int.reduceNe, Int.reduceAdd, Int.reduceSub, Int.reduceMul, Int.reduceNeg, ne_eq, not_false_eq_true, not_true_eq_false, false_or, or_false, zor_inl, zor_inr, Bool.false_eq_true, false_and, and_false, zk1, zk2, zk3, zk4, zk5, zk6, zk7, zk8, zk9, zk10, zk11, zk12, zk13, zk14, zk15, zk16, zk17, zk18, zk19, zk20, zk21, zk22, zk23, zk24, zk25, zk26, zk27, zk28, zk29, zk30, zk31, zk32, zk33, zk34, zk35, zk36, zk37, zk38, zk39, zk40, zk41, zk42, zk43, zk44, zk45, zk46, zk47, zk48, zk49, zk50, zk51, zk52, zk53, zk54, zk55, zk56, zk57, zk58, zk59, zk60, zk61, zk62, zk63, zk64, zk65, zk66, zk67, zk68, zk69, zk70, zk71, zk72, zk73, zk74, zk75, zk76, zk77, zk78, zk79, zk80, zk81, zk82, zk83, zk84, zk85, zk86, zk87, zk88, zk89, zk90, zr2_0, zr2_1, zr2_2, zr2_3, zr2_4, zr2_6, zr2_7, zr2_10, zr2_11, zr2_12, zr1_0, zr1_1, zr14_0, zr14_1, zr14_2, zr14_3, zr14_4, zr14_6, zr14_7, zr14_10, zr14_11, zr14_12, zr13_0, zr25_0, zr25_1, zr25_2, zr25_3, zr25_4, zr25_6, zr25_7, zr25_10, zr25_11, zr25_12, zr13_1, zr1_2, zr37_0, zr1_3, zr39_0, zr39_1, zr39_2, zr39_5, zr39_7, zr39_8, zr1_4, zr46_1, zr46_2, zr46_3, zr46_4, zr46_0, zr1_5, zr51_2, zr51_10, zr51_0, zr51_1, zr54_1, zr54_2, zr54_3, zr1_6, zr58_1, zr58_2, zr58_3, zr58_0, zr1_7, zr62_2, zr62_3, zr62_0, zr62_1, zr1_8, zr1_9, zr1_10, zr1_15, zr68_2, zr68_3, zr68_4, zr68_5, zr68_7, zr68_8, zr68_9, zr68_12, zr68_13, zr68_14, zr68_22, zr68_23, zr68_24, zr68_26, zr68_35, zr68_36, zr68_37, zr68_38, zr68_39, zr68_40, zr68_41, zr68_42, h20, c1]
    obtain ⟨y, e, rfl⟩ := this
    rw [e, c, hT.2.1]
    rfl
  · have : wpo (M_Mo_codeAt 68 (400 * t + (a : Int)) σ) (fun q => q = (zphi (K a), σ)) := by
      have c1 : 400 * t + (a : Int) < 400 * t + (N : Int) := by omega
      have w1 : ∀ u : Int, u = 400 * t + (a : Int) → w32 (194 + u) = 194 + (400 * t + (a : Int)) := fun u hu => by rw [w32_in (by omega) (by omega)]; omega
      have c2 : 0 ≤ 194 + (400 * t + (a : Int)) := by omega
      have c3 : 194 + (400 * t + (a : Int)) < 4994 := by omega
      have k := (hA.2.2 a (by omega)).1
      unfold M_Mo_codeAt
      simp (maxSteps := 5000000) (disch := first | assumption | omega) only [wpo_bind, wpo_some, wpo_gf, wpo_gk, wpo_ld, wpo_pf, wpo_pz, wpo_sd, wpo_sr, wpo_ln, wpo_idv, wpo_irm, wpo_lrm, wpo_ldv, wpo_cpy, mlet, mnar_int, mup_same, mup_cell, mup_slot, ite_true, ite_false, true_and, and_true, eq_self, or_true, true_or, and_self, Int.reduceLT, Int.reduceLE, Int.reduceEq, Int.reduceNe, Int.reduceAdd, Int.reduceSub, Int.reduceMul, Int.reduceNeg, ne_eq, not_false_eq_true, not_true_eq_false, false_or, or_false, zor_inl, zor_inr, Bool.false_eq_true, false_and, and_false, zk1, zk2, zk3, zk4, zk5, zk6, zk7, zk8, zk9, zk10, zk11, zk12, zk13, zk14, zk15, zk16, zk17, zk18, zk19, zk20, zk21, zk22, zk23, zk24, zk25, zk26, zk27, zk28, zk29, zk30, zk31, zk32, zk33, zk34, zk35, zk36, zk37, zk38, zk39, zk40, zk41, zk42, zk43, zk44, zk45, zk46, zk47, zk48, zk49, zk50, zk51, zk52, zk53, zk54, zk55, zk56, zk57, zk58, zk59, zk60, zk61, zk62, zk63, zk64, zk65, zk66, zk67, zk68, zk69, zk70, zk71, zk72, zk73, zk74, zk75, zk76, zk77, zk78, zk79, zk80, zk81, zk82, zk83, zk84, zk85, zk86, zk87, zk88, zk89, zk90, zr2_0, zr2_1, zr2_2, zr2_3, zr2_4, zr2_6, zr2_7, zr2_10, zr2_11, zr2_12, zr1_0, zr1_1, zr14_0, zr14_1, zr14_2, zr14_3, zr14_4, zr14_6, zr14_7, zr14_10, zr14_11, zr14_12, zr13_0, zr25_0, zr25_1, zr25_2, zr25_3, zr25_4, zr25_6, zr25_7, zr25_10, zr25_11, zr25_12, zr13_1, zr1_2, zr37_0, zr1_3, zr39_0, zr39_1, zr39_2, zr39_5, zr39_7, zr39_8, zr1_4, zr46_1, zr46_2, zr46_3, zr46_4, zr46_0, zr1_5, zr51_2, zr51_10, zr51_0, zr51_1, zr54_1, zr54_2, zr54_3, zr1_6, zr58_1, zr58_2, zr58_3, zr58_0, zr1_7, zr62_2, zr62_3, zr62_0, zr62_1, zr1_8, zr1_9, zr1_10, zr1_15, zr68_2, zr68_3, zr68_4, zr68_5, zr68_7, zr68_8, zr68_9, zr68_12, zr68_13, zr68_14, zr68_22, zr68_23, zr68_24, zr68_26, zr68_35, zr68_36, zr68_37, zr68_38, zr68_39, zr68_40, zr68_41, zr68_42, h20, c1, w1, h70, c2, c3, k]
    obtain ⟨y, e, rfl⟩ := this
    exact e
theorem v_passes {K V : Nat → Int} {N a : Nat} {A : Int → Int} {t br : Int} {w : Int → Int} {c : Int} {σ : mS} (hT : zTx K V N) (hA : zAk K V N A t) (h : zEv A N t w σ) (ha : a ≤ N) (hs : zAe t a br σ) : M_Mo_passes0 68 c σ = if zphi (K a) = c then some (1, (mup σ.1 68 19 (400 * t + ((a + 1 : Nat) : Int)), σ.2)) else some (0, σ) := by
  have hB := h.1
  have cd := v_codeAt hT hA h ha
  have h19 := hs.1
  have t0 := hA.1
  have N4 := hT.1
  have n10 : ¬ (1 : Int) = 0 := by decide
  have w1 : ∀ u : Int, u = 400 * t + (a : Int) → w32 (u + 1) = 400 * t + ((a + 1 : Nat) : Int) := fun u hu => by rw [w32_in (by omega) (by omega)]; omega
  by_cases cc : zphi (K a) = c
  · rw [if_pos cc]
    have : wpo (M_Mo_passes0 68 c σ) (fun q => q = (1, (mup σ.1 68 19 (400 * t + ((a + 1 : Nat) : Int)), σ.2))) := by
      unfold M_Mo_passes0 M_Mo_passes0_9
      simp (maxSteps := 5000000) (disch := first | assumption | omega) only [wpo_bind, wpo_some, wpo_gf, wpo_gk, wpo_ld, wpo_pf, wpo_pz, wpo_sd, wpo_sr, wpo_ln, wpo_idv, wpo_irm, wpo_lrm, wpo_ldv, wpo_cpy, mlet, mnar_int, mup_same, mup_cell, mup_slot, ite_true, ite_false, true_and, and_true, eq_self, or_true, true_or, and_self, Int.reduceLT, Int.reduceLE, Int.reduceEq, Int.reduceNe, Int.reduceAdd, Int.reduceSub, Int.reduceMul, Int.reduceNeg, ne_eq, not_false_eq_true, not_true_eq_false, false_or, or_false, zor_inl, zor_inr, Bool.false_eq_true, false_and, and_false, zk1, zk2, zk3, zk4, zk5, zk6, zk7, zk8, zk9, zk10, zk11, zk12, zk13, zk14, zk15, zk16, zk17, zk18, zk19, zk20, zk21, zk22, zk23, zk24, zk25, zk26, zk27, zk28, zk29, zk30, zk31, zk32, zk33, zk34, zk35, zk36, zk37, zk38, zk39, zk40, zk41, zk42, zk43, zk44, zk45, zk46, zk47, zk48, zk49, zk50, zk51, zk52, zk53, zk54, zk55, zk56, zk57, zk58, zk59, zk60, zk61, zk62, zk63, zk64, zk65, zk66, zk67, zk68, zk69, zk70, zk71, zk72, zk73, zk74, zk75, zk76, zk77, zk78, zk79, zk80, zk81, zk82, zk83, zk84, zk85, zk86, zk87, zk88, zk89, zk90, zr2_0, zr2_1, zr2_2, zr2_3, zr2_4, zr2_6, zr2_7, zr2_10, zr2_11, zr2_12, zr1_0, zr1_1, zr14_0, zr14_1, zr14_2, zr14_3, zr14_4, zr14_6, zr14_7, zr14_10, zr14_11, zr14_12, zr13_0, zr25_0, zr25_1, zr25_2, zr25_3, zr25_4, zr25_6, zr25_7, zr25_10, zr25_11, zr25_12, zr13_1, zr1_2, zr37_0, zr1_3, zr39_0, zr39_1, zr39_2, zr39_5, zr39_7, zr39_8, zr1_4, zr46_1, zr46_2, zr46_3, zr46_4, zr46_0, zr1_5, zr51_2, zr51_10, zr51_0, zr51_1, zr54_1, zr54_2, zr54_3, zr1_6, zr58_1, zr58_2, zr58_3, zr58_0, zr1_7, zr62_2, zr62_3, zr62_0, zr62_1, zr1_8, zr1_9, zr1_10, zr1_15, zr68_2, zr68_3, zr68_4, zr68_5, zr68_7, zr68_8, zr68_9, zr68_12, zr68_13, zr68_14, zr68_22, zr68_23, zr68_24, zr68_26, zr68_35, zr68_36, zr68_37, zr68_38, zr68_39, zr68_40, zr68_41, zr68_42, h19, cd, cc, n10, w1]
    obtain ⟨y, e, rfl⟩ := this
    exact e
  · rw [if_neg cc]
    have : wpo (M_Mo_passes0 68 c σ) (fun q => q = (0, σ)) := by
      unfold M_Mo_passes0 M_Mo_passes0_9
      simp (maxSteps := 5000000) (disch := first | assumption | omega) only [wpo_bind, wpo_some, wpo_gf, wpo_gk, wpo_ld, wpo_pf, wpo_pz, wpo_sd, wpo_sr, wpo_ln, wpo_idv, wpo_irm, wpo_lrm, wpo_ldv, wpo_cpy, mlet, mnar_int, mup_same, mup_cell, mup_slot, ite_true, ite_false, true_and, and_true, eq_self, or_true, true_or, and_self, Int.reduceLT, Int.reduceLE, Int.reduceEq, Int.reduceNe, Int.reduceAdd, Int.reduceSub, Int.reduceMul, Int.reduceNeg, ne_eq, not_false_eq_true, not_true_eq_false, false_or, or_false, zor_inl, zor_inr, Bool.false_eq_true, false_and, and_false, zk1, zk2, zk3, zk4, zk5, zk6, zk7, zk8, zk9, zk10, zk11, zk12, zk13, zk14, zk15, zk16, zk17, zk18, zk19, zk20, zk21, zk22, zk23, zk24, zk25, zk26, zk27, zk28, zk29, zk30, zk31, zk32, zk33, zk34, zk35, zk36, zk37, zk38, zk39, zk40, zk41, zk42, zk43, zk44, zk45, zk46, zk47, zk48, zk49, zk50, zk51, zk52, zk53, zk54, zk55, zk56, zk57, zk58, zk59, zk60, zk61, zk62, zk63, zk64, zk65, zk66, zk67, zk68, zk69, zk70, zk71, zk72, zk73, zk74, zk75, zk76, zk77, zk78, zk79, zk80, zk81, zk82, zk83, zk84, zk85, zk86, zk87, zk88, zk89, zk90, zr2_0, zr2_1, zr2_2, zr2_3, zr2_4, zr2_6, zr2_7, zr2_10, zr2_11, zr2_12, zr1_0, zr1_1, zr14_0, zr14_1, zr14_2, zr14_3, zr14_4, zr14_6, zr14_7, zr14_10, zr14_11, zr14_12, zr13_0, zr25_0, zr25_1, zr25_2, zr25_3, zr25_4, zr25_6, zr25_7, zr25_10, zr25_11, zr25_12, zr13_1, zr1_2, zr37_0, zr1_3, zr39_0, zr39_1, zr39_2, zr39_5, zr39_7, zr39_8, zr1_4, zr46_1, zr46_2, zr46_3, zr46_4, zr46_0, zr1_5, zr51_2, zr51_10, zr51_0, zr51_1, zr54_1, zr54_2, zr54_3, zr1_6, zr58_1, zr58_2, zr58_3, zr58_0, zr1_7, zr62_2, zr62_3, zr62_0, zr62_1, zr1_8, zr1_9, zr1_10, zr1_15, zr68_2, zr68_3, zr68_4, zr68_5, zr68_7, zr68_8, zr68_9, zr68_12, zr68_13, zr68_14, zr68_22, zr68_23, zr68_24, zr68_26, zr68_35, zr68_36, zr68_37, zr68_38, zr68_39, zr68_40, zr68_41, zr68_42, h19, cd, cc]
    obtain ⟨y, e, rfl⟩ := this
    exact e
theorem v_lcp (a b : Int) : (lcp a b < 0 ↔ a < b) ∧ (0 < lcp a b ↔ b < a) ∧ (lcp a b = 0 ↔ a = b) := by
  unfold lcp
  by_cases c1 : a < b
  · rw [if_pos c1]; omega
  · rw [if_neg c1]
    by_cases c2 : a = b
    · rw [if_pos c2]; omega
    · rw [if_neg c2]; omega
theorem v_13 {σ : mS} {x : Int} (hB : zB σ) : M_Mo_bounded_13 68 x σ = some (if σ.1 68 21 = 0 then x else 0, σ) := by
  have : wpo (M_Mo_bounded_13 68 x σ) (fun q => q = (if σ.1 68 21 = 0 then x else 0, σ)) := by
    unfold M_Mo_bounded_13
    by_cases c : σ.1 68 21 = 0
    · simp (maxSteps := 5000000) (disch := first | assumption | omega) only [wpo_bind, wpo_some, wpo_gf, wpo_gk, wpo_ld, wpo_pf, wpo_pz, wpo_sd, wpo_sr, wpo_ln, wpo_idv, wpo_irm, wpo_lrm, wpo_ldv, wpo_cpy, mlet, mnar_int, mup_same, mup_cell, mup_slot, ite_true, ite_false, true_and, and_true, eq_self, or_true, true_or, and_self, Int.reduceLT, Int.reduceLE, Int.reduceEq, Int.reduceNe, Int.reduceAdd, Int.reduceSub, Int.reduceMul, Int.reduceNeg, ne_eq, not_false_eq_true, not_true_eq_false, false_or, or_false, zor_inl, zor_inr, Bool.false_eq_true, false_and, and_false, zk1, zk2, zk3, zk4, zk5, zk6, zk7, zk8, zk9, zk10, zk11, zk12, zk13, zk14, zk15, zk16, zk17, zk18, zk19, zk20, zk21, zk22, zk23, zk24, zk25, zk26, zk27, zk28, zk29, zk30, zk31, zk32, zk33, zk34, zk35, zk36, zk37, zk38, zk39, zk40, zk41, zk42, zk43, zk44, zk45, zk46, zk47, zk48, zk49, zk50, zk51, zk52, zk53, zk54, zk55, zk56, zk57, zk58, zk59, zk60, zk61, zk62, zk63, zk64, zk65, zk66, zk67, zk68, zk69, zk70, zk71, zk72, zk73, zk74, zk75, zk76, zk77, zk78, zk79, zk80, zk81, zk82, zk83, zk84, zk85, zk86, zk87, zk88, zk89, zk90, zr2_0, zr2_1, zr2_2, zr2_3, zr2_4, zr2_6, zr2_7, zr2_10, zr2_11, zr2_12, zr1_0, zr1_1, zr14_0, zr14_1, zr14_2, zr14_3, zr14_4, zr14_6, zr14_7, zr14_10, zr14_11, zr14_12, zr13_0, zr25_0, zr25_1, zr25_2, zr25_3, zr25_4, zr25_6, zr25_7, zr25_10, zr25_11, zr25_12, zr13_1, zr1_2, zr37_0, zr1_3, zr39_0, zr39_1, zr39_2, zr39_5, zr39_7, zr39_8, zr1_4, zr46_1, zr46_2, zr46_3, zr46_4, zr46_0, zr1_5, zr51_2, zr51_10, zr51_0, zr51_1, zr54_1, zr54_2, zr54_3, zr1_6, zr58_1, zr58_2, zr58_3, zr58_0, zr1_7, zr62_2, zr62_3, zr62_0, zr62_1, zr1_8, zr1_9, zr1_10, zr1_15, zr68_2, zr68_3, zr68_4, zr68_5, zr68_7, zr68_8, zr68_9, zr68_12, zr68_13, zr68_14, zr68_22, zr68_23, zr68_24, zr68_26, zr68_35, zr68_36, zr68_37, zr68_38, zr68_39, zr68_40, zr68_41, zr68_42, c]
    · simp (maxSteps := 5000000) (disch := first | assumption | omega) only [wpo_bind, wpo_some, wpo_gf, wpo_gk, wpo_ld, wpo_pf, wpo_pz, wpo_sd, wpo_sr, wpo_ln, wpo_idv, wpo_irm, wpo_lrm, wpo_ldv, wpo_cpy, mlet, mnar_int, mup_same, mup_cell, mup_slot, ite_true, ite_false, true_and, and_true, eq_self, or_true, true_or, and_self, Int.reduceLT, Int.reduceLE, Int.reduceEq, Int.reduceNe, Int.reduceAdd, Int.reduceSub, Int.reduceMul, Int.reduceNeg, ne_eq, not_false_eq_true, not_true_eq_false, false_or, or_false, zor_inl, zor_inr, Bool.false_eq_true, false_and, and_false, zk1, zk2, zk3, zk4, zk5, zk6, zk7, zk8, zk9, zk10, zk11, zk12, zk13, zk14, zk15, zk16, zk17, zk18, zk19, zk20, zk21, zk22, zk23, zk24, zk25, zk26, zk27, zk28, zk29, zk30, zk31, zk32, zk33, zk34, zk35, zk36, zk37, zk38, zk39, zk40, zk41, zk42, zk43, zk44, zk45, zk46, zk47, zk48, zk49, zk50, zk51, zk52, zk53, zk54, zk55, zk56, zk57, zk58, zk59, zk60, zk61, zk62, zk63, zk64, zk65, zk66, zk67, zk68, zk69, zk70, zk71, zk72, zk73, zk74, zk75, zk76, zk77, zk78, zk79, zk80, zk81, zk82, zk83, zk84, zk85, zk86, zk87, zk88, zk89, zk90, zr2_0, zr2_1, zr2_2, zr2_3, zr2_4, zr2_6, zr2_7, zr2_10, zr2_11, zr2_12, zr1_0, zr1_1, zr14_0, zr14_1, zr14_2, zr14_3, zr14_4, zr14_6, zr14_7, zr14_10, zr14_11, zr14_12, zr13_0, zr25_0, zr25_1, zr25_2, zr25_3, zr25_4, zr25_6, zr25_7, zr25_10, zr25_11, zr25_12, zr13_1, zr1_2, zr37_0, zr1_3, zr39_0, zr39_1, zr39_2, zr39_5, zr39_7, zr39_8, zr1_4, zr46_1, zr46_2, zr46_3, zr46_4, zr46_0, zr1_5, zr51_2, zr51_10, zr51_0, zr51_1, zr54_1, zr54_2, zr54_3, zr1_6, zr58_1, zr58_2, zr58_3, zr58_0, zr1_7, zr62_2, zr62_3, zr62_0, zr62_1, zr1_8, zr1_9, zr1_10, zr1_15, zr68_2, zr68_3, zr68_4, zr68_5, zr68_7, zr68_8, zr68_9, zr68_12, zr68_13, zr68_14, zr68_22, zr68_23, zr68_24, zr68_26, zr68_35, zr68_36, zr68_37, zr68_38, zr68_39, zr68_40, zr68_41, zr68_42, c]
  obtain ⟨y, e, rfl⟩ := this
  exact e
theorem v_10 {σ : mS} {x : Int} (hB : zB σ) : M_Mo_bounded_10 68 x σ = some (0, (mup σ.1 68 21 1, σ.2)) := by
  have hB1 := zB_mup (r := 68) (i := 21) (v := 1) hB (by decide +kernel)
  have e13 := v_13 (x := x) hB1
  have : ((mup σ.1 68 21 1, σ.2) : mS).1 68 21 = 1 := by show mup σ.1 68 21 1 68 21 = 1; exact mup_same
  rw [this, if_neg (by decide)] at e13
  have : wpo (M_Mo_bounded_10 68 x σ) (fun q => q = (0, (mup σ.1 68 21 1, σ.2))) := by
    unfold M_Mo_bounded_10
    simp (maxSteps := 5000000) (disch := first | assumption | omega) only [wpo_bind, wpo_some, wpo_gf, wpo_gk, wpo_ld, wpo_pf, wpo_pz, wpo_sd, wpo_sr, wpo_ln, wpo_idv, wpo_irm, wpo_lrm, wpo_ldv, wpo_cpy, mlet, mnar_int, mup_same, mup_cell, mup_slot, ite_true, ite_false, true_and, and_true, eq_self, or_true, true_or, and_self, Int.reduceLT, Int.reduceLE, Int.reduceEq, Int.reduceNe, Int.reduceAdd, Int.reduceSub, Int.reduceMul, Int.reduceNeg, ne_eq, not_false_eq_true, not_true_eq_false, false_or, or_false, zor_inl, zor_inr, Bool.false_eq_true, false_and, and_false, zk1, zk2, zk3, zk4, zk5, zk6, zk7, zk8, zk9, zk10, zk11, zk12, zk13, zk14, zk15, zk16, zk17, zk18, zk19, zk20, zk21, zk22, zk23, zk24, zk25, zk26, zk27, zk28, zk29, zk30, zk31, zk32, zk33, zk34, zk35, zk36, zk37, zk38, zk39, zk40, zk41, zk42, zk43, zk44, zk45, zk46, zk47, zk48, zk49, zk50, zk51, zk52, zk53, zk54, zk55, zk56, zk57, zk58, zk59, zk60, zk61, zk62, zk63, zk64, zk65, zk66, zk67, zk68, zk69, zk70, zk71, zk72, zk73, zk74, zk75, zk76, zk77, zk78, zk79, zk80, zk81, zk82, zk83, zk84, zk85, zk86, zk87, zk88, zk89, zk90, zr2_0, zr2_1, zr2_2, zr2_3, zr2_4, zr2_6, zr2_7, zr2_10, zr2_11, zr2_12, zr1_0, zr1_1, zr14_0, zr14_1, zr14_2, zr14_3, zr14_4, zr14_6, zr14_7, zr14_10, zr14_11, zr14_12, zr13_0, zr25_0, zr25_1, zr25_2, zr25_3, zr25_4, zr25_6, zr25_7, zr25_10, zr25_11, zr25_12, zr13_1, zr1_2, zr37_0, zr1_3, zr39_0, zr39_1, zr39_2, zr39_5, zr39_7, zr39_8, zr1_4, zr46_1, zr46_2, zr46_3, zr46_4, zr46_0, zr1_5, zr51_2, zr51_10, zr51_0, zr51_1, zr54_1, zr54_2, zr54_3, zr1_6, zr58_1, zr58_2, zr58_3, zr58_0, zr1_7, zr62_2, zr62_3, zr62_0, zr62_1, zr1_8, zr1_9, zr1_10, zr1_15, zr68_2, zr68_3, zr68_4, zr68_5, zr68_7, zr68_8, zr68_9, zr68_12, zr68_13, zr68_14, zr68_22, zr68_23, zr68_24, zr68_26, zr68_35, zr68_36, zr68_37, zr68_38, zr68_39, zr68_40, zr68_41, zr68_42, e13]
  obtain ⟨y, e, rfl⟩ := this
  exact e
/-- a value within its bounds, or broken -/
theorem v_bounded {σ : mS} {x live : Int} (hB : zB σ) : M_Mo_bounded 68 x live σ = if live ≠ 0 ∧ (1000000000 < x ∨ x < -1000000000) then some (0, (mup σ.1 68 21 1, σ.2)) else some (if σ.1 68 21 = 0 then x else 0, σ) := by
  have e13 := v_13 (x := x) hB
  have e10 := v_10 (x := x) hB
  unfold M_Mo_bounded
  by_cases c0 : live = 0
  · rw [if_pos c0, if_neg (fun h => h.1 c0)]; exact e13
  · rw [if_neg c0]
    by_cases c1 : 1000000000 < x
    · rw [if_pos ((v_lcp _ _).2.1.mpr c1), if_pos ⟨c0, Or.inl c1⟩]; exact e10
    · rw [if_neg (fun h => c1 ((v_lcp _ _).2.1.mp h))]
      by_cases c2 : x < -1000000000
      · rw [if_pos ((v_lcp _ _).1.mpr c2), if_pos ⟨c0, Or.inr c2⟩]; exact e10
      · rw [if_neg (fun h => c2 ((v_lcp _ _).1.mp h)), if_neg (fun h => h.2.elim c1 c2)]; exact e13
theorem zbin_none1 {k : Int} {d e : zDn} {w : Int → Int} (h : d w = none) : zbin k d e w = none := by unfold zbin; rw [h]; rfl
theorem zbin_none2 {k : Int} {d e : zDn} {w : Int → Int} (h : e w = none) : zbin k d e w = none := by unfold zbin; rw [h]; cases d w <;> rfl
theorem zbin_some {k x y : Int} {d e : zDn} {w : Int → Int} (h1 : d w = some x) (h2 : e w = some y) : zbin k d e w = zop k x y := by unfold zbin; rw [h1, h2]; rfl
/-- the state behind a bounded value -/
theorem v_bin {live br0 br br2 v y x k t : Int} {d e : zDn} {w : Int → Int} {a : Nat} {σ : mS} (hl : live = 0 ∨ live = 1) (h1 : zRl live br0 d w v br) (h2 : zRl live br e w y br2) (hB : zB σ) (hs : zAe t a br2 σ) (hz : zop k v y = zchk x) (h0 : v = 0 → y = 0 → x = 0) :
    wpo (M_Mo_bounded 68 x live σ) (fun q => zFe σ q.2 ∧ ∃ br', zAe t a br' q.2 ∧ zRl live br0 (zbin k d e) w q.1 br') := by
  rw [v_bounded hB]
  obtain ⟨a1, a2, a3, a4⟩ := h1
  obtain ⟨b1, b2, b3, b4⟩ := h2
  have s21 := hs.2
  by_cases c : live ≠ 0 ∧ (1000000000 < x ∨ x < -1000000000)
  · rw [if_pos c]
    refine wpo_some.mpr ⟨zFe_68 hB (Or.inr rfl), 1, ⟨?_, ?_⟩, Or.inr rfl, by omega, ?_, ?_⟩
    · show mup σ.1 68 21 1 68 19 = _; rw [mup_slot (by decide)]; exact hs.1
    · show mup σ.1 68 21 1 68 21 = _; exact mup_same
    · intro act
      refine ⟨fun z hz' => ?_, fun _ => rfl⟩
      exfalso
      obtain ⟨p1, p2⟩ := a3 act
      cases ed : d w with
      | none => rw [zbin_none1 ed] at hz'; cases hz'
      | some u =>
        obtain ⟨q1, q2⟩ := p1 u ed
        obtain ⟨p3, p4⟩ := b3 ⟨act.1, q2⟩
        cases ee : e w with
        | none => rw [zbin_none2 ee] at hz'; cases hz'
        | some u2 =>
          obtain ⟨q3, q4⟩ := p3 u2 ee
          rw [zbin_some ed ee, ← q1, ← q3, hz] at hz'
          have := zchk_some hz'
          omega
    · intro na
      obtain ⟨p1, p2⟩ := a4 na
      have na2 : ¬ (live = 1 ∧ br = 0) := by intro h; exact na ⟨h.1, by omega⟩
      obtain ⟨p3, p4⟩ := b4 na2
      have := h0 p2 p4
      omega
  · rw [if_neg c, s21]
    refine wpo_some.mpr ⟨zFe.rfl' hB, br2, hs, b1, ?_, ?_, ?_⟩
    · by_cases c2 : br2 = 0
      · show -1000000000 ≤ (if br2 = 0 then x else 0) ∧ (if br2 = 0 then x else 0) ≤ 1000000000
        rw [if_pos c2]
        by_cases act : live = 1 ∧ br0 = 0
        · omega
        · obtain ⟨p1, p2⟩ := a4 act
          have na2 : ¬ (live = 1 ∧ br = 0) := by intro h; exact act ⟨h.1, by omega⟩
          obtain ⟨p3, p4⟩ := b4 na2
          have := h0 p2 p4
          omega
      · show -1000000000 ≤ (if br2 = 0 then x else 0) ∧ (if br2 = 0 then x else 0) ≤ 1000000000
        rw [if_neg c2]; omega
    · intro act
      show (∀ z, zbin k d e w = some z → (if br2 = 0 then x else 0) = z ∧ br2 = 0) ∧ (zbin k d e w = none → br2 = 1)
      obtain ⟨p1, p2⟩ := a3 act
      cases ed : d w with
      | none =>
        have eb := p2 ed
        have na2 : ¬ (live = 1 ∧ br = 0) := by omega
        have := b4 na2
        rw [zbin_none1 ed]
        exact ⟨fun z hz' => (by cases hz'), fun _ => by omega⟩
      | some u =>
        obtain ⟨q1, q2⟩ := p1 u ed
        obtain ⟨p3, p4⟩ := b3 ⟨act.1, q2⟩
        cases ee : e w with
        | none =>
          have := p4 ee
          rw [zbin_none2 ee]
          exact ⟨fun z hz' => (by cases hz'), fun _ => this⟩
        | some u2 =>
          obtain ⟨q3, q4⟩ := p3 u2 ee
          rw [zbin_some ed ee, ← q1, ← q3, hz]
          have ec : zchk x = some x := by unfold zchk; rw [if_pos (by omega)]
          rw [ec, if_pos q4]
          exact ⟨fun z hz' => by cases hz'; exact ⟨rfl, q4⟩, fun h => by cases h⟩
    · intro na
      show br2 = br0 ∧ (if br2 = 0 then x else 0) = 0
      obtain ⟨p1, p2⟩ := a4 na
      have na2 : ¬ (live = 1 ∧ br = 0) := by intro h; exact na ⟨h.1, by omega⟩
      obtain ⟨p3, p4⟩ := b4 na2
      have := h0 p2 p4
      refine ⟨by omega, ?_⟩
      split <;> omega
/-- a division by 0 -/
theorem v_div0 {live br0 br br2 v t : Int} {d e : zDn} {w : Int → Int} {a : Nat} {σ : mS} (hl : live = 0 ∨ live = 1) (h1 : zRl live br0 d w v br) (h2 : zRl live br e w 0 br2) (hB : zB σ) (br3 : Int) (hb3 : br3 = if br2 = 0 ∧ live = 0 then 0 else 1) (hs : zAe t a br3 σ) :
    wpo (M_Mo_bounded 68 v live σ) (fun q => zFe σ q.2 ∧ ∃ br', zAe t a br' q.2 ∧ zRl live br0 (zbin 47 d e) w q.1 br') := by
  rw [v_bounded hB]
  obtain ⟨a1, a2, a3, a4⟩ := h1
  obtain ⟨b1, b2, b3, b4⟩ := h2
  rw [if_neg (by omega), hs.2]
  have bb : br3 = 0 ∨ br3 = 1 := by rw [hb3]; split <;> simp
  refine wpo_some.mpr ⟨zFe.rfl' hB, br3, hs, bb, ?_, ?_, ?_⟩
  · show -1000000000 ≤ (if br3 = 0 then v else 0) ∧ (if br3 = 0 then v else 0) ≤ 1000000000
    split <;> omega
  · intro act
    have e3 : br3 = 1 := by rw [hb3, if_neg (by omega)]
    refine ⟨fun z hz' => ?_, fun _ => e3⟩
    exfalso
    obtain ⟨p1, p2⟩ := a3 act
    cases ed : d w with
    | none => rw [zbin_none1 ed] at hz'; cases hz'
    | some u =>
      obtain ⟨q1, q2⟩ := p1 u ed
      obtain ⟨p3, p4⟩ := b3 ⟨act.1, q2⟩
      cases ee : e w with
      | none => rw [zbin_none2 ee] at hz'; cases hz'
      | some u2 =>
        obtain ⟨q3, q4⟩ := p3 u2 ee
        rw [zbin_some ed ee, ← q3] at hz'
        cases hz'
  · intro na
    show br3 = br0 ∧ (if br3 = 0 then v else 0) = 0
    obtain ⟨p1, p2⟩ := a4 na
    have na2 : ¬ (live = 1 ∧ br = 0) := by intro h; exact na ⟨h.1, by omega⟩
    obtain ⟨p3, p4⟩ := b4 na2
    refine ⟨?_, by split <;> omega⟩
    by_cases c : br2 = 0 ∧ live = 0
    · rw [hb3, if_pos c]; omega
    · rw [hb3, if_neg c]; omega
