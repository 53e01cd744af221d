/-! THE REFERENCE's reader: its tokens and first steps -/
def zphi (k : Int) : Int := if k = 256 ∨ k = 258 then 0 else if k = 257 then 50 else if k < 256 then 100 + k else k - 258
theorem phi_sign {k c : Int} (h : 0 ≤ k ∧ k < 270) (hc : 0 ≤ c ∧ c < 256) : zphi k = 100 + c ↔ k = c := by
  unfold zphi
  split
  · omega
  · split
    · omega
    · split <;> omega
theorem phi_word {k j : Int} (h : 0 ≤ k ∧ k < 270) (hj : 1 ≤ j ∧ j ≤ 11) : zphi k = j ↔ k = j + 258 := by
  unfold zphi
  split
  · omega
  · split
    · omega
    · split <;> omega
theorem phi_num {k : Int} (h : 0 ≤ k ∧ k < 270) : zphi k = 50 ↔ k = 257 := by
  unfold zphi
  split
  · omega
  · split
    · omega
    · split <;> omega
theorem phi_bd {k : Int} (h : 0 ≤ k ∧ k < 270) : (zphi k < 6 ∨ 11 < zphi k) ↔ ¬ (264 ≤ k ∧ k < 270) := by
  unfold zphi
  split
  · omega
  · split
    · omega
    · split <;> omega
def zMt (K V S : Nat → Int) (N : Nat) (σ : mS) : Prop := zB σ ∧ σ.1 68 15 = (N : Int) ∧ ∀ j : Nat, j ≤ N → σ.1 76 j = zphi (K j) ∧ σ.1 78 j = S j ∧ (K j = 257 → (σ.1 77 j ≤ 1000 ↔ V j ≤ 1000))
/-- tokens' kinds, numbers and places -/
def zTy (K S : Nat → Int) (N : Nat) : Prop := (∀ j : Nat, j ≤ N → 0 ≤ K j ∧ K j < 270 ∧ 0 ≤ S j) ∧ ∀ j : Nat, j < N → K j ≠ 256
def zMp (K V S : Nat → Int) (N a p : Nat) (σ : mS) : Prop := zMt K V S N σ ∧ σ.1 68 16 = (a : Int) ∧ σ.1 68 17 = (p : Int) ∧ σ.1 68 18 = -1 ∧ a ≤ N ∧ p ≤ 50
def zFt (σ σ' : mS) : Prop := σ'.2 = σ.2 ∧ zB σ' ∧ (∀ r, r ≠ 68 → σ'.1 r = σ.1 r) ∧ ∀ i, i ≠ 16 → i ≠ 17 → i ≠ 18 → σ'.1 68 i = σ.1 68 i
def zMo (S : Nat → Int) (r : zRe) (σ : mS) (q : Int × mS) : Prop := zFt σ q.2 ∧ ((r.1 = 1 ∧ q.2.1 68 16 = (r.2.1 : Int) ∧ q.2.1 68 17 = (r.2.2.1 : Int) ∧ q.2.1 68 18 = -1) ∨ (r.1 = 0 ∧ q.2.1 68 18 = S r.2.1))
theorem zFt.rfl' {σ : mS} (h : zB σ) : zFt σ σ := ⟨rfl, h, fun _ _ => rfl, fun _ _ _ _ => rfl⟩
theorem zFt.trans {σ σ' σ'' : mS} (h : zFt σ σ') (h' : zFt σ' σ'') : zFt σ σ'' := ⟨h'.1.trans h.1, h'.2.1, fun r a => (h'.2.2.1 r a).trans (h.2.2.1 r a), fun i a b c => (h'.2.2.2 i a b c).trans (h.2.2.2 i a b c)⟩
theorem zMt.ft {K V S : Nat → Int} {N : Nat} {σ σ' : mS} (h : zMt K V S N σ) (f : zFt σ σ') : zMt K V S N σ' := by
  obtain ⟨h1, h2, h3⟩ := h
  refine ⟨f.2.1, by rw [f.2.2.2 15 (by decide) (by decide) (by decide)]; exact h2, fun j hj => ?_⟩
  rw [f.2.2.1 76 (by decide), f.2.2.1 77 (by decide), f.2.2.1 78 (by decide)]
  exact h3 j hj
theorem zFt_68 {σ : mS} {i v : Int} (h : zB σ) (hi : i = 16 ∨ i = 17 ∨ i = 18) : zFt σ (mup σ.1 68 i v, σ.2) := by
  refine ⟨rfl, zB_mup h ?_, fun r a => mup_fun a, fun j a b c => ?_⟩
  · rcases hi with e | e | e <;> subst e <;> decide +kernel
  · show mup σ.1 68 i v 68 j = σ.1 68 j
    exact mup_slot (by omega)
theorem r_fine {σ : mS} (hB : zB σ) : M_Mo_fine 68 σ = some (if σ.1 68 18 = -1 then 1 else 0, σ) := by
  have : wpo (M_Mo_fine 68 σ) (fun q => q = (if σ.1 68 18 = -1 then 1 else 0, σ)) := by
    unfold M_Mo_fine
    by_cases c : σ.1 68 18 = -1
    · simp (maxSteps := 5000000) (disch := first | assumption | omega) only [wpo_bind, wpo_some, wpo_gf, wpo_gk, wpo_ld, wpo_pf, wpo_pz, wpo_sd, wpo_sr, wpo_ln, wpo_idv, wpo_irm, wpo_lrm, wpo_ldv, wpo_cpy, mlet, mnar_int, mup_same, mup_cell, mup_slot, ite_true, ite_false, true_and, and_true, eq_self, or_true, true_or, and_self, Int.reduceLT, Int.reduceLE, Int.reduceEq, Int.reduceNe, Int.reduceAdd, Int.reduceSub, Int.reduceMul, Int.reduceNeg, ne_eq, not_false_eq_true, not_true_eq_false, false_or, or_false, zor_inl, zor_inr, Bool.false_eq_true, false_and, and_false, zk1, zk2, zk3, zk4, zk5, zk6, zk7, zk8, zk9, zk10, zk11, zk12, zk13, zk14, zk15, zk16, zk17, zk18, zk19, zk20, zk21, zk22, zk23, zk24, zk25, zk26, zk27, zk28, zk29, zk30, zk31, zk32, zk33, zk34, zk35, zk36, zk37, zk38, zk39, zk40, zk41, zk42, zk43, zk44, zk45, zk46, zk47, zk48, zk49, zk50, zk51, zk52, zk53, zk54, zk55, zk56, zk57, zk58, zk59, zk60, zk61, zk62, zk63, zk64, zk65, zk66, zk67, zk68, zk69, zk70, zk71, zk72, zk73, zk74, zk75, zk76, zk77, zk78, zk79, zk80, zk81, zk82, zk83, zk84, zk85, zk86, zk87, zk88, zk89, zk90, zr2_0, zr2_1, zr2_2, zr2_3, zr2_4, zr2_6, zr2_7, zr2_10, zr2_11, zr2_12, zr1_0, zr1_1, zr14_0, zr14_1, zr14_2, zr14_3, zr14_4, zr14_6, zr14_7, zr14_10, zr14_11, zr14_12, zr13_0, zr25_0, zr25_1, zr25_2, zr25_3, zr25_4, zr25_6, zr25_7, zr25_10, zr25_11, zr25_12, zr13_1, zr1_2, zr37_0, zr1_3, zr39_0, zr39_1, zr39_2, zr39_5, zr39_7, zr39_8, zr1_4, zr46_1, zr46_2, zr46_3, zr46_4, zr46_0, zr1_5, zr51_2, zr51_10, zr51_0, zr51_1, zr54_1, zr54_2, zr54_3, zr1_6, zr58_1, zr58_2, zr58_3, zr58_0, zr1_7, zr62_2, zr62_3, zr62_0, zr62_1, zr1_8, zr1_9, zr1_10, zr1_15, zr68_2, zr68_3, zr68_4, zr68_5, zr68_7, zr68_8, zr68_9, zr68_12, zr68_13, zr68_14, zr68_22, zr68_23, zr68_24, zr68_26, zr68_35, zr68_36, zr68_37, zr68_38, zr68_39, zr68_40, zr68_41, zr68_42, c]
    · simp (maxSteps := 5000000) (disch := first | assumption | omega) only [wpo_bind, wpo_some, wpo_gf, wpo_gk, wpo_ld, wpo_pf, wpo_pz, wpo_sd, wpo_sr, wpo_ln, wpo_idv, wpo_irm, wpo_lrm, wpo_ldv, wpo_cpy, mlet, mnar_int, mup_same, mup_cell, mup_slot, ite_true, ite_false, true_and, and_true, eq_self, or_true, true_or, and_self, Int.reduceLT, Int.reduceLE, Int.reduceEq, Int.reduceNe, Int.reduceAdd, Int.reduceSub, Int.reduceMul, Int.reduceNeg, ne_eq, not_false_eq_true, not_true_eq_false, false_or, or_false, zor_inl, zor_inr, Bool.false_eq_true, false_and, and_false, zk1, zk2, zk3, zk4, zk5, zk6, zk7, zk8, zk9, zk10, zk11, zk12, zk13, zk14, zk15, zk16, zk17, zk18, zk19, zk20, zk21, zk22, zk23, zk24, zk25, zk26, zk27, zk28, zk29, zk30, zk31, zk32, zk33, zk34, zk35, zk36, zk37, zk38, zk39, zk40, zk41, zk42, zk43, zk44, zk45, zk46, zk47, zk48, zk49, zk50, zk51, zk52, zk53, zk54, zk55, zk56, zk57, zk58, zk59, zk60, zk61, zk62, zk63, zk64, zk65, zk66, zk67, zk68, zk69, zk70, zk71, zk72, zk73, zk74, zk75, zk76, zk77, zk78, zk79, zk80, zk81, zk82, zk83, zk84, zk85, zk86, zk87, zk88, zk89, zk90, zr2_0, zr2_1, zr2_2, zr2_3, zr2_4, zr2_6, zr2_7, zr2_10, zr2_11, zr2_12, zr1_0, zr1_1, zr14_0, zr14_1, zr14_2, zr14_3, zr14_4, zr14_6, zr14_7, zr14_10, zr14_11, zr14_12, zr13_0, zr25_0, zr25_1, zr25_2, zr25_3, zr25_4, zr25_6, zr25_7, zr25_10, zr25_11, zr25_12, zr13_1, zr1_2, zr37_0, zr1_3, zr39_0, zr39_1, zr39_2, zr39_5, zr39_7, zr39_8, zr1_4, zr46_1, zr46_2, zr46_3, zr46_4, zr46_0, zr1_5, zr51_2, zr51_10, zr51_0, zr51_1, zr54_1, zr54_2, zr54_3, zr1_6, zr58_1, zr58_2, zr58_3, zr58_0, zr1_7, zr62_2, zr62_3, zr62_0, zr62_1, zr1_8, zr1_9, zr1_10, zr1_15, zr68_2, zr68_3, zr68_4, zr68_5, zr68_7, zr68_8, zr68_9, zr68_12, zr68_13, zr68_14, zr68_22, zr68_23, zr68_24, zr68_26, zr68_35, zr68_36, zr68_37, zr68_38, zr68_39, zr68_40, zr68_41, zr68_42, c]
  obtain ⟨y, e, rfl⟩ := this
  exact e
theorem r_fine1 {σ : mS} (hB : zB σ) (h : σ.1 68 18 = -1) : M_Mo_fine 68 σ = some (1, σ) := by rw [r_fine hB, if_pos h]
theorem r_fine0 {σ : mS} (hB : zB σ) (h : σ.1 68 18 ≠ -1) : M_Mo_fine 68 σ = some (0, σ) := by rw [r_fine hB, if_neg h]
theorem r_faults {K V S : Nat → Int} {N a p : Nat} {σ : mS} (hN : N ≤ 400) (h : zMp K V S N a p σ) : M_Mo_faults 68 σ = some (0, (mup σ.1 68 18 (S a), σ.2)) := by
  have : wpo (M_Mo_faults 68 σ) (fun q => q = (0, (mup σ.1 68 18 (S a), σ.2))) := by
    obtain ⟨h1, h2, h3, h4, h5, h6⟩ := h
    have hB := h1.1
    have fi := r_fine1 hB h4
    have c0 : 0 ≤ (a : Int) := by omega
    have c1 : (a : Int) < 401 := by omega
    have k := (h1.2.2 a h5).2.1
    have n10 : ¬ (1 : Int) = 0 := by decide
    unfold M_Mo_faults
    simp (maxSteps := 5000000) (disch := first | assumption | omega) only [wpo_bind, wpo_some, wpo_gf, wpo_gk, wpo_ld, wpo_pf, wpo_pz, wpo_sd, wpo_sr, wpo_ln, wpo_idv, wpo_irm, wpo_lrm, wpo_ldv, wpo_cpy, mlet, mnar_int, mup_same, mup_cell, mup_slot, ite_true, ite_false, true_and, and_true, eq_self, or_true, true_or, and_self, Int.reduceLT, Int.reduceLE, Int.reduceEq, Int.reduceNe, Int.reduceAdd, Int.reduceSub, Int.reduceMul, Int.reduceNeg, ne_eq, not_false_eq_true, not_true_eq_false, false_or, or_false, zor_inl, zor_inr, Bool.false_eq_true, false_and, and_false, zk1, zk2, zk3, zk4, zk5, zk6, zk7, zk8, zk9, zk10, zk11, zk12, zk13, zk14, zk15, zk16, zk17, zk18, zk19, zk20, zk21, zk22, zk23, zk24, zk25, zk26, zk27, zk28, zk29, zk30, zk31, zk32, zk33, zk34, zk35, zk36, zk37, zk38, zk39, zk40, zk41, zk42, zk43, zk44, zk45, zk46, zk47, zk48, zk49, zk50, zk51, zk52, zk53, zk54, zk55, zk56, zk57, zk58, zk59, zk60, zk61, zk62, zk63, zk64, zk65, zk66, zk67, zk68, zk69, zk70, zk71, zk72, zk73, zk74, zk75, zk76, zk77, zk78, zk79, zk80, zk81, zk82, zk83, zk84, zk85, zk86, zk87, zk88, zk89, zk90, zr2_0, zr2_1, zr2_2, zr2_3, zr2_4, zr2_6, zr2_7, zr2_10, zr2_11, zr2_12, zr1_0, zr1_1, zr14_0, zr14_1, zr14_2, zr14_3, zr14_4, zr14_6, zr14_7, zr14_10, zr14_11, zr14_12, zr13_0, zr25_0, zr25_1, zr25_2, zr25_3, zr25_4, zr25_6, zr25_7, zr25_10, zr25_11, zr25_12, zr13_1, zr1_2, zr37_0, zr1_3, zr39_0, zr39_1, zr39_2, zr39_5, zr39_7, zr39_8, zr1_4, zr46_1, zr46_2, zr46_3, zr46_4, zr46_0, zr1_5, zr51_2, zr51_10, zr51_0, zr51_1, zr54_1, zr54_2, zr54_3, zr1_6, zr58_1, zr58_2, zr58_3, zr58_0, zr1_7, zr62_2, zr62_3, zr62_0, zr62_1, zr1_8, zr1_9, zr1_10, zr1_15, zr68_2, zr68_3, zr68_4, zr68_5, zr68_7, zr68_8, zr68_9, zr68_12, zr68_13, zr68_14, zr68_22, zr68_23, zr68_24, zr68_26, zr68_35, zr68_36, zr68_37, zr68_38, zr68_39, zr68_40, zr68_41, zr68_42, fi, n10, h2, c0, c1, k]
  obtain ⟨y, e, rfl⟩ := this
  exact e
theorem r_faults0 {σ : mS} (hB : zB σ) (h : σ.1 68 18 ≠ -1) : M_Mo_faults 68 σ = some (0, σ) := by
  have : wpo (M_Mo_faults 68 σ) (fun q => q = (0, σ)) := by
    have fi := r_fine0 hB h
    unfold M_Mo_faults
    simp (maxSteps := 5000000) (disch := first | assumption | omega) only [wpo_bind, wpo_some, wpo_gf, wpo_gk, wpo_ld, wpo_pf, wpo_pz, wpo_sd, wpo_sr, wpo_ln, wpo_idv, wpo_irm, wpo_lrm, wpo_ldv, wpo_cpy, mlet, mnar_int, mup_same, mup_cell, mup_slot, ite_true, ite_false, true_and, and_true, eq_self, or_true, true_or, and_self, Int.reduceLT, Int.reduceLE, Int.reduceEq, Int.reduceNe, Int.reduceAdd, Int.reduceSub, Int.reduceMul, Int.reduceNeg, ne_eq, not_false_eq_true, not_true_eq_false, false_or, or_false, zor_inl, zor_inr, Bool.false_eq_true, false_and, and_false, zk1, zk2, zk3, zk4, zk5, zk6, zk7, zk8, zk9, zk10, zk11, zk12, zk13, zk14, zk15, zk16, zk17, zk18, zk19, zk20, zk21, zk22, zk23, zk24, zk25, zk26, zk27, zk28, zk29, zk30, zk31, zk32, zk33, zk34, zk35, zk36, zk37, zk38, zk39, zk40, zk41, zk42, zk43, zk44, zk45, zk46, zk47, zk48, zk49, zk50, zk51, zk52, zk53, zk54, zk55, zk56, zk57, zk58, zk59, zk60, zk61, zk62, zk63, zk64, zk65, zk66, zk67, zk68, zk69, zk70, zk71, zk72, zk73, zk74, zk75, zk76, zk77, zk78, zk79, zk80, zk81, zk82, zk83, zk84, zk85, zk86, zk87, zk88, zk89, zk90, zr2_0, zr2_1, zr2_2, zr2_3, zr2_4, zr2_6, zr2_7, zr2_10, zr2_11, zr2_12, zr1_0, zr1_1, zr14_0, zr14_1, zr14_2, zr14_3, zr14_4, zr14_6, zr14_7, zr14_10, zr14_11, zr14_12, zr13_0, zr25_0, zr25_1, zr25_2, zr25_3, zr25_4, zr25_6, zr25_7, zr25_10, zr25_11, zr25_12, zr13_1, zr1_2, zr37_0, zr1_3, zr39_0, zr39_1, zr39_2, zr39_5, zr39_7, zr39_8, zr1_4, zr46_1, zr46_2, zr46_3, zr46_4, zr46_0, zr1_5, zr51_2, zr51_10, zr51_0, zr51_1, zr54_1, zr54_2, zr54_3, zr1_6, zr58_1, zr58_2, zr58_3, zr58_0, zr1_7, zr62_2, zr62_3, zr62_0, zr62_1, zr1_8, zr1_9, zr1_10, zr1_15, zr68_2, zr68_3, zr68_4, zr68_5, zr68_7, zr68_8, zr68_9, zr68_12, zr68_13, zr68_14, zr68_22, zr68_23, zr68_24, zr68_26, zr68_35, zr68_36, zr68_37, zr68_38, zr68_39, zr68_40, zr68_41, zr68_42, fi]
  obtain ⟨y, e, rfl⟩ := this
  exact e
theorem r_takes {K V S : Nat → Int} {N a p : Nat} {c : Int} {σ : mS} (hN : N ≤ 400) (h : zMp K V S N a p σ) : M_Mo_takes0 68 c σ = if zphi (K a) = c then some (1, (mup σ.1 68 16 ((a + 1 : Nat) : Int), σ.2)) else some (0, σ) := by
  obtain ⟨h1, h2, h3, h4, h5, h6⟩ := h
  have hB := h1.1
  have fi := r_fine1 hB h4
  have c0 : 0 ≤ (a : Int) := by omega
  have c1 : (a : Int) < 401 := by omega
  have k := (h1.2.2 a h5).1
  have n10 : ¬ (1 : Int) = 0 := by decide
  have w : ∀ u : Int, u = (a : Int) → w32 (u + 1) = ((a + 1 : Nat) : Int) := fun u hu => by rw [w32_in (by omega) (by omega)]; omega
  by_cases cc : zphi (K a) = c
  · rw [if_pos cc]
    have : wpo (M_Mo_takes0 68 c σ) (fun q => q = (1, (mup σ.1 68 16 ((a + 1 : Nat) : Int), σ.2))) := by
      unfold M_Mo_takes0 M_Mo_takes0_12 M_Mo_takes0_13
      simp (maxSteps := 5000000) (disch := first | assumption | omega) only [wpo_bind, wpo_some, wpo_gf, wpo_gk, wpo_ld, wpo_pf, wpo_pz, wpo_sd, wpo_sr, wpo_ln, wpo_idv, wpo_irm, wpo_lrm, wpo_ldv, wpo_cpy, mlet, mnar_int, mup_same, mup_cell, mup_slot, ite_true, ite_false, true_and, and_true, eq_self, or_true, true_or, and_self, Int.reduceLT, Int.reduceLE, Int.reduceEq, Int.reduceNe, Int.reduceAdd, Int.reduceSub, Int.reduceMul, Int.reduceNeg, ne_eq, not_false_eq_true, not_true_eq_false, false_or, or_false, zor_inl, zor_inr, Bool.false_eq_true, false_and, and_false, zk1, zk2, zk3, zk4, zk5, zk6, zk7, zk8, zk9, zk10, zk11, zk12, zk13, zk14, zk15, zk16, zk17, zk18, zk19, zk20, zk21, zk22, zk23, zk24, zk25, zk26, zk27, zk28, zk29, zk30, zk31, zk32, zk33, zk34, zk35, zk36, zk37, zk38, zk39, zk40, zk41, zk42, zk43, zk44, zk45, zk46, zk47, zk48, zk49, zk50, zk51, zk52, zk53, zk54, zk55, zk56, zk57, zk58, zk59, zk60, zk61, zk62, zk63, zk64, zk65, zk66, zk67, zk68, zk69, zk70, zk71, zk72, zk73, zk74, zk75, zk76, zk77, zk78, zk79, zk80, zk81, zk82, zk83, zk84, zk85, zk86, zk87, zk88, zk89, zk90, zr2_0, zr2_1, zr2_2, zr2_3, zr2_4, zr2_6, zr2_7, zr2_10, zr2_11, zr2_12, zr1_0, zr1_1, zr14_0, zr14_1, zr14_2, zr14_3, zr14_4, zr14_6, zr14_7, zr14_10, zr14_11, zr14_12, zr13_0, zr25_0, zr25_1, zr25_2, zr25_3, zr25_4, zr25_6, zr25_7, zr25_10, zr25_11, zr25_12, zr13_1, zr1_2, zr37_0, zr1_3, zr39_0, zr39_1, zr39_2, zr39_5, zr39_7, zr39_8, zr1_4, zr46_1, zr46_2, zr46_3, zr46_4, zr46_0, zr1_5, zr51_2, zr51_10, zr51_0, zr51_1, zr54_1, zr54_2, zr54_3, zr1_6, zr58_1, zr58_2, zr58_3, zr58_0, zr1_7, zr62_2, zr62_3, zr62_0, zr62_1, zr1_8, zr1_9, zr1_10, zr1_15, zr68_2, zr68_3, zr68_4, zr68_5, zr68_7, zr68_8, zr68_9, zr68_12, zr68_13, zr68_14, zr68_22, zr68_23, zr68_24, zr68_26, zr68_35, zr68_36, zr68_37, zr68_38, zr68_39, zr68_40, zr68_41, zr68_42, fi, n10, h2, c0, c1, k, cc, w]
    obtain ⟨y, e, rfl⟩ := this
    exact e
  · rw [if_neg cc]
    have : wpo (M_Mo_takes0 68 c σ) (fun q => q = (0, σ)) := by
      unfold M_Mo_takes0 M_Mo_takes0_12 M_Mo_takes0_13
      simp (maxSteps := 5000000) (disch := first | assumption | omega) only [wpo_bind, wpo_some, wpo_gf, wpo_gk, wpo_ld, wpo_pf, wpo_pz, wpo_sd, wpo_sr, wpo_ln, wpo_idv, wpo_irm, wpo_lrm, wpo_ldv, wpo_cpy, mlet, mnar_int, mup_same, mup_cell, mup_slot, ite_true, ite_false, true_and, and_true, eq_self, or_true, true_or, and_self, Int.reduceLT, Int.reduceLE, Int.reduceEq, Int.reduceNe, Int.reduceAdd, Int.reduceSub, Int.reduceMul, Int.reduceNeg, ne_eq, not_false_eq_true, not_true_eq_false, false_or, or_false, zor_inl, zor_inr, Bool.false_eq_true, false_and, and_false, zk1, zk2, zk3, zk4, zk5, zk6, zk7, zk8, zk9, zk10, zk11, zk12, zk13, zk14, zk15, zk16, zk17, zk18, zk19, zk20, zk21, zk22, zk23, zk24, zk25, zk26, zk27, zk28, zk29, zk30, zk31, zk32, zk33, zk34, zk35, zk36, zk37, zk38, zk39, zk40, zk41, zk42, zk43, zk44, zk45, zk46, zk47, zk48, zk49, zk50, zk51, zk52, zk53, zk54, zk55, zk56, zk57, zk58, zk59, zk60, zk61, zk62, zk63, zk64, zk65, zk66, zk67, zk68, zk69, zk70, zk71, zk72, zk73, zk74, zk75, zk76, zk77, zk78, zk79, zk80, zk81, zk82, zk83, zk84, zk85, zk86, zk87, zk88, zk89, zk90, zr2_0, zr2_1, zr2_2, zr2_3, zr2_4, zr2_6, zr2_7, zr2_10, zr2_11, zr2_12, zr1_0, zr1_1, zr14_0, zr14_1, zr14_2, zr14_3, zr14_4, zr14_6, zr14_7, zr14_10, zr14_11, zr14_12, zr13_0, zr25_0, zr25_1, zr25_2, zr25_3, zr25_4, zr25_6, zr25_7, zr25_10, zr25_11, zr25_12, zr13_1, zr1_2, zr37_0, zr1_3, zr39_0, zr39_1, zr39_2, zr39_5, zr39_7, zr39_8, zr1_4, zr46_1, zr46_2, zr46_3, zr46_4, zr46_0, zr1_5, zr51_2, zr51_10, zr51_0, zr51_1, zr54_1, zr54_2, zr54_3, zr1_6, zr58_1, zr58_2, zr58_3, zr58_0, zr1_7, zr62_2, zr62_3, zr62_0, zr62_1, zr1_8, zr1_9, zr1_10, zr1_15, zr68_2, zr68_3, zr68_4, zr68_5, zr68_7, zr68_8, zr68_9, zr68_12, zr68_13, zr68_14, zr68_22, zr68_23, zr68_24, zr68_26, zr68_35, zr68_36, zr68_37, zr68_38, zr68_39, zr68_40, zr68_41, zr68_42, fi, n10, h2, c0, c1, k, cc]
    obtain ⟨y, e, rfl⟩ := this
    exact e
theorem r_takesS {K V S : Nat → Int} {N a p : Nat} {c : Int} {σ : mS} (hN : N ≤ 400) (hY : zTy K S N) (h : zMp K V S N a p σ) (hc : 0 ≤ c ∧ c < 256) : M_Mo_takes0 68 (100 + c) σ = if K a = c then some (1, (mup σ.1 68 16 ((a + 1 : Nat) : Int), σ.2)) else some (0, σ) := by
  have ky := hY.1 a h.2.2.2.2.1
  rw [r_takes hN h]
  by_cases e : K a = c
  · rw [if_pos e, if_pos ((phi_sign ⟨ky.1, ky.2.1⟩ hc).mpr e)]
  · rw [if_neg e, if_neg (fun x => e ((phi_sign ⟨ky.1, ky.2.1⟩ hc).mp x))]
theorem r_takesW {K V S : Nat → Int} {N a p : Nat} {c d : Int} {σ : mS} (hN : N ≤ 400) (hY : zTy K S N) (h : zMp K V S N a p σ) (hc : 1 ≤ c ∧ c ≤ 11) (hd : d = c + 258) : M_Mo_takes0 68 c σ = if K a = d then some (1, (mup σ.1 68 16 ((a + 1 : Nat) : Int), σ.2)) else some (0, σ) := by
  have ky := hY.1 a h.2.2.2.2.1
  rw [r_takes hN h]
  by_cases e : K a = d
  · rw [if_pos e, if_pos ((phi_word ⟨ky.1, ky.2.1⟩ hc).mpr (by omega))]
  · rw [if_neg e, if_neg (fun x => e (by have := (phi_word ⟨ky.1, ky.2.1⟩ hc).mp x; omega))]
theorem r_takes0 {σ : mS} {c : Int} (hB : zB σ) (h : σ.1 68 18 ≠ -1) : M_Mo_takes0 68 c σ = some (0, σ) := by
  have : wpo (M_Mo_takes0 68 c σ) (fun q => q = (0, σ)) := by
    have fi := r_fine0 hB h
    unfold M_Mo_takes0 M_Mo_takes0_12 M_Mo_takes0_13
    simp (maxSteps := 5000000) (disch := first | assumption | omega) only [wpo_bind, wpo_some, wpo_gf, wpo_gk, wpo_ld, wpo_pf, wpo_pz, wpo_sd, wpo_sr, wpo_ln, wpo_idv, wpo_irm, wpo_lrm, wpo_ldv, wpo_cpy, mlet, mnar_int, mup_same, mup_cell, mup_slot, ite_true, ite_false, true_and, and_true, eq_self, or_true, true_or, and_self, Int.reduceLT, Int.reduceLE, Int.reduceEq, Int.reduceNe, Int.reduceAdd, Int.reduceSub, Int.reduceMul, Int.reduceNeg, ne_eq, not_false_eq_true, not_true_eq_false, false_or, or_false, zor_inl, zor_inr, Bool.false_eq_true, false_and, and_false, zk1, zk2, zk3, zk4, zk5, zk6, zk7, zk8, zk9, zk10, zk11, zk12, zk13, zk14, zk15, zk16, zk17, zk18, zk19, zk20, zk21, zk22, zk23, zk24, zk25, zk26, zk27, zk28, zk29, zk30, zk31, zk32, zk33, zk34, zk35, zk36, zk37, zk38, zk39, zk40, zk41, zk42, zk43, zk44, zk45, zk46, zk47, zk48, zk49, zk50, zk51, zk52, zk53, zk54, zk55, zk56, zk57, zk58, zk59, zk60, zk61, zk62, zk63, zk64, zk65, zk66, zk67, zk68, zk69, zk70, zk71, zk72, zk73, zk74, zk75, zk76, zk77, zk78, zk79, zk80, zk81, zk82, zk83, zk84, zk85, zk86, zk87, zk88, zk89, zk90, zr2_0, zr2_1, zr2_2, zr2_3, zr2_4, zr2_6, zr2_7, zr2_10, zr2_11, zr2_12, zr1_0, zr1_1, zr14_0, zr14_1, zr14_2, zr14_3, zr14_4, zr14_6, zr14_7, zr14_10, zr14_11, zr14_12, zr13_0, zr25_0, zr25_1, zr25_2, zr25_3, zr25_4, zr25_6, zr25_7, zr25_10, zr25_11, zr25_12, zr13_1, zr1_2, zr37_0, zr1_3, zr39_0, zr39_1, zr39_2, zr39_5, zr39_7, zr39_8, zr1_4, zr46_1, zr46_2, zr46_3, zr46_4, zr46_0, zr1_5, zr51_2, zr51_10, zr51_0, zr51_1, zr54_1, zr54_2, zr54_3, zr1_6, zr58_1, zr58_2, zr58_3, zr58_0, zr1_7, zr62_2, zr62_3, zr62_0, zr62_1, zr1_8, zr1_9, zr1_10, zr1_15, zr68_2, zr68_3, zr68_4, zr68_5, zr68_7, zr68_8, zr68_9, zr68_12, zr68_13, zr68_14, zr68_22, zr68_23, zr68_24, zr68_26, zr68_35, zr68_36, zr68_37, zr68_38, zr68_39, zr68_40, zr68_41, zr68_42, fi]
  obtain ⟨y, e, rfl⟩ := this
  exact e
theorem r_must {K V S : Nat → Int} {N a p : Nat} {c : Int} {σ : mS} (hN : N ≤ 400) (h : zMp K V S N a p σ) : M_Mo_must 68 c σ = if zphi (K a) = c then some (0, (mup σ.1 68 16 ((a + 1 : Nat) : Int), σ.2)) else some (0, (mup σ.1 68 18 (S a), σ.2)) := by
  have hB := h.1.1
  have tt := r_takes (c := c) hN h
  have ff := r_faults hN h
  have n10 : ¬ (1 : Int) = 0 := by decide
  by_cases cc : zphi (K a) = c
  · rw [if_pos cc] at tt ⊢
    have hB1 := (zFt_68 (i := 16) (v := ((a + 1 : Nat) : Int)) hB (by decide)).2.1
    have : wpo (M_Mo_must 68 c σ) (fun q => q = (0, (mup σ.1 68 16 ((a + 1 : Nat) : Int), σ.2))) := by
      unfold M_Mo_must
      simp (maxSteps := 5000000) (disch := first | assumption | omega) only [wpo_bind, wpo_some, wpo_gf, wpo_gk, wpo_ld, wpo_pf, wpo_pz, wpo_sd, wpo_sr, wpo_ln, wpo_idv, wpo_irm, wpo_lrm, wpo_ldv, wpo_cpy, mlet, mnar_int, mup_same, mup_cell, mup_slot, ite_true, ite_false, true_and, and_true, eq_self, or_true, true_or, and_self, Int.reduceLT, Int.reduceLE, Int.reduceEq, Int.reduceNe, Int.reduceAdd, Int.reduceSub, Int.reduceMul, Int.reduceNeg, ne_eq, not_false_eq_true, not_true_eq_false, false_or, or_false, zor_inl, zor_inr, Bool.false_eq_true, false_and, and_false, zk1, zk2, zk3, zk4, zk5, zk6, zk7, zk8, zk9, zk10, zk11, zk12, zk13, zk14, zk15, zk16, zk17, zk18, zk19, zk20, zk21, zk22, zk23, zk24, zk25, zk26, zk27, zk28, zk29, zk30, zk31, zk32, zk33, zk34, zk35, zk36, zk37, zk38, zk39, zk40, zk41, zk42, zk43, zk44, zk45, zk46, zk47, zk48, zk49, zk50, zk51, zk52, zk53, zk54, zk55, zk56, zk57, zk58, zk59, zk60, zk61, zk62, zk63, zk64, zk65, zk66, zk67, zk68, zk69, zk70, zk71, zk72, zk73, zk74, zk75, zk76, zk77, zk78, zk79, zk80, zk81, zk82, zk83, zk84, zk85, zk86, zk87, zk88, zk89, zk90, zr2_0, zr2_1, zr2_2, zr2_3, zr2_4, zr2_6, zr2_7, zr2_10, zr2_11, zr2_12, zr1_0, zr1_1, zr14_0, zr14_1, zr14_2, zr14_3, zr14_4, zr14_6, zr14_7, zr14_10, zr14_11, zr14_12, zr13_0, zr25_0, zr25_1, zr25_2, zr25_3, zr25_4, zr25_6, zr25_7, zr25_10, zr25_11, zr25_12, zr13_1, zr1_2, zr37_0, zr1_3, zr39_0, zr39_1, zr39_2, zr39_5, zr39_7, zr39_8, zr1_4, zr46_1, zr46_2, zr46_3, zr46_4, zr46_0, zr1_5, zr51_2, zr51_10, zr51_0, zr51_1, zr54_1, zr54_2, zr54_3, zr1_6, zr58_1, zr58_2, zr58_3, zr58_0, zr1_7, zr62_2, zr62_3, zr62_0, zr62_1, zr1_8, zr1_9, zr1_10, zr1_15, zr68_2, zr68_3, zr68_4, zr68_5, zr68_7, zr68_8, zr68_9, zr68_12, zr68_13, zr68_14, zr68_22, zr68_23, zr68_24, zr68_26, zr68_35, zr68_36, zr68_37, zr68_38, zr68_39, zr68_40, zr68_41, zr68_42, tt, n10]
    obtain ⟨y, e, rfl⟩ := this
    exact e
  · rw [if_neg cc] at tt ⊢
    have : wpo (M_Mo_must 68 c σ) (fun q => q = (0, (mup σ.1 68 18 (S a), σ.2))) := by
      unfold M_Mo_must
      simp (maxSteps := 5000000) (disch := first | assumption | omega) only [wpo_bind, wpo_some, wpo_gf, wpo_gk, wpo_ld, wpo_pf, wpo_pz, wpo_sd, wpo_sr, wpo_ln, wpo_idv, wpo_irm, wpo_lrm, wpo_ldv, wpo_cpy, mlet, mnar_int, mup_same, mup_cell, mup_slot, ite_true, ite_false, true_and, and_true, eq_self, or_true, true_or, and_self, Int.reduceLT, Int.reduceLE, Int.reduceEq, Int.reduceNe, Int.reduceAdd, Int.reduceSub, Int.reduceMul, Int.reduceNeg, ne_eq, not_false_eq_true, not_true_eq_false, false_or, or_false, zor_inl, zor_inr, Bool.false_eq_true, false_and, and_false, zk1, zk2, zk3, zk4, zk5, zk6, zk7, zk8, zk9, zk10, zk11, zk12, zk13, zk14, zk15, zk16, zk17, zk18, zk19, zk20, zk21, zk22, zk23, zk24, zk25, zk26, zk27, zk28, zk29, zk30, zk31, zk32, zk33, zk34, zk35, zk36, zk37, zk38, zk39, zk40, zk41, zk42, zk43, zk44, zk45, zk46, zk47, zk48, zk49, zk50, zk51, zk52, zk53, zk54, zk55, zk56, zk57, zk58, zk59, zk60, zk61, zk62, zk63, zk64, zk65, zk66, zk67, zk68, zk69, zk70, zk71, zk72, zk73, zk74, zk75, zk76, zk77, zk78, zk79, zk80, zk81, zk82, zk83, zk84, zk85, zk86, zk87, zk88, zk89, zk90, zr2_0, zr2_1, zr2_2, zr2_3, zr2_4, zr2_6, zr2_7, zr2_10, zr2_11, zr2_12, zr1_0, zr1_1, zr14_0, zr14_1, zr14_2, zr14_3, zr14_4, zr14_6, zr14_7, zr14_10, zr14_11, zr14_12, zr13_0, zr25_0, zr25_1, zr25_2, zr25_3, zr25_4, zr25_6, zr25_7, zr25_10, zr25_11, zr25_12, zr13_1, zr1_2, zr37_0, zr1_3, zr39_0, zr39_1, zr39_2, zr39_5, zr39_7, zr39_8, zr1_4, zr46_1, zr46_2, zr46_3, zr46_4, zr46_0, zr1_5, zr51_2, zr51_10, zr51_0, zr51_1, zr54_1, zr54_2, zr54_3, zr1_6, zr58_1, zr58_2, zr58_3, zr58_0, zr1_7, zr62_2, zr62_3, zr62_0, zr62_1, zr1_8, zr1_9, zr1_10, zr1_15, zr68_2, zr68_3, zr68_4, zr68_5, zr68_7, zr68_8, zr68_9, zr68_12, zr68_13, zr68_14, zr68_22, zr68_23, zr68_24, zr68_26, zr68_35, zr68_36, zr68_37, zr68_38, zr68_39, zr68_40, zr68_41, zr68_42, tt, ff]
    obtain ⟨y, e, rfl⟩ := this
    exact e
theorem r_mustS {K V S : Nat → Int} {N a p : Nat} {c : Int} {σ : mS} (hN : N ≤ 400) (hY : zTy K S N) (h : zMp K V S N a p σ) (hc : 0 ≤ c ∧ c < 256) : M_Mo_must 68 (100 + c) σ = if K a = c then some (0, (mup σ.1 68 16 ((a + 1 : Nat) : Int), σ.2)) else some (0, (mup σ.1 68 18 (S a), σ.2)) := by
  have ky := hY.1 a h.2.2.2.2.1
  rw [r_must hN h]
  by_cases e : K a = c
  · rw [if_pos e, if_pos ((phi_sign ⟨ky.1, ky.2.1⟩ hc).mpr e)]
  · rw [if_neg e, if_neg (fun x => e ((phi_sign ⟨ky.1, ky.2.1⟩ hc).mp x))]
theorem r_must0 {σ : mS} {c : Int} (hB : zB σ) (h : σ.1 68 18 ≠ -1) : M_Mo_must 68 c σ = some (0, σ) := by
  have : wpo (M_Mo_must 68 c σ) (fun q => q = (0, σ)) := by
    have tt := r_takes0 (c := c) hB h
    have ff := r_faults0 hB h
    unfold M_Mo_must
    simp (maxSteps := 5000000) (disch := first | assumption | omega) only [wpo_bind, wpo_some, wpo_gf, wpo_gk, wpo_ld, wpo_pf, wpo_pz, wpo_sd, wpo_sr, wpo_ln, wpo_idv, wpo_irm, wpo_lrm, wpo_ldv, wpo_cpy, mlet, mnar_int, mup_same, mup_cell, mup_slot, ite_true, ite_false, true_and, and_true, eq_self, or_true, true_or, and_self, Int.reduceLT, Int.reduceLE, Int.reduceEq, Int.reduceNe, Int.reduceAdd, Int.reduceSub, Int.reduceMul, Int.reduceNeg, ne_eq, not_false_eq_true, not_true_eq_false, false_or, or_false, zor_inl, zor_inr, Bool.false_eq_true, false_and, and_false, zk1, zk2, zk3, zk4, zk5, zk6, zk7, zk8, zk9, zk10, zk11, zk12, zk13, zk14, zk15, zk16, zk17, zk18, zk19, zk20, zk21, zk22, zk23, zk24, zk25, zk26, zk27, zk28, zk29, zk30, zk31, zk32, zk33, zk34, zk35, zk36, zk37, zk38, zk39, zk40, zk41, zk42, zk43, zk44, zk45, zk46, zk47, zk48, zk49, zk50, zk51, zk52, zk53, zk54, zk55, zk56, zk57, zk58, zk59, zk60, zk61, zk62, zk63, zk64, zk65, zk66, zk67, zk68, zk69, zk70, zk71, zk72, zk73, zk74, zk75, zk76, zk77, zk78, zk79, zk80, zk81, zk82, zk83, zk84, zk85, zk86, zk87, zk88, zk89, zk90, zr2_0, zr2_1, zr2_2, zr2_3, zr2_4, zr2_6, zr2_7, zr2_10, zr2_11, zr2_12, zr1_0, zr1_1, zr14_0, zr14_1, zr14_2, zr14_3, zr14_4, zr14_6, zr14_7, zr14_10, zr14_11, zr14_12, zr13_0, zr25_0, zr25_1, zr25_2, zr25_3, zr25_4, zr25_6, zr25_7, zr25_10, zr25_11, zr25_12, zr13_1, zr1_2, zr37_0, zr1_3, zr39_0, zr39_1, zr39_2, zr39_5, zr39_7, zr39_8, zr1_4, zr46_1, zr46_2, zr46_3, zr46_4, zr46_0, zr1_5, zr51_2, zr51_10, zr51_0, zr51_1, zr54_1, zr54_2, zr54_3, zr1_6, zr58_1, zr58_2, zr58_3, zr58_0, zr1_7, zr62_2, zr62_3, zr62_0, zr62_1, zr1_8, zr1_9, zr1_10, zr1_15, zr68_2, zr68_3, zr68_4, zr68_5, zr68_7, zr68_8, zr68_9, zr68_12, zr68_13, zr68_14, zr68_22, zr68_23, zr68_24, zr68_26, zr68_35, zr68_36, zr68_37, zr68_38, zr68_39, zr68_40, zr68_41, zr68_42, tt, ff]
  obtain ⟨y, e, rfl⟩ := this
  exact e
/-- a token is passed -/
theorem zMp_tok {K V S : Nat → Int} {N a p : Nat} {σ : mS} (h : zMp K V S N a p σ) (ha : a < N) : zFt σ (mup σ.1 68 16 ((a + 1 : Nat) : Int), σ.2) ∧ zMp K V S N (a + 1) p (mup σ.1 68 16 ((a + 1 : Nat) : Int), σ.2) := by
  obtain ⟨h1, h2, h3, h4, h5, h6⟩ := h
  have f := zFt_68 (i := 16) (v := ((a + 1 : Nat) : Int)) h1.1 (by decide)
  refine ⟨f, h1.ft f, ?_, ?_, ?_, by omega, h6⟩
  · show mup σ.1 68 16 ((a + 1 : Nat) : Int) 68 16 = _; exact mup_same
  · show mup σ.1 68 16 ((a + 1 : Nat) : Int) 68 17 = _; rw [mup_slot (by decide)]; exact h3
  · show mup σ.1 68 16 ((a + 1 : Nat) : Int) 68 18 = _; rw [mup_slot (by decide)]; exact h4
/-- a reading of the reference: where it goes on, and where it has failed already -/
def zMs (K V S : Nat → Int) (N : Nat) (F : mS → Option (Int × mS)) (sub : Nat → Nat → zRe) : Prop := (∀ (a p : Nat) (σ : mS), zMp K V S N a p σ → wpo (F σ) (zMo S (sub a p) σ)) ∧ ∀ σ : mS, zB σ → σ.1 68 18 ≠ -1 → wpo (F σ) (fun q => q.2 = σ)
theorem zMo_fail {S : Nat → Int} {a p : Nat} {σ : mS} (hB : zB σ) {v : Int} : zMo S (zno a p) σ (v, (mup σ.1 68 18 (S a), σ.2)) := by
  refine ⟨zFt_68 hB (by decide), Or.inr ⟨rfl, ?_⟩⟩
  show mup σ.1 68 18 (S a) 68 18 = S a
  exact mup_same
theorem zMp_of {K V S : Nat → Int} {N : Nat} {r : zRe} {σ : mS} {q : Int × mS} (hM : zMt K V S N σ) (h : zFt σ q.2) (h1 : q.2.1 68 16 = (r.2.1 : Int) ∧ q.2.1 68 17 = (r.2.2.1 : Int) ∧ q.2.1 68 18 = -1) (h2 : r.2.1 ≤ N) (h3 : r.2.2.1 ≤ 50) : zMp K V S N r.2.1 r.2.2.1 q.2 := ⟨hM.ft h, h1.1, h1.2.1, h1.2.2, h2, h3⟩
set_option maxHeartbeats 4000000 in
theorem r_leaf {K V S : Nat → Int} {N a p : Nat} {σ : mS} (hN : N ≤ 400) (h : zMp K V S N a p σ) (ha : a < N) (hS : S a ≠ -1) (hk : (K a = 257 ∧ V a ≤ 1000) ∨ (264 ≤ K a ∧ K a < 270)) : wpo (M_Mo_leaf 68 σ) (zMo S (zLeaf K V a p) σ) := by
  have h0 := h
  obtain ⟨h1, h2, h3, h4, h5, h6⟩ := h
  have hB := h1.1
  have n10 : ¬ (1 : Int) = 0 := by decide
  have w : ∀ u : Int, u = (a : Int) → w32 (u + 1) = ((a + 1 : Nat) : Int) := fun u hu => by rw [w32_in (by omega) (by omega)]; omega
  have wp : ∀ u : Int, u = (p : Int) → w32 (u + 1) = ((p + 1 : Nat) : Int) := fun u hu => by rw [w32_in (by omega) (by omega)]; omega
  unfold zLeaf
  by_cases c : p < 50
  · rw [if_pos ⟨hk, c⟩]
    have c' : ¬ (p : Int) = 50 := by omega
    have f1 := zFt_68 (i := 17) (v := ((p + 1 : Nat) : Int)) hB (by decide)
    have hB1 := f1.2.1
    have fi := r_fine1 hB1 (by show mup σ.1 68 17 ((p + 1 : Nat) : Int) 68 18 = -1; rw [mup_slot (by decide)]; exact h4)
    have f2 := zFt_68 (i := 16) (v := ((a + 1 : Nat) : Int)) hB1 (by decide)
    have po : zMo S (1, a + 1, p + 1, fun w => some (if K a = 257 then V a else w (K a - 264))) σ (0, (mup (mup σ.1 68 17 ((p + 1 : Nat) : Int)) 68 16 ((a + 1 : Nat) : Int), σ.2)) := by
      refine ⟨f1.trans f2, Or.inl ⟨rfl, ?_, ?_, ?_⟩⟩
      · show mup (mup σ.1 68 17 ((p + 1 : Nat) : Int)) 68 16 ((a + 1 : Nat) : Int) 68 16 = _; exact mup_same
      · show mup (mup σ.1 68 17 ((p + 1 : Nat) : Int)) 68 16 ((a + 1 : Nat) : Int) 68 17 = _; rw [mup_slot (by decide), mup_same]
      · show mup (mup σ.1 68 17 ((p + 1 : Nat) : Int)) 68 16 ((a + 1 : Nat) : Int) 68 18 = _; rw [mup_slot (by decide), mup_slot (by decide)]; exact h4
    generalize zMo S (1, a + 1, p + 1, fun w => some (if K a = 257 then V a else w (K a - 264))) σ = Q at *
    unfold M_Mo_leaf M_Mo_leaf_6
    simp (maxSteps := 5000000) (disch := first | assumption | omega) only [wpo_bind, wpo_some, wpo_gf, wpo_gk, wpo_ld, wpo_pf, wpo_pz, wpo_sd, wpo_sr, wpo_ln, wpo_idv, wpo_irm, wpo_lrm, wpo_ldv, wpo_cpy, mlet, mnar_int, mup_same, mup_cell, mup_slot, ite_true, ite_false, true_and, and_true, eq_self, or_true, true_or, and_self, Int.reduceLT, Int.reduceLE, Int.reduceEq, Int.reduceNe, Int.reduceAdd, Int.reduceSub, Int.reduceMul, Int.reduceNeg, ne_eq, not_false_eq_true, not_true_eq_false, false_or, or_false, zor_inl, zor_inr, Bool.false_eq_true, false_and, and_false, zk1, zk2, zk3, zk4, zk5, zk6, zk7, zk8, zk9, zk10, zk11, zk12, zk13, zk14, zk15, zk16, zk17, zk18, zk19, zk20, zk21, zk22, zk23, zk24, zk25, zk26, zk27, zk28, zk29, zk30, zk31, zk32, zk33, zk34, zk35, zk36, zk37, zk38, zk39, zk40, zk41, zk42, zk43, zk44, zk45, zk46, zk47, zk48, zk49, zk50, zk51, zk52, zk53, zk54, zk55, zk56, zk57, zk58, zk59, zk60, zk61, zk62, zk63, zk64, zk65, zk66, zk67, zk68, zk69, zk70, zk71, zk72, zk73, zk74, zk75, zk76, zk77, zk78, zk79, zk80, zk81, zk82, zk83, zk84, zk85, zk86, zk87, zk88, zk89, zk90, zr2_0, zr2_1, zr2_2, zr2_3, zr2_4, zr2_6, zr2_7, zr2_10, zr2_11, zr2_12, zr1_0, zr1_1, zr14_0, zr14_1, zr14_2, zr14_3, zr14_4, zr14_6, zr14_7, zr14_10, zr14_11, zr14_12, zr13_0, zr25_0, zr25_1, zr25_2, zr25_3, zr25_4, zr25_6, zr25_7, zr25_10, zr25_11, zr25_12, zr13_1, zr1_2, zr37_0, zr1_3, zr39_0, zr39_1, zr39_2, zr39_5, zr39_7, zr39_8, zr1_4, zr46_1, zr46_2, zr46_3, zr46_4, zr46_0, zr1_5, zr51_2, zr51_10, zr51_0, zr51_1, zr54_1, zr54_2, zr54_3, zr1_6, zr58_1, zr58_2, zr58_3, zr58_0, zr1_7, zr62_2, zr62_3, zr62_0, zr62_1, zr1_8, zr1_9, zr1_10, zr1_15, zr68_2, zr68_3, zr68_4, zr68_5, zr68_7, zr68_8, zr68_9, zr68_12, zr68_13, zr68_14, zr68_22, zr68_23, zr68_24, zr68_26, zr68_35, zr68_36, zr68_37, zr68_38, zr68_39, zr68_40, zr68_41, zr68_42, h3, c', wp, fi, n10, h2, w]
    exact po
  · rw [if_neg (fun x => c x.2)]
    have c' : (p : Int) = 50 := by omega
    have ff := r_faults hN h0
    have f1 := zFt_68 (i := 18) (v := S a) hB (by decide)
    have hB1 := f1.2.1
    have f2 := zFt_68 (i := 17) (v := ((p + 1 : Nat) : Int)) hB1 (by decide)
    have hB2 := f2.2.1
    have fi := r_fine0 hB2 (by show mup (mup σ.1 68 18 (S a)) 68 17 ((p + 1 : Nat) : Int) 68 18 ≠ -1; rw [mup_slot (by decide), mup_same]; exact hS)
    have po : zMo S (zno a p) σ (0, (mup (mup σ.1 68 18 (S a)) 68 17 ((p + 1 : Nat) : Int), σ.2)) := by
      refine ⟨f1.trans f2, Or.inr ⟨rfl, ?_⟩⟩
      show mup (mup σ.1 68 18 (S a)) 68 17 ((p + 1 : Nat) : Int) 68 18 = S a
      rw [mup_slot (by decide), mup_same]
    have h3' : σ.1 68 17 = 50 := by rw [h3]; exact c'
    have w50 : ∀ u : Int, u = 51 → w32 u = ((p + 1 : Nat) : Int) := fun u hu => by rw [hu, w32_in (by decide) (by decide)]; omega
    generalize zMo S (zno a p) σ = Q at *
    unfold M_Mo_leaf M_Mo_leaf_6
    simp (maxSteps := 5000000) (disch := first | assumption | omega) only [wpo_bind, wpo_some, wpo_gf, wpo_gk, wpo_ld, wpo_pf, wpo_pz, wpo_sd, wpo_sr, wpo_ln, wpo_idv, wpo_irm, wpo_lrm, wpo_ldv, wpo_cpy, mlet, mnar_int, mup_same, mup_cell, mup_slot, ite_true, ite_false, true_and, and_true, eq_self, or_true, true_or, and_self, Int.reduceLT, Int.reduceLE, Int.reduceEq, Int.reduceNe, Int.reduceAdd, Int.reduceSub, Int.reduceMul, Int.reduceNeg, ne_eq, not_false_eq_true, not_true_eq_false, false_or, or_false, zor_inl, zor_inr, Bool.false_eq_true, false_and, and_false, zk1, zk2, zk3, zk4, zk5, zk6, zk7, zk8, zk9, zk10, zk11, zk12, zk13, zk14, zk15, zk16, zk17, zk18, zk19, zk20, zk21, zk22, zk23, zk24, zk25, zk26, zk27, zk28, zk29, zk30, zk31, zk32, zk33, zk34, zk35, zk36, zk37, zk38, zk39, zk40, zk41, zk42, zk43, zk44, zk45, zk46, zk47, zk48, zk49, zk50, zk51, zk52, zk53, zk54, zk55, zk56, zk57, zk58, zk59, zk60, zk61, zk62, zk63, zk64, zk65, zk66, zk67, zk68, zk69, zk70, zk71, zk72, zk73, zk74, zk75, zk76, zk77, zk78, zk79, zk80, zk81, zk82, zk83, zk84, zk85, zk86, zk87, zk88, zk89, zk90, zr2_0, zr2_1, zr2_2, zr2_3, zr2_4, zr2_6, zr2_7, zr2_10, zr2_11, zr2_12, zr1_0, zr1_1, zr14_0, zr14_1, zr14_2, zr14_3, zr14_4, zr14_6, zr14_7, zr14_10, zr14_11, zr14_12, zr13_0, zr25_0, zr25_1, zr25_2, zr25_3, zr25_4, zr25_6, zr25_7, zr25_10, zr25_11, zr25_12, zr13_1, zr1_2, zr37_0, zr1_3, zr39_0, zr39_1, zr39_2, zr39_5, zr39_7, zr39_8, zr1_4, zr46_1, zr46_2, zr46_3, zr46_4, zr46_0, zr1_5, zr51_2, zr51_10, zr51_0, zr51_1, zr54_1, zr54_2, zr54_3, zr1_6, zr58_1, zr58_2, zr58_3, zr58_0, zr1_7, zr62_2, zr62_3, zr62_0, zr62_1, zr1_8, zr1_9, zr1_10, zr1_15, zr68_2, zr68_3, zr68_4, zr68_5, zr68_7, zr68_8, zr68_9, zr68_12, zr68_13, zr68_14, zr68_22, zr68_23, zr68_24, zr68_26, zr68_35, zr68_36, zr68_37, zr68_38, zr68_39, zr68_40, zr68_41, zr68_42, h3', ff, w50, fi]
    exact po
