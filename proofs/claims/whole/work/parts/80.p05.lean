/-! THE READER of the developers' program: tokens, and what it writes -/
def zTk (K V : Nat → Int) (N : Nat) (σ : mS) : Prop := zB σ ∧ σ.1 39 3 = (N : Int) + 1 ∧ ∀ j : Nat, j ≤ N → σ.1 40 j = K j ∧ σ.1 42 j = V j
def zAt (a p : Nat) (s fl : Int) (σ : mS) : Prop := σ.1 39 4 = (a : Int) ∧ σ.1 39 10 = (p : Int) ∧ σ.1 39 6 = s ∧ σ.1 39 11 = fl
def zFr (s : Int) (σ σ' : mS) : Prop := σ'.2 = σ.2 ∧ zB σ' ∧ (∀ r, r ≠ 39 → r ≠ 43 → σ'.1 r = σ.1 r) ∧ (∀ i, i ≠ 4 → i ≠ 6 → i ≠ 10 → i ≠ 11 → σ'.1 39 i = σ.1 39 i) ∧ ∀ k, k < s → σ'.1 43 k = σ.1 43 k
def zNH (d : zDn) : Prop := ∀ w v : Int → Int, (∀ k, 0 ≤ k → k < 5 → w k = v k) → d w = d v
def zPre (K V : Nat → Int) (N a p : Nat) (s fl : Int) (σ : mS) : Prop := zTk K V N σ ∧ zAt a p s fl σ ∧ a ≤ N ∧ p ≤ 50 ∧ 0 ≤ s ∧ s ≤ a ∧ (fl = 0 ∨ fl = 1)
def zPo (a p : Nat) (s fl : Int) (r : zRe) (σ : mS) (q : Int × mS) : Prop := zFr s σ q.2 ∧
  ((r.1 = 1 ∧ q.1 = 1 ∧ ∃ s' fl', zAt r.2.1 r.2.2.1 s' fl' q.2 ∧ (s < s' ∧ s' - s ≤ (r.2.1 : Int) - a) ∧ zF (q.2.1 43) s s' ((r.2.2.1 : Int) - p) r.2.2.2 ∧ (fl' = 0 ∨ fl' = 1) ∧ (fl' = 0 → fl = 0 ∧ zNH r.2.2.2)) ∨ (r.1 = 0 ∧ q.1 = 0 ∧ q.2.1 39 4 = (r.2.1 : Int)))
theorem zFr.rfl' {s : Int} {σ : mS} (h : zB σ) : zFr s σ σ := ⟨rfl, h, fun _ _ _ => rfl, fun _ _ _ _ _ => rfl, fun _ _ => rfl⟩
theorem zFr.trans {s s' : Int} {σ σ' σ'' : mS} (h : zFr s σ σ') (h' : zFr s' σ' σ'') (hs : s ≤ s') : zFr s σ σ'' :=
  ⟨h'.1.trans h.1, h'.2.1, fun r a b => (h'.2.2.1 r a b).trans (h.2.2.1 r a b), fun i a b c d => (h'.2.2.2.1 i a b c d).trans (h.2.2.2.1 i a b c d), fun k hk => (h'.2.2.2.2 k (by omega)).trans (h.2.2.2.2 k hk)⟩
theorem zTk.fr {K V : Nat → Int} {N : Nat} {s : Int} {σ σ' : mS} (h : zTk K V N σ) (f : zFr s σ σ') : zTk K V N σ' := by
  obtain ⟨h1, h2, h3⟩ := h
  refine ⟨f.2.1, by rw [f.2.2.2.1 3 (by decide) (by decide) (by decide) (by decide)]; exact h2, fun j hj => ?_⟩
  rw [f.2.2.1 40 (by decide) (by decide), f.2.2.1 42 (by decide) (by decide)]
  exact h3 j hj
theorem zFr_39 {s i v : Int} {σ : mS} (h : zB σ) (hi : i = 4 ∨ i = 6 ∨ i = 10 ∨ i = 11) : zFr s σ (mup σ.1 39 i v, σ.2) := by
  refine ⟨rfl, zB_mup h ?_, fun r a _ => mup_fun a, fun j a b c d => ?_, fun k _ => ?_⟩
  · rcases hi with e | e | e | e <;> subst e <;> decide +kernel
  · show mup σ.1 39 i v 39 j = σ.1 39 j
    exact mup_slot (by omega)
  · show mup σ.1 39 i v 43 k = σ.1 43 k
    exact mup_cell (by decide)
theorem zFr_43 {s j v : Int} {σ : mS} (h : zB σ) (hj : s ≤ j) : zFr s σ (mup σ.1 43 j v, σ.2) := by
  refine ⟨rfl, zB_mup h (zokr_arr (by decide +kernel)), fun r _ b => mup_fun b, fun i _ _ _ _ => ?_, fun k hk => ?_⟩
  · show mup σ.1 43 j v 39 i = σ.1 39 i
    exact mup_cell (by decide)
  · show mup σ.1 43 j v 43 k = σ.1 43 k
    exact mup_slot (by omega)
theorem d_kind {K V : Nat → Int} {N a : Nat} {σ : mS} (hN : N ≤ 400) (h : zTk K V N σ) (ha : σ.1 39 4 = (a : Int)) (h1 : a ≤ N) : M_Reader_kindHere 39 σ = some (K a, σ) := by
  have : wpo (M_Reader_kindHere 39 σ) (fun q => q = (K a, σ)) := by
    have hB := h.1
    have c1 : (a : Int) < (N : Int) + 1 := by omega
    have c2 : 0 ≤ (a : Int) := by omega
    have c3 : (a : Int) < 401 := by omega
    have t3 := h.2.1
    have k := (h.2.2 a h1).1
    unfold M_Reader_kindHere
    simp (maxSteps := 5000000) (disch := first | assumption | omega) only [wpo_bind, wpo_some, wpo_gf, wpo_gk, wpo_ld, wpo_pf, wpo_pz, wpo_sd, wpo_sr, wpo_ln, wpo_idv, wpo_irm, wpo_lrm, wpo_ldv, wpo_cpy, mlet, mnar_int, mup_same, mup_cell, mup_slot, ite_true, ite_false, true_and, and_true, eq_self, or_true, true_or, and_self, Int.reduceLT, Int.reduceLE, Int.reduceEq, Int.reduceNe, Int.reduceAdd, Int.reduceSub, Int.reduceMul, Int.reduceNeg, ne_eq, not_false_eq_true, not_true_eq_false, false_or, or_false, zor_inl, zor_inr, Bool.false_eq_true, false_and, and_false, zk1, zk2, zk3, zk4, zk5, zk6, zk7, zk8, zk9, zk10, zk11, zk12, zk13, zk14, zk15, zk16, zk17, zk18, zk19, zk20, zk21, zk22, zk23, zk24, zk25, zk26, zk27, zk28, zk29, zk30, zk31, zk32, zk33, zk34, zk35, zk36, zk37, zk38, zk39, zk40, zk41, zk42, zk43, zk44, zk45, zk46, zk47, zk48, zk49, zk50, zk51, zk52, zk53, zk54, zk55, zk56, zk57, zk58, zk59, zk60, zk61, zk62, zk63, zk64, zk65, zk66, zk67, zk68, zk69, zk70, zk71, zk72, zk73, zk74, zk75, zk76, zk77, zk78, zk79, zk80, zk81, zk82, zk83, zk84, zk85, zk86, zk87, zk88, zk89, zk90, zr2_0, zr2_1, zr2_2, zr2_3, zr2_4, zr2_6, zr2_7, zr2_10, zr2_11, zr2_12, zr1_0, zr1_1, zr14_0, zr14_1, zr14_2, zr14_3, zr14_4, zr14_6, zr14_7, zr14_10, zr14_11, zr14_12, zr13_0, zr25_0, zr25_1, zr25_2, zr25_3, zr25_4, zr25_6, zr25_7, zr25_10, zr25_11, zr25_12, zr13_1, zr1_2, zr37_0, zr1_3, zr39_0, zr39_1, zr39_2, zr39_5, zr39_7, zr39_8, zr1_4, zr46_1, zr46_2, zr46_3, zr46_4, zr46_0, zr1_5, zr51_2, zr51_10, zr51_0, zr51_1, zr54_1, zr54_2, zr54_3, zr1_6, zr58_1, zr58_2, zr58_3, zr58_0, zr1_7, zr62_2, zr62_3, zr62_0, zr62_1, zr1_8, zr1_9, zr1_10, zr1_15, zr68_2, zr68_3, zr68_4, zr68_5, zr68_7, zr68_8, zr68_9, zr68_12, zr68_13, zr68_14, zr68_22, zr68_23, zr68_24, zr68_26, zr68_35, zr68_36, zr68_37, zr68_38, zr68_39, zr68_40, zr68_41, zr68_42, ha, t3, c1, c2, c3, k]
  obtain ⟨y, e, rfl⟩ := this
  exact e
theorem d_takes {K V : Nat → Int} {N a : Nat} {k : Int} {σ : mS} (hN : N ≤ 400) (h : zTk K V N σ) (ha : σ.1 39 4 = (a : Int)) (h1 : a ≤ N) : M_Reader_takes 39 k σ = if K a = k then some (1, (mup σ.1 39 4 ((a + 1 : Nat) : Int), σ.2)) else some (0, σ) := by
  have hB := h.1
  have c1 : (a : Int) < (N : Int) + 1 := by omega
  have c2 : 0 ≤ (a : Int) := by omega
  have c3 : (a : Int) < 401 := by omega
  have t3 := h.2.1
  have kk := (h.2.2 a h1).1
  have w : w32 ((a : Int) + 1) = ((a + 1 : Nat) : Int) := by rw [w32_in (by omega) (by omega)]; omega
  by_cases c : K a = k
  · rw [if_pos c]
    have : wpo (M_Reader_takes 39 k σ) (fun q => q = (1, (mup σ.1 39 4 ((a + 1 : Nat) : Int), σ.2))) := by
      unfold M_Reader_takes
      simp (maxSteps := 5000000) (disch := first | assumption | omega) only [wpo_bind, wpo_some, wpo_gf, wpo_gk, wpo_ld, wpo_pf, wpo_pz, wpo_sd, wpo_sr, wpo_ln, wpo_idv, wpo_irm, wpo_lrm, wpo_ldv, wpo_cpy, mlet, mnar_int, mup_same, mup_cell, mup_slot, ite_true, ite_false, true_and, and_true, eq_self, or_true, true_or, and_self, Int.reduceLT, Int.reduceLE, Int.reduceEq, Int.reduceNe, Int.reduceAdd, Int.reduceSub, Int.reduceMul, Int.reduceNeg, ne_eq, not_false_eq_true, not_true_eq_false, false_or, or_false, zor_inl, zor_inr, Bool.false_eq_true, false_and, and_false, zk1, zk2, zk3, zk4, zk5, zk6, zk7, zk8, zk9, zk10, zk11, zk12, zk13, zk14, zk15, zk16, zk17, zk18, zk19, zk20, zk21, zk22, zk23, zk24, zk25, zk26, zk27, zk28, zk29, zk30, zk31, zk32, zk33, zk34, zk35, zk36, zk37, zk38, zk39, zk40, zk41, zk42, zk43, zk44, zk45, zk46, zk47, zk48, zk49, zk50, zk51, zk52, zk53, zk54, zk55, zk56, zk57, zk58, zk59, zk60, zk61, zk62, zk63, zk64, zk65, zk66, zk67, zk68, zk69, zk70, zk71, zk72, zk73, zk74, zk75, zk76, zk77, zk78, zk79, zk80, zk81, zk82, zk83, zk84, zk85, zk86, zk87, zk88, zk89, zk90, zr2_0, zr2_1, zr2_2, zr2_3, zr2_4, zr2_6, zr2_7, zr2_10, zr2_11, zr2_12, zr1_0, zr1_1, zr14_0, zr14_1, zr14_2, zr14_3, zr14_4, zr14_6, zr14_7, zr14_10, zr14_11, zr14_12, zr13_0, zr25_0, zr25_1, zr25_2, zr25_3, zr25_4, zr25_6, zr25_7, zr25_10, zr25_11, zr25_12, zr13_1, zr1_2, zr37_0, zr1_3, zr39_0, zr39_1, zr39_2, zr39_5, zr39_7, zr39_8, zr1_4, zr46_1, zr46_2, zr46_3, zr46_4, zr46_0, zr1_5, zr51_2, zr51_10, zr51_0, zr51_1, zr54_1, zr54_2, zr54_3, zr1_6, zr58_1, zr58_2, zr58_3, zr58_0, zr1_7, zr62_2, zr62_3, zr62_0, zr62_1, zr1_8, zr1_9, zr1_10, zr1_15, zr68_2, zr68_3, zr68_4, zr68_5, zr68_7, zr68_8, zr68_9, zr68_12, zr68_13, zr68_14, zr68_22, zr68_23, zr68_24, zr68_26, zr68_35, zr68_36, zr68_37, zr68_38, zr68_39, zr68_40, zr68_41, zr68_42, ha, t3, c1, c2, c3, kk, c, w]
    obtain ⟨y, e, rfl⟩ := this
    exact e
  · rw [if_neg c]
    have : wpo (M_Reader_takes 39 k σ) (fun q => q = (0, σ)) := by
      unfold M_Reader_takes
      simp (maxSteps := 5000000) (disch := first | assumption | omega) only [wpo_bind, wpo_some, wpo_gf, wpo_gk, wpo_ld, wpo_pf, wpo_pz, wpo_sd, wpo_sr, wpo_ln, wpo_idv, wpo_irm, wpo_lrm, wpo_ldv, wpo_cpy, mlet, mnar_int, mup_same, mup_cell, mup_slot, ite_true, ite_false, true_and, and_true, eq_self, or_true, true_or, and_self, Int.reduceLT, Int.reduceLE, Int.reduceEq, Int.reduceNe, Int.reduceAdd, Int.reduceSub, Int.reduceMul, Int.reduceNeg, ne_eq, not_false_eq_true, not_true_eq_false, false_or, or_false, zor_inl, zor_inr, Bool.false_eq_true, false_and, and_false, zk1, zk2, zk3, zk4, zk5, zk6, zk7, zk8, zk9, zk10, zk11, zk12, zk13, zk14, zk15, zk16, zk17, zk18, zk19, zk20, zk21, zk22, zk23, zk24, zk25, zk26, zk27, zk28, zk29, zk30, zk31, zk32, zk33, zk34, zk35, zk36, zk37, zk38, zk39, zk40, zk41, zk42, zk43, zk44, zk45, zk46, zk47, zk48, zk49, zk50, zk51, zk52, zk53, zk54, zk55, zk56, zk57, zk58, zk59, zk60, zk61, zk62, zk63, zk64, zk65, zk66, zk67, zk68, zk69, zk70, zk71, zk72, zk73, zk74, zk75, zk76, zk77, zk78, zk79, zk80, zk81, zk82, zk83, zk84, zk85, zk86, zk87, zk88, zk89, zk90, zr2_0, zr2_1, zr2_2, zr2_3, zr2_4, zr2_6, zr2_7, zr2_10, zr2_11, zr2_12, zr1_0, zr1_1, zr14_0, zr14_1, zr14_2, zr14_3, zr14_4, zr14_6, zr14_7, zr14_10, zr14_11, zr14_12, zr13_0, zr25_0, zr25_1, zr25_2, zr25_3, zr25_4, zr25_6, zr25_7, zr25_10, zr25_11, zr25_12, zr13_1, zr1_2, zr37_0, zr1_3, zr39_0, zr39_1, zr39_2, zr39_5, zr39_7, zr39_8, zr1_4, zr46_1, zr46_2, zr46_3, zr46_4, zr46_0, zr1_5, zr51_2, zr51_10, zr51_0, zr51_1, zr54_1, zr54_2, zr54_3, zr1_6, zr58_1, zr58_2, zr58_3, zr58_0, zr1_7, zr62_2, zr62_3, zr62_0, zr62_1, zr1_8, zr1_9, zr1_10, zr1_15, zr68_2, zr68_3, zr68_4, zr68_5, zr68_7, zr68_8, zr68_9, zr68_12, zr68_13, zr68_14, zr68_22, zr68_23, zr68_24, zr68_26, zr68_35, zr68_36, zr68_37, zr68_38, zr68_39, zr68_40, zr68_41, zr68_42, ha, t3, c1, c2, c3, kk, c]
    obtain ⟨y, e, rfl⟩ := this
    exact e
theorem d_emit {s kd n : Int} {σ : mS} (hB : zB σ) (hs : σ.1 39 6 = s) (s0 : 0 ≤ s) (s1 : s < 400) : M_Reader_emit 39 kd n σ = some (s, (mup (mup σ.1 43 s (ior (ishl n 4) kd)) 39 6 (s + 1), σ.2)) := by
  have : wpo (M_Reader_emit 39 kd n σ) (fun q => q = (s, (mup (mup σ.1 43 s (ior (ishl n 4) kd)) 39 6 (s + 1), σ.2))) := by
    have w : w32 (s + 1) = s + 1 := w32_in (by omega) (by omega)
    unfold M_Reader_emit
    simp (maxSteps := 5000000) (disch := first | assumption | omega) only [wpo_bind, wpo_some, wpo_gf, wpo_gk, wpo_ld, wpo_pf, wpo_pz, wpo_sd, wpo_sr, wpo_ln, wpo_idv, wpo_irm, wpo_lrm, wpo_ldv, wpo_cpy, mlet, mnar_int, mup_same, mup_cell, mup_slot, ite_true, ite_false, true_and, and_true, eq_self, or_true, true_or, and_self, Int.reduceLT, Int.reduceLE, Int.reduceEq, Int.reduceNe, Int.reduceAdd, Int.reduceSub, Int.reduceMul, Int.reduceNeg, ne_eq, not_false_eq_true, not_true_eq_false, false_or, or_false, zor_inl, zor_inr, Bool.false_eq_true, false_and, and_false, zk1, zk2, zk3, zk4, zk5, zk6, zk7, zk8, zk9, zk10, zk11, zk12, zk13, zk14, zk15, zk16, zk17, zk18, zk19, zk20, zk21, zk22, zk23, zk24, zk25, zk26, zk27, zk28, zk29, zk30, zk31, zk32, zk33, zk34, zk35, zk36, zk37, zk38, zk39, zk40, zk41, zk42, zk43, zk44, zk45, zk46, zk47, zk48, zk49, zk50, zk51, zk52, zk53, zk54, zk55, zk56, zk57, zk58, zk59, zk60, zk61, zk62, zk63, zk64, zk65, zk66, zk67, zk68, zk69, zk70, zk71, zk72, zk73, zk74, zk75, zk76, zk77, zk78, zk79, zk80, zk81, zk82, zk83, zk84, zk85, zk86, zk87, zk88, zk89, zk90, zr2_0, zr2_1, zr2_2, zr2_3, zr2_4, zr2_6, zr2_7, zr2_10, zr2_11, zr2_12, zr1_0, zr1_1, zr14_0, zr14_1, zr14_2, zr14_3, zr14_4, zr14_6, zr14_7, zr14_10, zr14_11, zr14_12, zr13_0, zr25_0, zr25_1, zr25_2, zr25_3, zr25_4, zr25_6, zr25_7, zr25_10, zr25_11, zr25_12, zr13_1, zr1_2, zr37_0, zr1_3, zr39_0, zr39_1, zr39_2, zr39_5, zr39_7, zr39_8, zr1_4, zr46_1, zr46_2, zr46_3, zr46_4, zr46_0, zr1_5, zr51_2, zr51_10, zr51_0, zr51_1, zr54_1, zr54_2, zr54_3, zr1_6, zr58_1, zr58_2, zr58_3, zr58_0, zr1_7, zr62_2, zr62_3, zr62_0, zr62_1, zr1_8, zr1_9, zr1_10, zr1_15, zr68_2, zr68_3, zr68_4, zr68_5, zr68_7, zr68_8, zr68_9, zr68_12, zr68_13, zr68_14, zr68_22, zr68_23, zr68_24, zr68_26, zr68_35, zr68_36, zr68_37, zr68_38, zr68_39, zr68_40, zr68_41, zr68_42, hs, s0, s1, w]
  obtain ⟨y, e, rfl⟩ := this
  exact e
theorem d_aim {s j : Int} {σ : mS} (hB : zB σ) (hs : σ.1 39 6 = s) (s0 : 0 ≤ j) (s1 : j < 400) : M_Reader_aimBehind 39 j σ = some (0, (mup σ.1 43 j (ior (σ.1 43 j) (ishl s 4)), σ.2)) := by
  have : wpo (M_Reader_aimBehind 39 j σ) (fun q => q = (0, (mup σ.1 43 j (ior (σ.1 43 j) (ishl s 4)), σ.2))) := by
    unfold M_Reader_aimBehind
    simp (maxSteps := 5000000) (disch := first | assumption | omega) only [wpo_bind, wpo_some, wpo_gf, wpo_gk, wpo_ld, wpo_pf, wpo_pz, wpo_sd, wpo_sr, wpo_ln, wpo_idv, wpo_irm, wpo_lrm, wpo_ldv, wpo_cpy, mlet, mnar_int, mup_same, mup_cell, mup_slot, ite_true, ite_false, true_and, and_true, eq_self, or_true, true_or, and_self, Int.reduceLT, Int.reduceLE, Int.reduceEq, Int.reduceNe, Int.reduceAdd, Int.reduceSub, Int.reduceMul, Int.reduceNeg, ne_eq, not_false_eq_true, not_true_eq_false, false_or, or_false, zor_inl, zor_inr, Bool.false_eq_true, false_and, and_false, zk1, zk2, zk3, zk4, zk5, zk6, zk7, zk8, zk9, zk10, zk11, zk12, zk13, zk14, zk15, zk16, zk17, zk18, zk19, zk20, zk21, zk22, zk23, zk24, zk25, zk26, zk27, zk28, zk29, zk30, zk31, zk32, zk33, zk34, zk35, zk36, zk37, zk38, zk39, zk40, zk41, zk42, zk43, zk44, zk45, zk46, zk47, zk48, zk49, zk50, zk51, zk52, zk53, zk54, zk55, zk56, zk57, zk58, zk59, zk60, zk61, zk62, zk63, zk64, zk65, zk66, zk67, zk68, zk69, zk70, zk71, zk72, zk73, zk74, zk75, zk76, zk77, zk78, zk79, zk80, zk81, zk82, zk83, zk84, zk85, zk86, zk87, zk88, zk89, zk90, zr2_0, zr2_1, zr2_2, zr2_3, zr2_4, zr2_6, zr2_7, zr2_10, zr2_11, zr2_12, zr1_0, zr1_1, zr14_0, zr14_1, zr14_2, zr14_3, zr14_4, zr14_6, zr14_7, zr14_10, zr14_11, zr14_12, zr13_0, zr25_0, zr25_1, zr25_2, zr25_3, zr25_4, zr25_6, zr25_7, zr25_10, zr25_11, zr25_12, zr13_1, zr1_2, zr37_0, zr1_3, zr39_0, zr39_1, zr39_2, zr39_5, zr39_7, zr39_8, zr1_4, zr46_1, zr46_2, zr46_3, zr46_4, zr46_0, zr1_5, zr51_2, zr51_10, zr51_0, zr51_1, zr54_1, zr54_2, zr54_3, zr1_6, zr58_1, zr58_2, zr58_3, zr58_0, zr1_7, zr62_2, zr62_3, zr62_0, zr62_1, zr1_8, zr1_9, zr1_10, zr1_15, zr68_2, zr68_3, zr68_4, zr68_5, zr68_7, zr68_8, zr68_9, zr68_12, zr68_13, zr68_14, zr68_22, zr68_23, zr68_24, zr68_26, zr68_35, zr68_36, zr68_37, zr68_38, zr68_39, zr68_40, zr68_41, zr68_42, hs, s0, s1]
  obtain ⟨y, e, rfl⟩ := this
  exact e
theorem ins0 : ∀ n : Nat, n < 1001 → ior (ishl (n : Int) 4) 0 = 16 * (n : Int) := by decide +kernel
theorem ins1 : ∀ n : Nat, n < 6 → ior (ishl (n : Int) 4) 1 = 16 * (n : Int) + 1 := by decide +kernel
theorem insk : ∀ n : Nat, n < 12 → ior (ishl 0 4) (n : Int) = (n : Int) := by decide +kernel
theorem ins3 : ∀ n : Nat, n < 401 → ior 3 (ishl (n : Int) 4) = 16 * (n : Int) + 3 ∧ ior 4 (ishl (n : Int) 4) = 16 * (n : Int) + 4 := by decide +kernel
theorem zNH_bin {k : Int} {d e : zDn} (h1 : zNH d) (h2 : zNH e) : zNH (zbin k d e) := fun w v h => by unfold zbin; rw [h1 w v h, h2 w v h]
theorem zNH_con {k : Int} {d e : zDn} (h1 : zNH d) (h2 : zNH e) : zNH (zcon k d e) := fun w v h => by unfold zcon; rw [h1 w v h, h2 w v h]
theorem zNH_neg {d : zDn} (h1 : zNH d) : zNH (zneg d) := fun w v h => by unfold zneg; rw [h1 w v h]
/-- an instruction is added -/
theorem zPre_emit {K V : Nat → Int} {N a p : Nat} {s fl x : Int} {σ : mS} (h : zTk K V N σ) (h1 : zAt a p s fl σ) : zFr s σ (mup (mup σ.1 43 s x) 39 6 (s + 1), σ.2) ∧ zAt a p (s + 1) fl (mup (mup σ.1 43 s x) 39 6 (s + 1), σ.2) ∧ mup (mup σ.1 43 s x) 39 6 (s + 1) 43 s = x ∧ ∀ k, k ≠ s → mup (mup σ.1 43 s x) 39 6 (s + 1) 43 k = σ.1 43 k := by
  have f1 := zFr_43 (s := s) (j := s) (v := x) h.1 (Int.le_refl s)
  have f2 := zFr_39 (s := s) (i := 6) (v := s + 1) f1.2.1 (by decide)
  obtain ⟨g1, g2, g3, g4⟩ := h1
  refine ⟨f1.trans f2 (Int.le_refl s), ⟨?_, ?_, ?_, ?_⟩, ?_, fun k hk => ?_⟩
  · show mup (mup σ.1 43 s x) 39 6 (s + 1) 39 4 = _; rw [mup_slot (by decide), mup_cell (by decide)]; exact g1
  · show mup (mup σ.1 43 s x) 39 6 (s + 1) 39 10 = _; rw [mup_slot (by decide), mup_cell (by decide)]; exact g2
  · show mup (mup σ.1 43 s x) 39 6 (s + 1) 39 6 = _; exact mup_same
  · show mup (mup σ.1 43 s x) 39 6 (s + 1) 39 11 = _; rw [mup_slot (by decide), mup_cell (by decide)]; exact g4
  · rw [mup_cell (by decide)]; exact mup_same
  · rw [mup_cell (by decide), mup_slot hk]
/-- a token is passed -/
theorem zPre_tok {a b p : Nat} {s fl : Int} {σ : mS} (h : zB σ) (h1 : zAt a p s fl σ) : zFr s σ (mup σ.1 39 4 ((b : Nat) : Int), σ.2) ∧ zAt b p s fl (mup σ.1 39 4 ((b : Nat) : Int), σ.2) ∧ mup σ.1 39 4 ((b : Nat) : Int) 43 = σ.1 43 := by
  obtain ⟨g1, g2, g3, g4⟩ := h1
  refine ⟨zFr_39 h (by decide), ⟨?_, ?_, ?_, ?_⟩, ?_⟩
  · show mup σ.1 39 4 ((b : Nat) : Int) 39 4 = _; exact mup_same
  · show mup σ.1 39 4 ((b : Nat) : Int) 39 10 = _; rw [mup_slot (by decide)]; exact g2
  · show mup σ.1 39 4 ((b : Nat) : Int) 39 6 = _; rw [mup_slot (by decide)]; exact g3
  · show mup σ.1 39 4 ((b : Nat) : Int) 39 11 = _; rw [mup_slot (by decide)]; exact g4
  · exact mup_fun (by decide)
