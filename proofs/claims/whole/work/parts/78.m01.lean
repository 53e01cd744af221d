/-! THE REFERENCE: its air and its rays -/
noncomputable section
theorem e_lies (x y z : Int) (σ : mS) : M_Mo_lies x y z σ = some (if y ≤ x ∧ x ≤ z then 1 else 0, σ) := by
  unfold M_Mo_lies
  by_cases h1 : x < y
  · rw [if_pos h1, if_pos (Or.inl rfl), if_neg (by omega)]
  · rw [if_neg h1]
    by_cases h2 : z < x
    · rw [if_pos h2, if_pos (Or.inl rfl), if_neg (by omega)]
    · rw [if_neg h2, if_pos (Or.inr rfl), if_pos (by omega)]
theorem f_isPlace (x : Int) (σ : mS) : M_Mo_isPlace x σ = some (if 0 ≤ x ∧ x ≤ 63 then 1 else 0, σ) := by
  unfold M_Mo_isPlace; rw [e_lies]; exact if_pos ite01
theorem f_isInch (x : Int) (σ : mS) : M_Mo_isInch x σ = some (if 0 ≤ x ∧ x ≤ 31 then 1 else 0, σ) := by
  unfold M_Mo_isInch; rw [e_lies]; exact if_pos ite01
theorem f_isHour (x : Int) (σ : mS) : M_Mo_isHour x σ = some (if 0 ≤ x ∧ x ≤ 23 then 1 else 0, σ) := by
  unfold M_Mo_isHour; rw [e_lies]; exact if_pos ite01
theorem f_isAngle (x : Int) (σ : mS) : M_Mo_isAngle x σ = some (if -500 ≤ x ∧ x ≤ 500 then 1 else 0, σ) := by
  unfold M_Mo_isAngle; rw [e_lies]; exact if_pos ite01
def znr (v lo hi : Int) : Int := if v < lo then lo else if hi < v then hi else v
theorem f_nearest (v lo hi : Int) (σ : mS) : M_Mo_nearest v lo hi σ = some (znr v lo hi, σ) := by
  unfold M_Mo_nearest znr
  by_cases c1 : v < lo
  · rw [if_pos c1, if_pos c1]
  · rw [if_neg c1, if_neg c1]
    by_cases c2 : hi < v
    · rw [if_pos c2, if_pos c2]
    · rw [if_neg c2, if_neg c2]
theorem f_signOf (v : Int) (σ : mS) : M_Mo_signOf v σ = some (zsg v, σ) := by
  unfold M_Mo_signOf zsg
  by_cases c1 : v < 0
  · rw [if_pos c1, if_pos c1]
  · rw [if_neg c1, if_neg c1]
    by_cases c2 : 0 < v
    · rw [if_pos c2, if_pos c2]
    · rw [if_neg c2, if_neg c2]
theorem f_isThing {A : Int → Int} {σ : mS} {t : Int} (hB : zB σ) (hA : σ.1 70 = A) (hn : 0 ≤ A 184 ∧ A 184 ≤ 8) : M_Mo_isThing 68 t σ = some (if 0 ≤ t ∧ t < A 184 then 1 else 0, σ) := by
  have : wpo (M_Mo_isThing 68 t σ) (fun q => q = (if 0 ≤ t ∧ t < A 184 then 1 else 0, σ)) := by
    have w : w32 (A 184 - 1) = A 184 - 1 := w32_in (by omega) (by omega)
    unfold M_Mo_isThing
    by_cases c : 0 ≤ t ∧ t < A 184
    · have c' : 0 ≤ t ∧ t ≤ A 184 - 1 := by omega
      (try simp (disch := first | assumption | omega) only [wpo_bind, wpo_some, wpo_gf, wpo_gk, wpo_ld, wpo_pf, wpo_pz, wpo_sd, wpo_sr, wpo_ln, wpo_idv, wpo_irm, wpo_lrm, wpo_ldv, wpo_cpy, mlet, mnar_int, mup_same, mup_cell, mup_slot, ite_true, ite_false, true_and, and_true, eq_self, or_true, true_or, and_self, Int.reduceLT, Int.reduceLE, Int.reduceEq, Int.reduceNe, Int.reduceAdd, Int.reduceSub, Int.reduceMul, Int.reduceNeg, ne_eq, not_false_eq_true, not_true_eq_false, false_or, or_false, zor_inl, zor_inr, Bool.false_eq_true, false_and, and_false, zk1, zk2, zk3, zk4, zk5, zk6, zk7, zk8, zk9, zk10, zk11, zk12, zk13, zk14, zk15, zk16, zk17, zk18, zk19, zk20, zk21, zk22, zk23, zk24, zk25, zk26, zk27, zk28, zk29, zk30, zk31, zk32, zk33, zk34, zk35, zk36, zk37, zk38, zk39, zk40, zk41, zk42, zk43, zk44, zk45, zk46, zk47, zk48, zk49, zk50, zk51, zk52, zk53, zk54, zk55, zk56, zk57, zk58, zk59, zk60, zk61, zk62, zk63, zk64, zk65, zk66, zk67, zk68, zk69, zk70, zk71, zk72, zk73, zk74, zk75, zk76, zk77, zk78, zk79, zk80, zk81, zk82, zk83, zk84, zk85, zk86, zk87, zk88, zk89, zk90, zr2_0, zr2_1, zr2_2, zr2_3, zr2_4, zr2_6, zr2_7, zr2_10, zr2_11, zr2_12, zr1_0, zr1_1, zr14_0, zr14_1, zr14_2, zr14_3, zr14_4, zr14_6, zr14_7, zr14_10, zr14_11, zr14_12, zr13_0, zr25_0, zr25_1, zr25_2, zr25_3, zr25_4, zr25_6, zr25_7, zr25_10, zr25_11, zr25_12, zr13_1, zr1_2, zr37_0, zr1_3, zr39_0, zr39_1, zr39_2, zr39_5, zr39_7, zr39_8, zr1_4, zr46_1, zr46_2, zr46_3, zr46_4, zr46_0, zr1_5, zr51_2, zr51_10, zr51_0, zr51_1, zr54_1, zr54_2, zr54_3, zr1_6, zr58_1, zr58_2, zr58_3, zr58_0, zr1_7, zr62_2, zr62_3, zr62_0, zr62_1, zr1_8, zr1_9, zr1_10, zr1_15, zr68_2, zr68_3, zr68_4, zr68_5, zr68_7, zr68_8, zr68_9, zr68_12, zr68_13, zr68_14, zr68_22, zr68_23, zr68_24, zr68_26, zr68_35, zr68_36, zr68_37, zr68_38, zr68_39, zr68_40, zr68_41, zr68_42, hA, w, e_lies, c, c'])
    · have c' : ¬ (0 ≤ t ∧ t ≤ A 184 - 1) := by omega
      (try simp (disch := first | assumption | omega) only [wpo_bind, wpo_some, wpo_gf, wpo_gk, wpo_ld, wpo_pf, wpo_pz, wpo_sd, wpo_sr, wpo_ln, wpo_idv, wpo_irm, wpo_lrm, wpo_ldv, wpo_cpy, mlet, mnar_int, mup_same, mup_cell, mup_slot, ite_true, ite_false, true_and, and_true, eq_self, or_true, true_or, and_self, Int.reduceLT, Int.reduceLE, Int.reduceEq, Int.reduceNe, Int.reduceAdd, Int.reduceSub, Int.reduceMul, Int.reduceNeg, ne_eq, not_false_eq_true, not_true_eq_false, false_or, or_false, zor_inl, zor_inr, Bool.false_eq_true, false_and, and_false, zk1, zk2, zk3, zk4, zk5, zk6, zk7, zk8, zk9, zk10, zk11, zk12, zk13, zk14, zk15, zk16, zk17, zk18, zk19, zk20, zk21, zk22, zk23, zk24, zk25, zk26, zk27, zk28, zk29, zk30, zk31, zk32, zk33, zk34, zk35, zk36, zk37, zk38, zk39, zk40, zk41, zk42, zk43, zk44, zk45, zk46, zk47, zk48, zk49, zk50, zk51, zk52, zk53, zk54, zk55, zk56, zk57, zk58, zk59, zk60, zk61, zk62, zk63, zk64, zk65, zk66, zk67, zk68, zk69, zk70, zk71, zk72, zk73, zk74, zk75, zk76, zk77, zk78, zk79, zk80, zk81, zk82, zk83, zk84, zk85, zk86, zk87, zk88, zk89, zk90, zr2_0, zr2_1, zr2_2, zr2_3, zr2_4, zr2_6, zr2_7, zr2_10, zr2_11, zr2_12, zr1_0, zr1_1, zr14_0, zr14_1, zr14_2, zr14_3, zr14_4, zr14_6, zr14_7, zr14_10, zr14_11, zr14_12, zr13_0, zr25_0, zr25_1, zr25_2, zr25_3, zr25_4, zr25_6, zr25_7, zr25_10, zr25_11, zr25_12, zr13_1, zr1_2, zr37_0, zr1_3, zr39_0, zr39_1, zr39_2, zr39_5, zr39_7, zr39_8, zr1_4, zr46_1, zr46_2, zr46_3, zr46_4, zr46_0, zr1_5, zr51_2, zr51_10, zr51_0, zr51_1, zr54_1, zr54_2, zr54_3, zr1_6, zr58_1, zr58_2, zr58_3, zr58_0, zr1_7, zr62_2, zr62_3, zr62_0, zr62_1, zr1_8, zr1_9, zr1_10, zr1_15, zr68_2, zr68_3, zr68_4, zr68_5, zr68_7, zr68_8, zr68_9, zr68_12, zr68_13, zr68_14, zr68_22, zr68_23, zr68_24, zr68_26, zr68_35, zr68_36, zr68_37, zr68_38, zr68_39, zr68_40, zr68_41, zr68_42, hA, w, e_lies, c, c'])
  obtain ⟨y, e, rfl⟩ := this
  exact e
theorem f_riseOf {A : Int → Int} {σ : mS} {p : Int} (hB : zB σ) (hA : σ.1 70 = A) (p0 : 0 ≤ p) (p1 : p < 64) : M_Mo_riseOf 68 p σ = some (A p, σ) := by
  have : wpo (M_Mo_riseOf 68 p σ) (fun q => q = (A p, σ)) := by
    have c : p < 4994 := by omega
    have w : w32 (0 + p) = p := by rw [w32_in (by omega) (by omega)]; omega
    unfold M_Mo_riseOf
    (try simp (disch := first | assumption | omega) only [wpo_bind, wpo_some, wpo_gf, wpo_gk, wpo_ld, wpo_pf, wpo_pz, wpo_sd, wpo_sr, wpo_ln, wpo_idv, wpo_irm, wpo_lrm, wpo_ldv, wpo_cpy, mlet, mnar_int, mup_same, mup_cell, mup_slot, ite_true, ite_false, true_and, and_true, eq_self, or_true, true_or, and_self, Int.reduceLT, Int.reduceLE, Int.reduceEq, Int.reduceNe, Int.reduceAdd, Int.reduceSub, Int.reduceMul, Int.reduceNeg, ne_eq, not_false_eq_true, not_true_eq_false, false_or, or_false, zor_inl, zor_inr, Bool.false_eq_true, false_and, and_false, zk1, zk2, zk3, zk4, zk5, zk6, zk7, zk8, zk9, zk10, zk11, zk12, zk13, zk14, zk15, zk16, zk17, zk18, zk19, zk20, zk21, zk22, zk23, zk24, zk25, zk26, zk27, zk28, zk29, zk30, zk31, zk32, zk33, zk34, zk35, zk36, zk37, zk38, zk39, zk40, zk41, zk42, zk43, zk44, zk45, zk46, zk47, zk48, zk49, zk50, zk51, zk52, zk53, zk54, zk55, zk56, zk57, zk58, zk59, zk60, zk61, zk62, zk63, zk64, zk65, zk66, zk67, zk68, zk69, zk70, zk71, zk72, zk73, zk74, zk75, zk76, zk77, zk78, zk79, zk80, zk81, zk82, zk83, zk84, zk85, zk86, zk87, zk88, zk89, zk90, zr2_0, zr2_1, zr2_2, zr2_3, zr2_4, zr2_6, zr2_7, zr2_10, zr2_11, zr2_12, zr1_0, zr1_1, zr14_0, zr14_1, zr14_2, zr14_3, zr14_4, zr14_6, zr14_7, zr14_10, zr14_11, zr14_12, zr13_0, zr25_0, zr25_1, zr25_2, zr25_3, zr25_4, zr25_6, zr25_7, zr25_10, zr25_11, zr25_12, zr13_1, zr1_2, zr37_0, zr1_3, zr39_0, zr39_1, zr39_2, zr39_5, zr39_7, zr39_8, zr1_4, zr46_1, zr46_2, zr46_3, zr46_4, zr46_0, zr1_5, zr51_2, zr51_10, zr51_0, zr51_1, zr54_1, zr54_2, zr54_3, zr1_6, zr58_1, zr58_2, zr58_3, zr58_0, zr1_7, zr62_2, zr62_3, zr62_0, zr62_1, zr1_8, zr1_9, zr1_10, zr1_15, zr68_2, zr68_3, zr68_4, zr68_5, zr68_7, zr68_8, zr68_9, zr68_12, zr68_13, zr68_14, zr68_22, zr68_23, zr68_24, zr68_26, zr68_35, zr68_36, zr68_37, zr68_38, zr68_39, zr68_40, zr68_41, zr68_42, hA, p0, c, w])
  obtain ⟨y, e, rfl⟩ := this
  exact e
theorem f_thingAt {A : Int → Int} {σ : mS} {p : Int} (hB : zB σ) (hA : σ.1 70 = A) (hn : 0 ≤ A 184 ∧ A 184 ≤ 8) : wpo (M_Mo_thingAt 68 p σ) (fun q => q = (ztA A p, σ)) := by
  unfold M_Mo_thingAt M_Mo_thingAt_2
  have key := loopS (f := fun s : Int × mS => B_Mo_thingAt_2 68 p s.1 s.2) (fun k => ((k : Int), σ)) (fun k => decide (A (128 + (k : Int)) = p)) (A 184).toNat (fun k => ((k : Int), σ)) (-1, σ) (by omega) ?_ ?_
  · refine wpo_mono key ?_
    intro q hq
    rw [oel] at hq
    rw [hq]
    congr 1
    cases e : zsr (fun k => decide (A (128 + (k : Int)) = p)) (A 184).toNat with
    | none =>
      symm
      refine ztA_eq_none ?_
      intro u u0 u1 eu
      have : zsr (fun k => decide (A (128 + (k : Int)) = p)) (A 184).toNat ≠ none := by
        intro _
        have hx : ∀ m, m < (A 184).toNat → decide (A (128 + (m : Int)) = p) = false := by
          intro m
          induction m using Nat.strongRecOn with
          | _ m ih =>
            intro hm
            cases em : decide (A (128 + (m : Int)) = p) with
            | false => rfl
            | true => rw [zsr_hit (P := fun k : Nat => decide (A (128 + (k : Int)) = p)) em (fun j hj => ih j hj (by omega)) hm] at e; cases e
        have := hx u.toNat (by omega)
        rw [Int.toNat_of_nonneg u0, decide_eq_false_iff_not] at this
        exact this eu
      exact this e
    | some k =>
      have h := zsr_some e
      rcases ztAN_spec A p (A 184).toNat with ⟨_, g⟩ | ⟨u, hu, eu, g1, g2⟩
      · have := of_decide_eq_true h.1
        exact absurd this (g k h.2.1)
      · show (k : Int) = ztAN A p (A 184).toNat
        rw [eu]
        by_cases c : k < u
        · exact absurd (of_decide_eq_true h.1) (g2 k c)
        · by_cases c2 : u < k
          · have := h.2.2 u c2
            rw [decide_eq_false_iff_not] at this
            exact absurd g1 this
          · omega
  · intro k hk hp
    have c0 : (k : Int) < A 184 := by omega
    have w : w32 (128 + (k : Int)) = 128 + (k : Int) := w32_in (by omega) (by omega)
    have w2 : w32 ((k : Int) + 1) = ((k + 1 : Nat) : Int) := by rw [w32_in (by omega) (by omega)]; omega
    have c1 : 0 ≤ 128 + (k : Int) := by omega
    have c2 : 128 + (k : Int) < 4994 := by omega
    show wpo (B_Mo_thingAt_2 68 p k σ) _
    unfold B_Mo_thingAt_2
    by_cases d : A (128 + (k : Int)) = p
    · (try simp (disch := first | assumption | omega) only [wpo_bind, wpo_some, wpo_gf, wpo_gk, wpo_ld, wpo_pf, wpo_pz, wpo_sd, wpo_sr, wpo_ln, wpo_idv, wpo_irm, wpo_lrm, wpo_ldv, wpo_cpy, mlet, mnar_int, mup_same, mup_cell, mup_slot, ite_true, ite_false, true_and, and_true, eq_self, or_true, true_or, and_self, Int.reduceLT, Int.reduceLE, Int.reduceEq, Int.reduceNe, Int.reduceAdd, Int.reduceSub, Int.reduceMul, Int.reduceNeg, ne_eq, not_false_eq_true, not_true_eq_false, false_or, or_false, zor_inl, zor_inr, Bool.false_eq_true, false_and, and_false, zk1, zk2, zk3, zk4, zk5, zk6, zk7, zk8, zk9, zk10, zk11, zk12, zk13, zk14, zk15, zk16, zk17, zk18, zk19, zk20, zk21, zk22, zk23, zk24, zk25, zk26, zk27, zk28, zk29, zk30, zk31, zk32, zk33, zk34, zk35, zk36, zk37, zk38, zk39, zk40, zk41, zk42, zk43, zk44, zk45, zk46, zk47, zk48, zk49, zk50, zk51, zk52, zk53, zk54, zk55, zk56, zk57, zk58, zk59, zk60, zk61, zk62, zk63, zk64, zk65, zk66, zk67, zk68, zk69, zk70, zk71, zk72, zk73, zk74, zk75, zk76, zk77, zk78, zk79, zk80, zk81, zk82, zk83, zk84, zk85, zk86, zk87, zk88, zk89, zk90, zr2_0, zr2_1, zr2_2, zr2_3, zr2_4, zr2_6, zr2_7, zr2_10, zr2_11, zr2_12, zr1_0, zr1_1, zr14_0, zr14_1, zr14_2, zr14_3, zr14_4, zr14_6, zr14_7, zr14_10, zr14_11, zr14_12, zr13_0, zr25_0, zr25_1, zr25_2, zr25_3, zr25_4, zr25_6, zr25_7, zr25_10, zr25_11, zr25_12, zr13_1, zr1_2, zr37_0, zr1_3, zr39_0, zr39_1, zr39_2, zr39_5, zr39_7, zr39_8, zr1_4, zr46_1, zr46_2, zr46_3, zr46_4, zr46_0, zr1_5, zr51_2, zr51_10, zr51_0, zr51_1, zr54_1, zr54_2, zr54_3, zr1_6, zr58_1, zr58_2, zr58_3, zr58_0, zr1_7, zr62_2, zr62_3, zr62_0, zr62_1, zr1_8, zr1_9, zr1_10, zr1_15, zr68_2, zr68_3, zr68_4, zr68_5, zr68_7, zr68_8, zr68_9, zr68_12, zr68_13, zr68_14, zr68_22, zr68_23, zr68_24, zr68_26, zr68_35, zr68_36, zr68_37, zr68_38, zr68_39, zr68_40, zr68_41, zr68_42, hA, c0, c1, c2, w, d, decide_true])
    · (try simp (disch := first | assumption | omega) only [wpo_bind, wpo_some, wpo_gf, wpo_gk, wpo_ld, wpo_pf, wpo_pz, wpo_sd, wpo_sr, wpo_ln, wpo_idv, wpo_irm, wpo_lrm, wpo_ldv, wpo_cpy, mlet, mnar_int, mup_same, mup_cell, mup_slot, ite_true, ite_false, true_and, and_true, eq_self, or_true, true_or, and_self, Int.reduceLT, Int.reduceLE, Int.reduceEq, Int.reduceNe, Int.reduceAdd, Int.reduceSub, Int.reduceMul, Int.reduceNeg, ne_eq, not_false_eq_true, not_true_eq_false, false_or, or_false, zor_inl, zor_inr, Bool.false_eq_true, false_and, and_false, zk1, zk2, zk3, zk4, zk5, zk6, zk7, zk8, zk9, zk10, zk11, zk12, zk13, zk14, zk15, zk16, zk17, zk18, zk19, zk20, zk21, zk22, zk23, zk24, zk25, zk26, zk27, zk28, zk29, zk30, zk31, zk32, zk33, zk34, zk35, zk36, zk37, zk38, zk39, zk40, zk41, zk42, zk43, zk44, zk45, zk46, zk47, zk48, zk49, zk50, zk51, zk52, zk53, zk54, zk55, zk56, zk57, zk58, zk59, zk60, zk61, zk62, zk63, zk64, zk65, zk66, zk67, zk68, zk69, zk70, zk71, zk72, zk73, zk74, zk75, zk76, zk77, zk78, zk79, zk80, zk81, zk82, zk83, zk84, zk85, zk86, zk87, zk88, zk89, zk90, zr2_0, zr2_1, zr2_2, zr2_3, zr2_4, zr2_6, zr2_7, zr2_10, zr2_11, zr2_12, zr1_0, zr1_1, zr14_0, zr14_1, zr14_2, zr14_3, zr14_4, zr14_6, zr14_7, zr14_10, zr14_11, zr14_12, zr13_0, zr25_0, zr25_1, zr25_2, zr25_3, zr25_4, zr25_6, zr25_7, zr25_10, zr25_11, zr25_12, zr13_1, zr1_2, zr37_0, zr1_3, zr39_0, zr39_1, zr39_2, zr39_5, zr39_7, zr39_8, zr1_4, zr46_1, zr46_2, zr46_3, zr46_4, zr46_0, zr1_5, zr51_2, zr51_10, zr51_0, zr51_1, zr54_1, zr54_2, zr54_3, zr1_6, zr58_1, zr58_2, zr58_3, zr58_0, zr1_7, zr62_2, zr62_3, zr62_0, zr62_1, zr1_8, zr1_9, zr1_10, zr1_15, zr68_2, zr68_3, zr68_4, zr68_5, zr68_7, zr68_8, zr68_9, zr68_12, zr68_13, zr68_14, zr68_22, zr68_23, zr68_24, zr68_26, zr68_35, zr68_36, zr68_37, zr68_38, zr68_39, zr68_40, zr68_41, zr68_42, hA, c0, c1, c2, w, w2, d, decide_false])
  · intro _
    have c0 : ¬ ((A 184).toNat : Int) < A 184 := by omega
    show wpo (B_Mo_thingAt_2 68 p ((A 184).toNat : Int) σ) _
    unfold B_Mo_thingAt_2
    (try simp (disch := first | assumption | omega) only [wpo_bind, wpo_some, wpo_gf, wpo_gk, wpo_ld, wpo_pf, wpo_pz, wpo_sd, wpo_sr, wpo_ln, wpo_idv, wpo_irm, wpo_lrm, wpo_ldv, wpo_cpy, mlet, mnar_int, mup_same, mup_cell, mup_slot, ite_true, ite_false, true_and, and_true, eq_self, or_true, true_or, and_self, Int.reduceLT, Int.reduceLE, Int.reduceEq, Int.reduceNe, Int.reduceAdd, Int.reduceSub, Int.reduceMul, Int.reduceNeg, ne_eq, not_false_eq_true, not_true_eq_false, false_or, or_false, zor_inl, zor_inr, Bool.false_eq_true, false_and, and_false, zk1, zk2, zk3, zk4, zk5, zk6, zk7, zk8, zk9, zk10, zk11, zk12, zk13, zk14, zk15, zk16, zk17, zk18, zk19, zk20, zk21, zk22, zk23, zk24, zk25, zk26, zk27, zk28, zk29, zk30, zk31, zk32, zk33, zk34, zk35, zk36, zk37, zk38, zk39, zk40, zk41, zk42, zk43, zk44, zk45, zk46, zk47, zk48, zk49, zk50, zk51, zk52, zk53, zk54, zk55, zk56, zk57, zk58, zk59, zk60, zk61, zk62, zk63, zk64, zk65, zk66, zk67, zk68, zk69, zk70, zk71, zk72, zk73, zk74, zk75, zk76, zk77, zk78, zk79, zk80, zk81, zk82, zk83, zk84, zk85, zk86, zk87, zk88, zk89, zk90, zr2_0, zr2_1, zr2_2, zr2_3, zr2_4, zr2_6, zr2_7, zr2_10, zr2_11, zr2_12, zr1_0, zr1_1, zr14_0, zr14_1, zr14_2, zr14_3, zr14_4, zr14_6, zr14_7, zr14_10, zr14_11, zr14_12, zr13_0, zr25_0, zr25_1, zr25_2, zr25_3, zr25_4, zr25_6, zr25_7, zr25_10, zr25_11, zr25_12, zr13_1, zr1_2, zr37_0, zr1_3, zr39_0, zr39_1, zr39_2, zr39_5, zr39_7, zr39_8, zr1_4, zr46_1, zr46_2, zr46_3, zr46_4, zr46_0, zr1_5, zr51_2, zr51_10, zr51_0, zr51_1, zr54_1, zr54_2, zr54_3, zr1_6, zr58_1, zr58_2, zr58_3, zr58_0, zr1_7, zr62_2, zr62_3, zr62_0, zr62_1, zr1_8, zr1_9, zr1_10, zr1_15, zr68_2, zr68_3, zr68_4, zr68_5, zr68_7, zr68_8, zr68_9, zr68_12, zr68_13, zr68_14, zr68_22, zr68_23, zr68_24, zr68_26, zr68_35, zr68_36, zr68_37, zr68_38, zr68_39, zr68_40, zr68_41, zr68_42, hA, c0])
/-- what a question leaves of the reference -/
def zKm (σ σ' : mS) : Prop := σ'.2 = σ.2 ∧ zB σ' ∧ (∀ r, r ≤ 67 ∨ 69 ≤ r ∧ r ≤ 78 ∨ 89 ≤ r → σ'.1 r = σ.1 r) ∧ (∀ i, i ≤ 18 ∨ i = 22 ∨ i = 23 ∨ i = 24 ∨ i = 26 ∨ 35 ≤ i → σ'.1 68 i = σ.1 68 i)
theorem zKm.rfl' {σ : mS} (h : zB σ) : zKm σ σ := ⟨rfl, h, fun _ _ => rfl, fun _ _ => rfl⟩
theorem zKm.trans {σ σ' σ'' : mS} (h : zKm σ σ') (h' : zKm σ' σ'') : zKm σ σ'' := ⟨h'.1.trans h.1, h'.2.1, fun r x => (h'.2.2.1 r x).trans (h.2.2.1 r x), fun i x => (h'.2.2.2 i x).trans (h.2.2.2 i x)⟩
/-- a law of the reference tells what it should -/
def zML (D : Int → (Int → Int) → Int) (A : Int → Int) : Prop := ∀ σ : mS, zB σ → σ.1 70 = A → ∀ p i hr, 0 ≤ p → p < 64 → 0 ≤ i → i < 32 → 0 ≤ hr → hr < 24 → wpo (M_Mo_warmthOf 68 p i hr σ) (fun q => q.1 = zWd D A hr p i ∧ q.2.2 = σ.2 ∧ zB q.2 ∧ (∀ r, r ≠ 68 → r ≠ 79 → q.2.1 r = σ.1 r) ∧ ∀ j, j ≠ 19 → j ≠ 20 → j ≠ 21 → q.2.1 68 j = σ.1 68 j)
/-- what it keeps of warmth is right where its version says so -/
def zMC (D : Int → (Int → Int) → Int) (A : Int → Int) (σ : mS) : Prop := (0 ≤ σ.1 68 1 ∧ σ.1 68 1 ≤ 100000) ∧ (σ.1 68 25 = 0 ∨ (σ.1 68 25 = 1 ∧ ∀ s, 0 ≤ s → s < 24 → σ.1 81 s ≤ σ.1 68 1 ∧ (σ.1 81 s = σ.1 68 1 → ∀ p i, 0 ≤ p → p < 64 → 0 ≤ i → i < 32 → σ.1 80 ((64 * s + p) * 32 + i) = zWd D A s p i)))
def zMQ (D : Int → (Int → Int) → Int) (A : Int → Int) (σ : mS) : Prop := zB σ ∧ zWF A ∧ (∀ s p i, -50 ≤ zWd D A s p i ∧ zWd D A s p i ≤ 99) ∧ σ.1 70 = A ∧ zML D A ∧ zMC D A σ
end
