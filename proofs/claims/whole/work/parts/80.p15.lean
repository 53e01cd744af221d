/-! PLAIN TESTS of the reference's reader -/
theorem r_takesE {K V S : Nat → Int} {N a p : Nat} (c e : Int) {σ : mS} (hN : N ≤ 400) (hY : zTy K S N) (h : zMp K V S N a p σ) (hc : 0 ≤ c ∧ c < 256) (he : e = 100 + c) : M_Mo_takes0 68 e σ = if K a = c then some (1, (mup σ.1 68 16 ((a + 1 : Nat) : Int), σ.2)) else some (0, σ) := by
  rw [he]; exact r_takesS hN hY h hc
theorem r_mustE {K V S : Nat → Int} {N a p : Nat} (c e : Int) {σ : mS} (hN : N ≤ 400) (hY : zTy K S N) (h : zMp K V S N a p σ) (hc : 0 ≤ c ∧ c < 256) (he : e = 100 + c) : M_Mo_must 68 e σ = if K a = c then some (0, (mup σ.1 68 16 ((a + 1 : Nat) : Int), σ.2)) else some (0, (mup σ.1 68 18 (S a), σ.2)) := by
  rw [he]; exact r_mustS hN hY h hc
/-- the second sum of a comparison -/
theorem r_cmp2 {K V S : Nat → Int} {N : Nat} (hY : zTy K S N) {sm : Nat → Nat → zRe} (hs : zSub N zDb sm) {dep : Int} (hG : zMs K V S N (R_Mo_readSum mD 92 [(3, 68), (1, dep)]) sm) {a p : Nat} {σ0 σ1 : mS} {b p' : Nat} (hb : b = (sm a p).2.1 + 1) (hp : p' = (sm a p).2.2.1) (e1 : (sm a p).1 = 1) (ck : K (sm a p).2.1 = 60 ∨ K (sm a p).2.1 = 62 ∨ K (sm a p).2.1 = 61) (hm : zMp K V S N b p' σ1) (f : zFt σ0 σ1) : wpo (R_Mo_readSum mD 92 [(3, 68), (1, dep)] σ1) (fun q => zMo S (zCmp K sm a p) σ0 (0, q.2)) := by
  refine wpo_mono (hG.1 b p' σ1 hm) ?_
  intro q ⟨q1, q2⟩
  unfold zCmp
  rw [if_pos e1, if_pos ck, ← hb, ← hp]
  rcases q2 with ⟨r1, r2⟩ | ⟨r1, r2⟩
  · rw [if_pos r1]
    exact ⟨f.trans q1, Or.inl ⟨rfl, r2⟩⟩
  · rw [if_neg (by omega)]
    exact ⟨f.trans q1, Or.inr ⟨r1, r2⟩⟩
set_option maxHeartbeats 4000000 in
theorem r_exit {K V S : Nat → Int} {N : Nat} (hT : zTx K V N) (hY : zTy K S N) {sm : Nat → Nat → zRe} (hs : zSub N zDb sm) {G : Nat → List mV → mS → Option (Int × mS)} {dep : Int} (hG : zMs K V S N (R_Mo_readSum mD 92 [(3, 68), (1, dep)]) sm) {a p : Nat} {σ : mS} (hP : zMp K V S N a p σ) (hk : K a ≠ 40) : wpo (B_Mo_readPlain_2 G 68 dep 0 σ) (fun z => ∃ q : Int × mS, z = Sum.inr q ∧ zMo S (zCmp K sm a p) σ q) := by
  have N4 := hT.1
  have hP0 := hP
  obtain ⟨h1, h2, h3, h4, h5, h6⟩ := hP
  have hB := h1.1
  have ky := hY.1 a h5
  have fi := r_fine1 hB h4
  have c0 : 0 ≤ (a : Int) := by omega
  have c1 : (a : Int) < 401 := by omega
  have k := (h1.2.2 a h5).1
  have nk : ¬ zphi (K a) = 140 := fun e => hk ((phi_sign (c := 40) ⟨ky.1, ky.2.1⟩ (by decide)).mp e)
  have n10 : ¬ (1 : Int) = 0 := by decide
  have s2 : w32 140 = 140 := by decide
  have s60 : w32 160 = 160 := by decide
  have s62 : w32 162 = 162 := by decide
  have s61 : w32 161 = 161 := by decide
  unfold B_Mo_readPlain_2 M_Mo_sign
  generalize hQ : (fun z : (Int × mS) ⊕ (Int × mS) => ∃ q : Int × mS, z = Sum.inr q ∧ zMo S (zCmp K sm a p) σ q) = Q
  simp (maxSteps := 5000000) (disch := first | assumption | omega) only [wpo_bind, wpo_some, wpo_gf, wpo_gk, wpo_ld, wpo_pf, wpo_pz, wpo_sd, wpo_sr, wpo_ln, wpo_idv, wpo_irm, wpo_lrm, wpo_ldv, wpo_cpy, mlet, mnar_int, mup_same, mup_cell, mup_slot, ite_true, ite_false, true_and, and_true, eq_self, or_true, true_or, and_self, Int.reduceLT, Int.reduceLE, Int.reduceEq, Int.reduceNe, Int.reduceAdd, Int.reduceSub, Int.reduceMul, Int.reduceNeg, ne_eq, not_false_eq_true, not_true_eq_false, false_or, or_false, zor_inl, zor_inr, Bool.false_eq_true, false_and, and_false, zk1, zk2, zk3, zk4, zk5, zk6, zk7, zk8, zk9, zk10, zk11, zk12, zk13, zk14, zk15, zk16, zk17, zk18, zk19, zk20, zk21, zk22, zk23, zk24, zk25, zk26, zk27, zk28, zk29, zk30, zk31, zk32, zk33, zk34, zk35, zk36, zk37, zk38, zk39, zk40, zk41, zk42, zk43, zk44, zk45, zk46, zk47, zk48, zk49, zk50, zk51, zk52, zk53, zk54, zk55, zk56, zk57, zk58, zk59, zk60, zk61, zk62, zk63, zk64, zk65, zk66, zk67, zk68, zk69, zk70, zk71, zk72, zk73, zk74, zk75, zk76, zk77, zk78, zk79, zk80, zk81, zk82, zk83, zk84, zk85, zk86, zk87, zk88, zk89, zk90, zr2_0, zr2_1, zr2_2, zr2_3, zr2_4, zr2_6, zr2_7, zr2_10, zr2_11, zr2_12, zr1_0, zr1_1, zr14_0, zr14_1, zr14_2, zr14_3, zr14_4, zr14_6, zr14_7, zr14_10, zr14_11, zr14_12, zr13_0, zr25_0, zr25_1, zr25_2, zr25_3, zr25_4, zr25_6, zr25_7, zr25_10, zr25_11, zr25_12, zr13_1, zr1_2, zr37_0, zr1_3, zr39_0, zr39_1, zr39_2, zr39_5, zr39_7, zr39_8, zr1_4, zr46_1, zr46_2, zr46_3, zr46_4, zr46_0, zr1_5, zr51_2, zr51_10, zr51_0, zr51_1, zr54_1, zr54_2, zr54_3, zr1_6, zr58_1, zr58_2, zr58_3, zr58_0, zr1_7, zr62_2, zr62_3, zr62_0, zr62_1, zr1_8, zr1_9, zr1_10, zr1_15, zr68_2, zr68_3, zr68_4, zr68_5, zr68_7, zr68_8, zr68_9, zr68_12, zr68_13, zr68_14, zr68_22, zr68_23, zr68_24, zr68_26, zr68_35, zr68_36, zr68_37, zr68_38, zr68_39, zr68_40, zr68_41, zr68_42, fi, n10, h2, c0, c1, k]
  rw [s2, if_neg nk]
  simp (maxSteps := 5000000) (disch := first | assumption | omega) only [wpo_bind, wpo_some, wpo_gf, wpo_gk, wpo_ld, wpo_pf, wpo_pz, wpo_sd, wpo_sr, wpo_ln, wpo_idv, wpo_irm, wpo_lrm, wpo_ldv, wpo_cpy, mlet, mnar_int, mup_same, mup_cell, mup_slot, ite_true, ite_false, true_and, and_true, eq_self, or_true, true_or, and_self, Int.reduceLT, Int.reduceLE, Int.reduceEq, Int.reduceNe, Int.reduceAdd, Int.reduceSub, Int.reduceMul, Int.reduceNeg, ne_eq, not_false_eq_true, not_true_eq_false, false_or, or_false, zor_inl, zor_inr, Bool.false_eq_true, false_and, and_false, zk1, zk2, zk3, zk4, zk5, zk6, zk7, zk8, zk9, zk10, zk11, zk12, zk13, zk14, zk15, zk16, zk17, zk18, zk19, zk20, zk21, zk22, zk23, zk24, zk25, zk26, zk27, zk28, zk29, zk30, zk31, zk32, zk33, zk34, zk35, zk36, zk37, zk38, zk39, zk40, zk41, zk42, zk43, zk44, zk45, zk46, zk47, zk48, zk49, zk50, zk51, zk52, zk53, zk54, zk55, zk56, zk57, zk58, zk59, zk60, zk61, zk62, zk63, zk64, zk65, zk66, zk67, zk68, zk69, zk70, zk71, zk72, zk73, zk74, zk75, zk76, zk77, zk78, zk79, zk80, zk81, zk82, zk83, zk84, zk85, zk86, zk87, zk88, zk89, zk90, zr2_0, zr2_1, zr2_2, zr2_3, zr2_4, zr2_6, zr2_7, zr2_10, zr2_11, zr2_12, zr1_0, zr1_1, zr14_0, zr14_1, zr14_2, zr14_3, zr14_4, zr14_6, zr14_7, zr14_10, zr14_11, zr14_12, zr13_0, zr25_0, zr25_1, zr25_2, zr25_3, zr25_4, zr25_6, zr25_7, zr25_10, zr25_11, zr25_12, zr13_1, zr1_2, zr37_0, zr1_3, zr39_0, zr39_1, zr39_2, zr39_5, zr39_7, zr39_8, zr1_4, zr46_1, zr46_2, zr46_3, zr46_4, zr46_0, zr1_5, zr51_2, zr51_10, zr51_0, zr51_1, zr54_1, zr54_2, zr54_3, zr1_6, zr58_1, zr58_2, zr58_3, zr58_0, zr1_7, zr62_2, zr62_3, zr62_0, zr62_1, zr1_8, zr1_9, zr1_10, zr1_15, zr68_2, zr68_3, zr68_4, zr68_5, zr68_7, zr68_8, zr68_9, zr68_12, zr68_13, zr68_14, zr68_22, zr68_23, zr68_24, zr68_26, zr68_35, zr68_36, zr68_37, zr68_38, zr68_39, zr68_40, zr68_41, zr68_42]
  refine wpo_mono (hG.1 a p σ hP0) ?_
  intro q ⟨q1, q2⟩
  have hBq := q1.2.1
  have fin : ∀ σ1 : mS, zMo S (zCmp K sm a p) σ (0, σ1) → Q (Sum.inr (0, σ1)) := by intro σ1 h; rw [← hQ]; exact ⟨_, rfl, h⟩
  rw [s60, s62, s61]
  rcases hs a p h5 h6 with ⟨k1, k2, k3, k4, k5, k6⟩ | ⟨k1, k2, k3⟩
  · rcases q2 with ⟨r1, r2⟩ | ⟨r1, _⟩
    · have mp := zMp_of h1 q1 r2 k3 k5
      have t60 := r_takesE 60 160 N4 hY mp (by decide) (by decide)
      have t62 := r_takesE 62 162 N4 hY mp (by decide) (by decide)
      have t61 := r_mustE 61 161 N4 hY mp (by decide) (by decide)
      by_cases ck : K (sm a p).2.1 = 60 ∨ K (sm a p).2.1 = 62 ∨ K (sm a p).2.1 = 61
      · have ne : (sm a p).2.1 ≠ N := by intro e; rw [e, hT.2.1] at ck; omega
        obtain ⟨tf, tp⟩ := zMp_tok mp (by omega)
        have hB1 := tp.1.1
        have c2 := r_cmp2 hY hs hG rfl rfl r1 ck tp (q1.trans tf)
        rcases ck with ck | ck | ck
        · rw [if_pos ck] at t60
          simp (maxSteps := 5000000) (disch := first | assumption | omega) only [wpo_bind, wpo_some, wpo_gf, wpo_gk, wpo_ld, wpo_pf, wpo_pz, wpo_sd, wpo_sr, wpo_ln, wpo_idv, wpo_irm, wpo_lrm, wpo_ldv, wpo_cpy, mlet, mnar_int, mup_same, mup_cell, mup_slot, ite_true, ite_false, true_and, and_true, eq_self, or_true, true_or, and_self, Int.reduceLT, Int.reduceLE, Int.reduceEq, Int.reduceNe, Int.reduceAdd, Int.reduceSub, Int.reduceMul, Int.reduceNeg, ne_eq, not_false_eq_true, not_true_eq_false, false_or, or_false, zor_inl, zor_inr, Bool.false_eq_true, false_and, and_false, zk1, zk2, zk3, zk4, zk5, zk6, zk7, zk8, zk9, zk10, zk11, zk12, zk13, zk14, zk15, zk16, zk17, zk18, zk19, zk20, zk21, zk22, zk23, zk24, zk25, zk26, zk27, zk28, zk29, zk30, zk31, zk32, zk33, zk34, zk35, zk36, zk37, zk38, zk39, zk40, zk41, zk42, zk43, zk44, zk45, zk46, zk47, zk48, zk49, zk50, zk51, zk52, zk53, zk54, zk55, zk56, zk57, zk58, zk59, zk60, zk61, zk62, zk63, zk64, zk65, zk66, zk67, zk68, zk69, zk70, zk71, zk72, zk73, zk74, zk75, zk76, zk77, zk78, zk79, zk80, zk81, zk82, zk83, zk84, zk85, zk86, zk87, zk88, zk89, zk90, zr2_0, zr2_1, zr2_2, zr2_3, zr2_4, zr2_6, zr2_7, zr2_10, zr2_11, zr2_12, zr1_0, zr1_1, zr14_0, zr14_1, zr14_2, zr14_3, zr14_4, zr14_6, zr14_7, zr14_10, zr14_11, zr14_12, zr13_0, zr25_0, zr25_1, zr25_2, zr25_3, zr25_4, zr25_6, zr25_7, zr25_10, zr25_11, zr25_12, zr13_1, zr1_2, zr37_0, zr1_3, zr39_0, zr39_1, zr39_2, zr39_5, zr39_7, zr39_8, zr1_4, zr46_1, zr46_2, zr46_3, zr46_4, zr46_0, zr1_5, zr51_2, zr51_10, zr51_0, zr51_1, zr54_1, zr54_2, zr54_3, zr1_6, zr58_1, zr58_2, zr58_3, zr58_0, zr1_7, zr62_2, zr62_3, zr62_0, zr62_1, zr1_8, zr1_9, zr1_10, zr1_15, zr68_2, zr68_3, zr68_4, zr68_5, zr68_7, zr68_8, zr68_9, zr68_12, zr68_13, zr68_14, zr68_22, zr68_23, zr68_24, zr68_26, zr68_35, zr68_36, zr68_37, zr68_38, zr68_39, zr68_40, zr68_41, zr68_42, t60, n10]
          exact wpo_mono c2 (fun z hz => fin _ hz)
        · rw [if_neg (by omega)] at t60
          rw [if_pos ck] at t62
          simp (maxSteps := 5000000) (disch := first | assumption | omega) only [wpo_bind, wpo_some, wpo_gf, wpo_gk, wpo_ld, wpo_pf, wpo_pz, wpo_sd, wpo_sr, wpo_ln, wpo_idv, wpo_irm, wpo_lrm, wpo_ldv, wpo_cpy, mlet, mnar_int, mup_same, mup_cell, mup_slot, ite_true, ite_false, true_and, and_true, eq_self, or_true, true_or, and_self, Int.reduceLT, Int.reduceLE, Int.reduceEq, Int.reduceNe, Int.reduceAdd, Int.reduceSub, Int.reduceMul, Int.reduceNeg, ne_eq, not_false_eq_true, not_true_eq_false, false_or, or_false, zor_inl, zor_inr, Bool.false_eq_true, false_and, and_false, zk1, zk2, zk3, zk4, zk5, zk6, zk7, zk8, zk9, zk10, zk11, zk12, zk13, zk14, zk15, zk16, zk17, zk18, zk19, zk20, zk21, zk22, zk23, zk24, zk25, zk26, zk27, zk28, zk29, zk30, zk31, zk32, zk33, zk34, zk35, zk36, zk37, zk38, zk39, zk40, zk41, zk42, zk43, zk44, zk45, zk46, zk47, zk48, zk49, zk50, zk51, zk52, zk53, zk54, zk55, zk56, zk57, zk58, zk59, zk60, zk61, zk62, zk63, zk64, zk65, zk66, zk67, zk68, zk69, zk70, zk71, zk72, zk73, zk74, zk75, zk76, zk77, zk78, zk79, zk80, zk81, zk82, zk83, zk84, zk85, zk86, zk87, zk88, zk89, zk90, zr2_0, zr2_1, zr2_2, zr2_3, zr2_4, zr2_6, zr2_7, zr2_10, zr2_11, zr2_12, zr1_0, zr1_1, zr14_0, zr14_1, zr14_2, zr14_3, zr14_4, zr14_6, zr14_7, zr14_10, zr14_11, zr14_12, zr13_0, zr25_0, zr25_1, zr25_2, zr25_3, zr25_4, zr25_6, zr25_7, zr25_10, zr25_11, zr25_12, zr13_1, zr1_2, zr37_0, zr1_3, zr39_0, zr39_1, zr39_2, zr39_5, zr39_7, zr39_8, zr1_4, zr46_1, zr46_2, zr46_3, zr46_4, zr46_0, zr1_5, zr51_2, zr51_10, zr51_0, zr51_1, zr54_1, zr54_2, zr54_3, zr1_6, zr58_1, zr58_2, zr58_3, zr58_0, zr1_7, zr62_2, zr62_3, zr62_0, zr62_1, zr1_8, zr1_9, zr1_10, zr1_15, zr68_2, zr68_3, zr68_4, zr68_5, zr68_7, zr68_8, zr68_9, zr68_12, zr68_13, zr68_14, zr68_22, zr68_23, zr68_24, zr68_26, zr68_35, zr68_36, zr68_37, zr68_38, zr68_39, zr68_40, zr68_41, zr68_42, t60, t62, n10]
          exact wpo_mono c2 (fun z hz => fin _ hz)
        · rw [if_neg (by omega)] at t60 t62
          rw [if_pos ck] at t61
          simp (maxSteps := 5000000) (disch := first | assumption | omega) only [wpo_bind, wpo_some, wpo_gf, wpo_gk, wpo_ld, wpo_pf, wpo_pz, wpo_sd, wpo_sr, wpo_ln, wpo_idv, wpo_irm, wpo_lrm, wpo_ldv, wpo_cpy, mlet, mnar_int, mup_same, mup_cell, mup_slot, ite_true, ite_false, true_and, and_true, eq_self, or_true, true_or, and_self, Int.reduceLT, Int.reduceLE, Int.reduceEq, Int.reduceNe, Int.reduceAdd, Int.reduceSub, Int.reduceMul, Int.reduceNeg, ne_eq, not_false_eq_true, not_true_eq_false, false_or, or_false, zor_inl, zor_inr, Bool.false_eq_true, false_and, and_false, zk1, zk2, zk3, zk4, zk5, zk6, zk7, zk8, zk9, zk10, zk11, zk12, zk13, zk14, zk15, zk16, zk17, zk18, zk19, zk20, zk21, zk22, zk23, zk24, zk25, zk26, zk27, zk28, zk29, zk30, zk31, zk32, zk33, zk34, zk35, zk36, zk37, zk38, zk39, zk40, zk41, zk42, zk43, zk44, zk45, zk46, zk47, zk48, zk49, zk50, zk51, zk52, zk53, zk54, zk55, zk56, zk57, zk58, zk59, zk60, zk61, zk62, zk63, zk64, zk65, zk66, zk67, zk68, zk69, zk70, zk71, zk72, zk73, zk74, zk75, zk76, zk77, zk78, zk79, zk80, zk81, zk82, zk83, zk84, zk85, zk86, zk87, zk88, zk89, zk90, zr2_0, zr2_1, zr2_2, zr2_3, zr2_4, zr2_6, zr2_7, zr2_10, zr2_11, zr2_12, zr1_0, zr1_1, zr14_0, zr14_1, zr14_2, zr14_3, zr14_4, zr14_6, zr14_7, zr14_10, zr14_11, zr14_12, zr13_0, zr25_0, zr25_1, zr25_2, zr25_3, zr25_4, zr25_6, zr25_7, zr25_10, zr25_11, zr25_12, zr13_1, zr1_2, zr37_0, zr1_3, zr39_0, zr39_1, zr39_2, zr39_5, zr39_7, zr39_8, zr1_4, zr46_1, zr46_2, zr46_3, zr46_4, zr46_0, zr1_5, zr51_2, zr51_10, zr51_0, zr51_1, zr54_1, zr54_2, zr54_3, zr1_6, zr58_1, zr58_2, zr58_3, zr58_0, zr1_7, zr62_2, zr62_3, zr62_0, zr62_1, zr1_8, zr1_9, zr1_10, zr1_15, zr68_2, zr68_3, zr68_4, zr68_5, zr68_7, zr68_8, zr68_9, zr68_12, zr68_13, zr68_14, zr68_22, zr68_23, zr68_24, zr68_26, zr68_35, zr68_36, zr68_37, zr68_38, zr68_39, zr68_40, zr68_41, zr68_42, t60, t62, t61]
          exact wpo_mono c2 (fun z hz => fin _ hz)
      · rw [if_neg (by omega)] at t60 t62 t61
        have f1 := zFt_68 (i := 18) (v := S (sm a p).2.1) hBq (by decide)
        have hB1 := f1.2.1
        have s0 := (hY.1 (sm a p).2.1 k3).2.2
        have bad : mup q.2.1 68 18 (S (sm a p).2.1) 68 18 ≠ -1 := by rw [mup_same]; omega
        have g2 := hG.2 (mup q.2.1 68 18 (S (sm a p).2.1), q.2.2) hB1 bad
        simp (maxSteps := 5000000) (disch := first | assumption | omega) only [wpo_bind, wpo_some, wpo_gf, wpo_gk, wpo_ld, wpo_pf, wpo_pz, wpo_sd, wpo_sr, wpo_ln, wpo_idv, wpo_irm, wpo_lrm, wpo_ldv, wpo_cpy, mlet, mnar_int, mup_same, mup_cell, mup_slot, ite_true, ite_false, true_and, and_true, eq_self, or_true, true_or, and_self, Int.reduceLT, Int.reduceLE, Int.reduceEq, Int.reduceNe, Int.reduceAdd, Int.reduceSub, Int.reduceMul, Int.reduceNeg, ne_eq, not_false_eq_true, not_true_eq_false, false_or, or_false, zor_inl, zor_inr, Bool.false_eq_true, false_and, and_false, zk1, zk2, zk3, zk4, zk5, zk6, zk7, zk8, zk9, zk10, zk11, zk12, zk13, zk14, zk15, zk16, zk17, zk18, zk19, zk20, zk21, zk22, zk23, zk24, zk25, zk26, zk27, zk28, zk29, zk30, zk31, zk32, zk33, zk34, zk35, zk36, zk37, zk38, zk39, zk40, zk41, zk42, zk43, zk44, zk45, zk46, zk47, zk48, zk49, zk50, zk51, zk52, zk53, zk54, zk55, zk56, zk57, zk58, zk59, zk60, zk61, zk62, zk63, zk64, zk65, zk66, zk67, zk68, zk69, zk70, zk71, zk72, zk73, zk74, zk75, zk76, zk77, zk78, zk79, zk80, zk81, zk82, zk83, zk84, zk85, zk86, zk87, zk88, zk89, zk90, zr2_0, zr2_1, zr2_2, zr2_3, zr2_4, zr2_6, zr2_7, zr2_10, zr2_11, zr2_12, zr1_0, zr1_1, zr14_0, zr14_1, zr14_2, zr14_3, zr14_4, zr14_6, zr14_7, zr14_10, zr14_11, zr14_12, zr13_0, zr25_0, zr25_1, zr25_2, zr25_3, zr25_4, zr25_6, zr25_7, zr25_10, zr25_11, zr25_12, zr13_1, zr1_2, zr37_0, zr1_3, zr39_0, zr39_1, zr39_2, zr39_5, zr39_7, zr39_8, zr1_4, zr46_1, zr46_2, zr46_3, zr46_4, zr46_0, zr1_5, zr51_2, zr51_10, zr51_0, zr51_1, zr54_1, zr54_2, zr54_3, zr1_6, zr58_1, zr58_2, zr58_3, zr58_0, zr1_7, zr62_2, zr62_3, zr62_0, zr62_1, zr1_8, zr1_9, zr1_10, zr1_15, zr68_2, zr68_3, zr68_4, zr68_5, zr68_7, zr68_8, zr68_9, zr68_12, zr68_13, zr68_14, zr68_22, zr68_23, zr68_24, zr68_26, zr68_35, zr68_36, zr68_37, zr68_38, zr68_39, zr68_40, zr68_41, zr68_42, t60, t62, t61]
        refine wpo_mono g2 ?_
        intro z hz
        rw [hz]
        refine fin _ ?_
        unfold zCmp
        rw [if_pos r1, if_neg ck]
        exact ⟨q1.trans f1, Or.inr ⟨rfl, by show mup q.2.1 68 18 (S (sm a p).2.1) 68 18 = _; exact mup_same⟩⟩
    · omega
  · rcases q2 with ⟨r1, _⟩ | ⟨r1, r2⟩
    · omega
    · have s0 := (hY.1 (sm a p).2.1 k3).2.2
      have bad : q.2.1 68 18 ≠ -1 := by omega
      have t60 := r_takes0 (c := 160) hBq bad
      have t62 := r_takes0 (c := 162) hBq bad
      have t61 := r_must0 (c := 161) hBq bad
      have g2 := hG.2 q.2 hBq bad
      simp (maxSteps := 5000000) (disch := first | assumption | omega) only [wpo_bind, wpo_some, wpo_gf, wpo_gk, wpo_ld, wpo_pf, wpo_pz, wpo_sd, wpo_sr, wpo_ln, wpo_idv, wpo_irm, wpo_lrm, wpo_ldv, wpo_cpy, mlet, mnar_int, mup_same, mup_cell, mup_slot, ite_true, ite_false, true_and, and_true, eq_self, or_true, true_or, and_self, Int.reduceLT, Int.reduceLE, Int.reduceEq, Int.reduceNe, Int.reduceAdd, Int.reduceSub, Int.reduceMul, Int.reduceNeg, ne_eq, not_false_eq_true, not_true_eq_false, false_or, or_false, zor_inl, zor_inr, Bool.false_eq_true, false_and, and_false, zk1, zk2, zk3, zk4, zk5, zk6, zk7, zk8, zk9, zk10, zk11, zk12, zk13, zk14, zk15, zk16, zk17, zk18, zk19, zk20, zk21, zk22, zk23, zk24, zk25, zk26, zk27, zk28, zk29, zk30, zk31, zk32, zk33, zk34, zk35, zk36, zk37, zk38, zk39, zk40, zk41, zk42, zk43, zk44, zk45, zk46, zk47, zk48, zk49, zk50, zk51, zk52, zk53, zk54, zk55, zk56, zk57, zk58, zk59, zk60, zk61, zk62, zk63, zk64, zk65, zk66, zk67, zk68, zk69, zk70, zk71, zk72, zk73, zk74, zk75, zk76, zk77, zk78, zk79, zk80, zk81, zk82, zk83, zk84, zk85, zk86, zk87, zk88, zk89, zk90, zr2_0, zr2_1, zr2_2, zr2_3, zr2_4, zr2_6, zr2_7, zr2_10, zr2_11, zr2_12, zr1_0, zr1_1, zr14_0, zr14_1, zr14_2, zr14_3, zr14_4, zr14_6, zr14_7, zr14_10, zr14_11, zr14_12, zr13_0, zr25_0, zr25_1, zr25_2, zr25_3, zr25_4, zr25_6, zr25_7, zr25_10, zr25_11, zr25_12, zr13_1, zr1_2, zr37_0, zr1_3, zr39_0, zr39_1, zr39_2, zr39_5, zr39_7, zr39_8, zr1_4, zr46_1, zr46_2, zr46_3, zr46_4, zr46_0, zr1_5, zr51_2, zr51_10, zr51_0, zr51_1, zr54_1, zr54_2, zr54_3, zr1_6, zr58_1, zr58_2, zr58_3, zr58_0, zr1_7, zr62_2, zr62_3, zr62_0, zr62_1, zr1_8, zr1_9, zr1_10, zr1_15, zr68_2, zr68_3, zr68_4, zr68_5, zr68_7, zr68_8, zr68_9, zr68_12, zr68_13, zr68_14, zr68_22, zr68_23, zr68_24, zr68_26, zr68_35, zr68_36, zr68_37, zr68_38, zr68_39, zr68_40, zr68_41, zr68_42, t60, t62, t61]
      refine wpo_mono g2 ?_
      intro z hz
      rw [hz]
      refine fin _ ?_
      unfold zCmp
      rw [if_neg (by omega)]
      exact ⟨q1, Or.inr ⟨r1, r2⟩⟩
set_option maxHeartbeats 4000000 in
theorem r_exitP {K V S : Nat → Int} {N : Nat} (hT : zTx K V N) (hY : zTy K S N) {g : Nat → Nat → zRe} (hg : zSub N zD1 g) {G : Nat → List mV → mS → Option (Int × mS)} {dep : Int} (hd : 0 ≤ dep ∧ dep < 8) (hG : zMs K V S N (G 89 [(3, 68), (1, dep + 1)]) g) {a p : Nat} {σ : mS} (hP : zMp K V S N a p σ) (hk : K a = 40) : wpo (B_Mo_readPlain_2 G 68 dep 0 σ) (fun z => ∃ q : Int × mS, z = Sum.inr q ∧ zMo S (zBr K 41 g a p) σ q) := by
  have N4 := hT.1
  have hP0 := hP
  obtain ⟨h1, h2, h3, h4, h5, h6⟩ := hP
  have hB := h1.1
  have ne : a ≠ N := by intro e; rw [e, hT.2.1] at hk; omega
  have ky := hY.1 a h5
  have fi := r_fine1 hB h4
  have c0 : 0 ≤ (a : Int) := by omega
  have c1 : (a : Int) < 401 := by omega
  have k := (h1.2.2 a h5).1
  have nk : zphi (K a) = 140 := (phi_sign (c := 40) ⟨ky.1, ky.2.1⟩ (by decide)).mpr hk
  have n10 : ¬ (1 : Int) = 0 := by decide
  have d8 : ¬ dep = 8 := by omega
  have s2 : w32 140 = 140 := by decide
  have wd : ∀ u : Int, u = dep → w32 (u + 1) = dep + 1 := fun u hu => by rw [w32_in (by omega) (by omega)]; omega
  have w : ∀ u : Int, u = (a : Int) → w32 (u + 1) = ((a + 1 : Nat) : Int) := fun u hu => by rw [w32_in (by omega) (by omega)]; omega
  obtain ⟨tf, tp⟩ := zMp_tok hP0 (by omega)
  have hB1 := tp.1.1
  unfold B_Mo_readPlain_2 M_Mo_sign
  generalize hQ : (fun z : (Int × mS) ⊕ (Int × mS) => ∃ q : Int × mS, z = Sum.inr q ∧ zMo S (zBr K 41 g a p) σ q) = Q
  simp (maxSteps := 5000000) (disch := first | assumption | omega) only [wpo_bind, wpo_some, wpo_gf, wpo_gk, wpo_ld, wpo_pf, wpo_pz, wpo_sd, wpo_sr, wpo_ln, wpo_idv, wpo_irm, wpo_lrm, wpo_ldv, wpo_cpy, mlet, mnar_int, mup_same, mup_cell, mup_slot, ite_true, ite_false, true_and, and_true, eq_self, or_true, true_or, and_self, Int.reduceLT, Int.reduceLE, Int.reduceEq, Int.reduceNe, Int.reduceAdd, Int.reduceSub, Int.reduceMul, Int.reduceNeg, ne_eq, not_false_eq_true, not_true_eq_false, false_or, or_false, zor_inl, zor_inr, Bool.false_eq_true, false_and, and_false, zk1, zk2, zk3, zk4, zk5, zk6, zk7, zk8, zk9, zk10, zk11, zk12, zk13, zk14, zk15, zk16, zk17, zk18, zk19, zk20, zk21, zk22, zk23, zk24, zk25, zk26, zk27, zk28, zk29, zk30, zk31, zk32, zk33, zk34, zk35, zk36, zk37, zk38, zk39, zk40, zk41, zk42, zk43, zk44, zk45, zk46, zk47, zk48, zk49, zk50, zk51, zk52, zk53, zk54, zk55, zk56, zk57, zk58, zk59, zk60, zk61, zk62, zk63, zk64, zk65, zk66, zk67, zk68, zk69, zk70, zk71, zk72, zk73, zk74, zk75, zk76, zk77, zk78, zk79, zk80, zk81, zk82, zk83, zk84, zk85, zk86, zk87, zk88, zk89, zk90, zr2_0, zr2_1, zr2_2, zr2_3, zr2_4, zr2_6, zr2_7, zr2_10, zr2_11, zr2_12, zr1_0, zr1_1, zr14_0, zr14_1, zr14_2, zr14_3, zr14_4, zr14_6, zr14_7, zr14_10, zr14_11, zr14_12, zr13_0, zr25_0, zr25_1, zr25_2, zr25_3, zr25_4, zr25_6, zr25_7, zr25_10, zr25_11, zr25_12, zr13_1, zr1_2, zr37_0, zr1_3, zr39_0, zr39_1, zr39_2, zr39_5, zr39_7, zr39_8, zr1_4, zr46_1, zr46_2, zr46_3, zr46_4, zr46_0, zr1_5, zr51_2, zr51_10, zr51_0, zr51_1, zr54_1, zr54_2, zr54_3, zr1_6, zr58_1, zr58_2, zr58_3, zr58_0, zr1_7, zr62_2, zr62_3, zr62_0, zr62_1, zr1_8, zr1_9, zr1_10, zr1_15, zr68_2, zr68_3, zr68_4, zr68_5, zr68_7, zr68_8, zr68_9, zr68_12, zr68_13, zr68_14, zr68_22, zr68_23, zr68_24, zr68_26, zr68_35, zr68_36, zr68_37, zr68_38, zr68_39, zr68_40, zr68_41, zr68_42, fi, n10, h2, c0, c1, k]
  rw [s2, if_pos nk, if_neg d8]
  unfold M_Mo_readPlain_28 M_Mo_sign
  simp (maxSteps := 5000000) (disch := first | assumption | omega) only [wpo_bind, wpo_some, wpo_gf, wpo_gk, wpo_ld, wpo_pf, wpo_pz, wpo_sd, wpo_sr, wpo_ln, wpo_idv, wpo_irm, wpo_lrm, wpo_ldv, wpo_cpy, mlet, mnar_int, mup_same, mup_cell, mup_slot, ite_true, ite_false, true_and, and_true, eq_self, or_true, true_or, and_self, Int.reduceLT, Int.reduceLE, Int.reduceEq, Int.reduceNe, Int.reduceAdd, Int.reduceSub, Int.reduceMul, Int.reduceNeg, ne_eq, not_false_eq_true, not_true_eq_false, false_or, or_false, zor_inl, zor_inr, Bool.false_eq_true, false_and, and_false, zk1, zk2, zk3, zk4, zk5, zk6, zk7, zk8, zk9, zk10, zk11, zk12, zk13, zk14, zk15, zk16, zk17, zk18, zk19, zk20, zk21, zk22, zk23, zk24, zk25, zk26, zk27, zk28, zk29, zk30, zk31, zk32, zk33, zk34, zk35, zk36, zk37, zk38, zk39, zk40, zk41, zk42, zk43, zk44, zk45, zk46, zk47, zk48, zk49, zk50, zk51, zk52, zk53, zk54, zk55, zk56, zk57, zk58, zk59, zk60, zk61, zk62, zk63, zk64, zk65, zk66, zk67, zk68, zk69, zk70, zk71, zk72, zk73, zk74, zk75, zk76, zk77, zk78, zk79, zk80, zk81, zk82, zk83, zk84, zk85, zk86, zk87, zk88, zk89, zk90, zr2_0, zr2_1, zr2_2, zr2_3, zr2_4, zr2_6, zr2_7, zr2_10, zr2_11, zr2_12, zr1_0, zr1_1, zr14_0, zr14_1, zr14_2, zr14_3, zr14_4, zr14_6, zr14_7, zr14_10, zr14_11, zr14_12, zr13_0, zr25_0, zr25_1, zr25_2, zr25_3, zr25_4, zr25_6, zr25_7, zr25_10, zr25_11, zr25_12, zr13_1, zr1_2, zr37_0, zr1_3, zr39_0, zr39_1, zr39_2, zr39_5, zr39_7, zr39_8, zr1_4, zr46_1, zr46_2, zr46_3, zr46_4, zr46_0, zr1_5, zr51_2, zr51_10, zr51_0, zr51_1, zr54_1, zr54_2, zr54_3, zr1_6, zr58_1, zr58_2, zr58_3, zr58_0, zr1_7, zr62_2, zr62_3, zr62_0, zr62_1, zr1_8, zr1_9, zr1_10, zr1_15, zr68_2, zr68_3, zr68_4, zr68_5, zr68_7, zr68_8, zr68_9, zr68_12, zr68_13, zr68_14, zr68_22, zr68_23, zr68_24, zr68_26, zr68_35, zr68_36, zr68_37, zr68_38, zr68_39, zr68_40, zr68_41, zr68_42, fi, n10, h2, w, wd]
  refine wpo_mono (hG.1 (a + 1) p _ tp) ?_
  intro q hq
  have hBq := hq.1.2.1
  have s3 : w32 141 = 100 + 41 := by decide
  rw [s3]
  refine ⟨by rw [zk68 hBq], ?_⟩
  refine wpo_mono (r_close hT hY (by decide) hg (by omega) h6 tp.1 tf hq) ?_
  intro z hz
  rw [← hQ]
  exact ⟨_, rfl, hz.1, hz.2⟩
set_option maxHeartbeats 4000000 in
theorem r_exit8 {K V S : Nat → Int} {N : Nat} (hT : zTx K V N) (hY : zTy K S N) {G : Nat → List mV → mS → Option (Int × mS)} {a p : Nat} {σ : mS} (hP : zMp K V S N a p σ) (hk : K a = 40) : wpo (B_Mo_readPlain_2 G 68 8 0 σ) (fun z => ∃ q : Int × mS, z = Sum.inr q ∧ zMo S (zno a p) σ q) := by
  have N4 := hT.1
  have hP0 := hP
  obtain ⟨h1, h2, h3, h4, h5, h6⟩ := hP
  have hB := h1.1
  have ky := hY.1 a h5
  have fi := r_fine1 hB h4
  have ff := r_faults N4 hP0
  have c0 : 0 ≤ (a : Int) := by omega
  have c1 : (a : Int) < 401 := by omega
  have k := (h1.2.2 a h5).1
  have nk : zphi (K a) = 140 := (phi_sign (c := 40) ⟨ky.1, ky.2.1⟩ (by decide)).mpr hk
  have n10 : ¬ (1 : Int) = 0 := by decide
  have s2 : w32 140 = 140 := by decide
  have po := zMo_fail (S := S) (a := a) (p := p) hB (v := 0)
  have f1 := zFt_68 (i := 18) (v := S a) hB (by decide)
  have hB1 := f1.2.1
  have fi0 := r_fine0 hB1 (by show mup σ.1 68 18 (S a) 68 18 ≠ -1; rw [mup_same]; omega)
  unfold B_Mo_readPlain_2 M_Mo_sign
  generalize hQ : (fun z : (Int × mS) ⊕ (Int × mS) => ∃ q : Int × mS, z = Sum.inr q ∧ zMo S (zno a p) σ q) = Q
  simp (maxSteps := 5000000) (disch := first | assumption | omega) only [wpo_bind, wpo_some, wpo_gf, wpo_gk, wpo_ld, wpo_pf, wpo_pz, wpo_sd, wpo_sr, wpo_ln, wpo_idv, wpo_irm, wpo_lrm, wpo_ldv, wpo_cpy, mlet, mnar_int, mup_same, mup_cell, mup_slot, ite_true, ite_false, true_and, and_true, eq_self, or_true, true_or, and_self, Int.reduceLT, Int.reduceLE, Int.reduceEq, Int.reduceNe, Int.reduceAdd, Int.reduceSub, Int.reduceMul, Int.reduceNeg, ne_eq, not_false_eq_true, not_true_eq_false, false_or, or_false, zor_inl, zor_inr, Bool.false_eq_true, false_and, and_false, zk1, zk2, zk3, zk4, zk5, zk6, zk7, zk8, zk9, zk10, zk11, zk12, zk13, zk14, zk15, zk16, zk17, zk18, zk19, zk20, zk21, zk22, zk23, zk24, zk25, zk26, zk27, zk28, zk29, zk30, zk31, zk32, zk33, zk34, zk35, zk36, zk37, zk38, zk39, zk40, zk41, zk42, zk43, zk44, zk45, zk46, zk47, zk48, zk49, zk50, zk51, zk52, zk53, zk54, zk55, zk56, zk57, zk58, zk59, zk60, zk61, zk62, zk63, zk64, zk65, zk66, zk67, zk68, zk69, zk70, zk71, zk72, zk73, zk74, zk75, zk76, zk77, zk78, zk79, zk80, zk81, zk82, zk83, zk84, zk85, zk86, zk87, zk88, zk89, zk90, zr2_0, zr2_1, zr2_2, zr2_3, zr2_4, zr2_6, zr2_7, zr2_10, zr2_11, zr2_12, zr1_0, zr1_1, zr14_0, zr14_1, zr14_2, zr14_3, zr14_4, zr14_6, zr14_7, zr14_10, zr14_11, zr14_12, zr13_0, zr25_0, zr25_1, zr25_2, zr25_3, zr25_4, zr25_6, zr25_7, zr25_10, zr25_11, zr25_12, zr13_1, zr1_2, zr37_0, zr1_3, zr39_0, zr39_1, zr39_2, zr39_5, zr39_7, zr39_8, zr1_4, zr46_1, zr46_2, zr46_3, zr46_4, zr46_0, zr1_5, zr51_2, zr51_10, zr51_0, zr51_1, zr54_1, zr54_2, zr54_3, zr1_6, zr58_1, zr58_2, zr58_3, zr58_0, zr1_7, zr62_2, zr62_3, zr62_0, zr62_1, zr1_8, zr1_9, zr1_10, zr1_15, zr68_2, zr68_3, zr68_4, zr68_5, zr68_7, zr68_8, zr68_9, zr68_12, zr68_13, zr68_14, zr68_22, zr68_23, zr68_24, zr68_26, zr68_35, zr68_36, zr68_37, zr68_38, zr68_39, zr68_40, zr68_41, zr68_42, fi, n10, h2, c0, c1, k]
  rw [s2, if_pos nk]
  simp (maxSteps := 5000000) (disch := first | assumption | omega) only [wpo_bind, wpo_some, wpo_gf, wpo_gk, wpo_ld, wpo_pf, wpo_pz, wpo_sd, wpo_sr, wpo_ln, wpo_idv, wpo_irm, wpo_lrm, wpo_ldv, wpo_cpy, mlet, mnar_int, mup_same, mup_cell, mup_slot, ite_true, ite_false, true_and, and_true, eq_self, or_true, true_or, and_self, Int.reduceLT, Int.reduceLE, Int.reduceEq, Int.reduceNe, Int.reduceAdd, Int.reduceSub, Int.reduceMul, Int.reduceNeg, ne_eq, not_false_eq_true, not_true_eq_false, false_or, or_false, zor_inl, zor_inr, Bool.false_eq_true, false_and, and_false, zk1, zk2, zk3, zk4, zk5, zk6, zk7, zk8, zk9, zk10, zk11, zk12, zk13, zk14, zk15, zk16, zk17, zk18, zk19, zk20, zk21, zk22, zk23, zk24, zk25, zk26, zk27, zk28, zk29, zk30, zk31, zk32, zk33, zk34, zk35, zk36, zk37, zk38, zk39, zk40, zk41, zk42, zk43, zk44, zk45, zk46, zk47, zk48, zk49, zk50, zk51, zk52, zk53, zk54, zk55, zk56, zk57, zk58, zk59, zk60, zk61, zk62, zk63, zk64, zk65, zk66, zk67, zk68, zk69, zk70, zk71, zk72, zk73, zk74, zk75, zk76, zk77, zk78, zk79, zk80, zk81, zk82, zk83, zk84, zk85, zk86, zk87, zk88, zk89, zk90, zr2_0, zr2_1, zr2_2, zr2_3, zr2_4, zr2_6, zr2_7, zr2_10, zr2_11, zr2_12, zr1_0, zr1_1, zr14_0, zr14_1, zr14_2, zr14_3, zr14_4, zr14_6, zr14_7, zr14_10, zr14_11, zr14_12, zr13_0, zr25_0, zr25_1, zr25_2, zr25_3, zr25_4, zr25_6, zr25_7, zr25_10, zr25_11, zr25_12, zr13_1, zr1_2, zr37_0, zr1_3, zr39_0, zr39_1, zr39_2, zr39_5, zr39_7, zr39_8, zr1_4, zr46_1, zr46_2, zr46_3, zr46_4, zr46_0, zr1_5, zr51_2, zr51_10, zr51_0, zr51_1, zr54_1, zr54_2, zr54_3, zr1_6, zr58_1, zr58_2, zr58_3, zr58_0, zr1_7, zr62_2, zr62_3, zr62_0, zr62_1, zr1_8, zr1_9, zr1_10, zr1_15, zr68_2, zr68_3, zr68_4, zr68_5, zr68_7, zr68_8, zr68_9, zr68_12, zr68_13, zr68_14, zr68_22, zr68_23, zr68_24, zr68_26, zr68_35, zr68_36, zr68_37, zr68_38, zr68_39, zr68_40, zr68_41, zr68_42, ff]
  unfold M_Mo_readPlain_28
  simp (maxSteps := 5000000) (disch := first | assumption | omega) only [wpo_bind, wpo_some, wpo_gf, wpo_gk, wpo_ld, wpo_pf, wpo_pz, wpo_sd, wpo_sr, wpo_ln, wpo_idv, wpo_irm, wpo_lrm, wpo_ldv, wpo_cpy, mlet, mnar_int, mup_same, mup_cell, mup_slot, ite_true, ite_false, true_and, and_true, eq_self, or_true, true_or, and_self, Int.reduceLT, Int.reduceLE, Int.reduceEq, Int.reduceNe, Int.reduceAdd, Int.reduceSub, Int.reduceMul, Int.reduceNeg, ne_eq, not_false_eq_true, not_true_eq_false, false_or, or_false, zor_inl, zor_inr, Bool.false_eq_true, false_and, and_false, zk1, zk2, zk3, zk4, zk5, zk6, zk7, zk8, zk9, zk10, zk11, zk12, zk13, zk14, zk15, zk16, zk17, zk18, zk19, zk20, zk21, zk22, zk23, zk24, zk25, zk26, zk27, zk28, zk29, zk30, zk31, zk32, zk33, zk34, zk35, zk36, zk37, zk38, zk39, zk40, zk41, zk42, zk43, zk44, zk45, zk46, zk47, zk48, zk49, zk50, zk51, zk52, zk53, zk54, zk55, zk56, zk57, zk58, zk59, zk60, zk61, zk62, zk63, zk64, zk65, zk66, zk67, zk68, zk69, zk70, zk71, zk72, zk73, zk74, zk75, zk76, zk77, zk78, zk79, zk80, zk81, zk82, zk83, zk84, zk85, zk86, zk87, zk88, zk89, zk90, zr2_0, zr2_1, zr2_2, zr2_3, zr2_4, zr2_6, zr2_7, zr2_10, zr2_11, zr2_12, zr1_0, zr1_1, zr14_0, zr14_1, zr14_2, zr14_3, zr14_4, zr14_6, zr14_7, zr14_10, zr14_11, zr14_12, zr13_0, zr25_0, zr25_1, zr25_2, zr25_3, zr25_4, zr25_6, zr25_7, zr25_10, zr25_11, zr25_12, zr13_1, zr1_2, zr37_0, zr1_3, zr39_0, zr39_1, zr39_2, zr39_5, zr39_7, zr39_8, zr1_4, zr46_1, zr46_2, zr46_3, zr46_4, zr46_0, zr1_5, zr51_2, zr51_10, zr51_0, zr51_1, zr54_1, zr54_2, zr54_3, zr1_6, zr58_1, zr58_2, zr58_3, zr58_0, zr1_7, zr62_2, zr62_3, zr62_0, zr62_1, zr1_8, zr1_9, zr1_10, zr1_15, zr68_2, zr68_3, zr68_4, zr68_5, zr68_7, zr68_8, zr68_9, zr68_12, zr68_13, zr68_14, zr68_22, zr68_23, zr68_24, zr68_26, zr68_35, zr68_36, zr68_37, zr68_38, zr68_39, zr68_40, zr68_41, zr68_42, fi0]
  rw [← hQ]
  exact ⟨_, rfl, po⟩
/-- a test that has failed before -/
theorem r_plain_bad {G : Nat → List mV → mS → Option (Int × mS)} {dep : Int} {σ : mS} (hB : zB σ) (h : σ.1 68 18 ≠ -1) : wpo (B_Mo_readPlain G 68 dep σ) (fun q => q.2 = σ) := by
  have fi := r_fine0 hB h
  have tt := r_takes0 (c := 5) hB h
  have n10 : ¬ (1 : Int) = 0 := by decide
  have st1 : wpo (B_Mo_readPlain_2 G 68 dep 1 σ) (fun z => z = Sum.inl (0, σ)) := by
    unfold B_Mo_readPlain_2
    simp (maxSteps := 5000000) (disch := first | assumption | omega) only [wpo_bind, wpo_some, wpo_gf, wpo_gk, wpo_ld, wpo_pf, wpo_pz, wpo_sd, wpo_sr, wpo_ln, wpo_idv, wpo_irm, wpo_lrm, wpo_ldv, wpo_cpy, mlet, mnar_int, mup_same, mup_cell, mup_slot, ite_true, ite_false, true_and, and_true, eq_self, or_true, true_or, and_self, Int.reduceLT, Int.reduceLE, Int.reduceEq, Int.reduceNe, Int.reduceAdd, Int.reduceSub, Int.reduceMul, Int.reduceNeg, ne_eq, not_false_eq_true, not_true_eq_false, false_or, or_false, zor_inl, zor_inr, Bool.false_eq_true, false_and, and_false, zk1, zk2, zk3, zk4, zk5, zk6, zk7, zk8, zk9, zk10, zk11, zk12, zk13, zk14, zk15, zk16, zk17, zk18, zk19, zk20, zk21, zk22, zk23, zk24, zk25, zk26, zk27, zk28, zk29, zk30, zk31, zk32, zk33, zk34, zk35, zk36, zk37, zk38, zk39, zk40, zk41, zk42, zk43, zk44, zk45, zk46, zk47, zk48, zk49, zk50, zk51, zk52, zk53, zk54, zk55, zk56, zk57, zk58, zk59, zk60, zk61, zk62, zk63, zk64, zk65, zk66, zk67, zk68, zk69, zk70, zk71, zk72, zk73, zk74, zk75, zk76, zk77, zk78, zk79, zk80, zk81, zk82, zk83, zk84, zk85, zk86, zk87, zk88, zk89, zk90, zr2_0, zr2_1, zr2_2, zr2_3, zr2_4, zr2_6, zr2_7, zr2_10, zr2_11, zr2_12, zr1_0, zr1_1, zr14_0, zr14_1, zr14_2, zr14_3, zr14_4, zr14_6, zr14_7, zr14_10, zr14_11, zr14_12, zr13_0, zr25_0, zr25_1, zr25_2, zr25_3, zr25_4, zr25_6, zr25_7, zr25_10, zr25_11, zr25_12, zr13_1, zr1_2, zr37_0, zr1_3, zr39_0, zr39_1, zr39_2, zr39_5, zr39_7, zr39_8, zr1_4, zr46_1, zr46_2, zr46_3, zr46_4, zr46_0, zr1_5, zr51_2, zr51_10, zr51_0, zr51_1, zr54_1, zr54_2, zr54_3, zr1_6, zr58_1, zr58_2, zr58_3, zr58_0, zr1_7, zr62_2, zr62_3, zr62_0, zr62_1, zr1_8, zr1_9, zr1_10, zr1_15, zr68_2, zr68_3, zr68_4, zr68_5, zr68_7, zr68_8, zr68_9, zr68_12, zr68_13, zr68_14, zr68_22, zr68_23, zr68_24, zr68_26, zr68_35, zr68_36, zr68_37, zr68_38, zr68_39, zr68_40, zr68_41, zr68_42, n10, tt]
  have st2 : wpo (B_Mo_readPlain_2 G 68 dep 0 σ) (fun z => z = Sum.inr (0, σ)) := by
    unfold B_Mo_readPlain_2
    simp (maxSteps := 5000000) (disch := first | assumption | omega) only [wpo_bind, wpo_some, wpo_gf, wpo_gk, wpo_ld, wpo_pf, wpo_pz, wpo_sd, wpo_sr, wpo_ln, wpo_idv, wpo_irm, wpo_lrm, wpo_ldv, wpo_cpy, mlet, mnar_int, mup_same, mup_cell, mup_slot, ite_true, ite_false, true_and, and_true, eq_self, or_true, true_or, and_self, Int.reduceLT, Int.reduceLE, Int.reduceEq, Int.reduceNe, Int.reduceAdd, Int.reduceSub, Int.reduceMul, Int.reduceNeg, ne_eq, not_false_eq_true, not_true_eq_false, false_or, or_false, zor_inl, zor_inr, Bool.false_eq_true, false_and, and_false, zk1, zk2, zk3, zk4, zk5, zk6, zk7, zk8, zk9, zk10, zk11, zk12, zk13, zk14, zk15, zk16, zk17, zk18, zk19, zk20, zk21, zk22, zk23, zk24, zk25, zk26, zk27, zk28, zk29, zk30, zk31, zk32, zk33, zk34, zk35, zk36, zk37, zk38, zk39, zk40, zk41, zk42, zk43, zk44, zk45, zk46, zk47, zk48, zk49, zk50, zk51, zk52, zk53, zk54, zk55, zk56, zk57, zk58, zk59, zk60, zk61, zk62, zk63, zk64, zk65, zk66, zk67, zk68, zk69, zk70, zk71, zk72, zk73, zk74, zk75, zk76, zk77, zk78, zk79, zk80, zk81, zk82, zk83, zk84, zk85, zk86, zk87, zk88, zk89, zk90, zr2_0, zr2_1, zr2_2, zr2_3, zr2_4, zr2_6, zr2_7, zr2_10, zr2_11, zr2_12, zr1_0, zr1_1, zr14_0, zr14_1, zr14_2, zr14_3, zr14_4, zr14_6, zr14_7, zr14_10, zr14_11, zr14_12, zr13_0, zr25_0, zr25_1, zr25_2, zr25_3, zr25_4, zr25_6, zr25_7, zr25_10, zr25_11, zr25_12, zr13_1, zr1_2, zr37_0, zr1_3, zr39_0, zr39_1, zr39_2, zr39_5, zr39_7, zr39_8, zr1_4, zr46_1, zr46_2, zr46_3, zr46_4, zr46_0, zr1_5, zr51_2, zr51_10, zr51_0, zr51_1, zr54_1, zr54_2, zr54_3, zr1_6, zr58_1, zr58_2, zr58_3, zr58_0, zr1_7, zr62_2, zr62_3, zr62_0, zr62_1, zr1_8, zr1_9, zr1_10, zr1_15, zr68_2, zr68_3, zr68_4, zr68_5, zr68_7, zr68_8, zr68_9, zr68_12, zr68_13, zr68_14, zr68_22, zr68_23, zr68_24, zr68_26, zr68_35, zr68_36, zr68_37, zr68_38, zr68_39, zr68_40, zr68_41, zr68_42, fi]
  unfold B_Mo_readPlain M_Mo_readPlain_2
  rw [mN_eq]
  unfold miter
  refine wpo_call st1 (fun z hz => ?_)
  rw [hz]
  show wpo (miter (fun s : Int × mS => B_Mo_readPlain_2 G 68 dep s.1 s.2) (99998 + 1) (0, σ)) _
  unfold miter
  refine wpo_call st2 (fun z hz => ?_)
  rw [hz]
  exact wpo_some.mpr rfl
set_option maxHeartbeats 4000000 in
theorem r_plainLoop {K V S : Nat → Int} {N : Nat} (hT : zTx K V N) (hY : zTy K S N) {g : Nat → Nat → zRe} (hg : zSub N zD1 g) {G : Nat → List mV → mS → Option (Int × mS)} {dep : Int} (hG : ∀ (a p : Nat) (σ : mS), K a ≠ 263 → zMp K V S N a p σ → wpo (B_Mo_readPlain_2 G 68 dep 0 σ) (fun z => ∃ q : Int × mS, z = Sum.inr q ∧ zMo S (g a p) σ q)) :
    ∀ (n M a0 a p : Nat) (σ0 σ : mS), n + 2 < M → N < a + n → zMp K V S N a p σ → zFt σ0 σ → zNt K 401 a0 = zNt K n a → wpo (miter (fun s : Int × mS => B_Mo_readPlain_2 G 68 dep s.1 s.2) M (1, σ)) (zMo S (zPlN K g a0 p) σ0) := by
  have n10 : ¬ (1 : Int) = 0 := by decide
  intro n
  induction n with
  | zero => intro M a0 a p σ0 σ _ h1 h2; have := h2.2.2.2.2.1; omega
  | succ n ih =>
    intro M a0 a p σ0 σ hM hn hP hF hz
    obtain ⟨M, rfl⟩ : ∃ K, M = K + 1 := ⟨M - 1, by omega⟩
    have N4 := hT.1
    have hB := hP.1.1
    have tt := r_takesW (c := 5) (d := 263) N4 hY hP (by decide) (by decide)
    unfold miter
    by_cases c : K a = 263
    · rw [if_pos c] at tt
      have ne : a ≠ N := by intro e; rw [e, hT.2.1] at c; omega
      have aN := hP.2.2.2.2.1
      obtain ⟨tf, tp⟩ := zMp_tok hP (by omega)
      refine wpo_call (Q := fun z => z = Sum.inl (1, (mup σ.1 68 16 ((a + 1 : Nat) : Int), σ.2))) ?_ ?_
      · show wpo (B_Mo_readPlain_2 G 68 dep 1 σ) _
        unfold B_Mo_readPlain_2
        simp (maxSteps := 5000000) (disch := first | assumption | omega) only [wpo_bind, wpo_some, wpo_gf, wpo_gk, wpo_ld, wpo_pf, wpo_pz, wpo_sd, wpo_sr, wpo_ln, wpo_idv, wpo_irm, wpo_lrm, wpo_ldv, wpo_cpy, mlet, mnar_int, mup_same, mup_cell, mup_slot, ite_true, ite_false, true_and, and_true, eq_self, or_true, true_or, and_self, Int.reduceLT, Int.reduceLE, Int.reduceEq, Int.reduceNe, Int.reduceAdd, Int.reduceSub, Int.reduceMul, Int.reduceNeg, ne_eq, not_false_eq_true, not_true_eq_false, false_or, or_false, zor_inl, zor_inr, Bool.false_eq_true, false_and, and_false, zk1, zk2, zk3, zk4, zk5, zk6, zk7, zk8, zk9, zk10, zk11, zk12, zk13, zk14, zk15, zk16, zk17, zk18, zk19, zk20, zk21, zk22, zk23, zk24, zk25, zk26, zk27, zk28, zk29, zk30, zk31, zk32, zk33, zk34, zk35, zk36, zk37, zk38, zk39, zk40, zk41, zk42, zk43, zk44, zk45, zk46, zk47, zk48, zk49, zk50, zk51, zk52, zk53, zk54, zk55, zk56, zk57, zk58, zk59, zk60, zk61, zk62, zk63, zk64, zk65, zk66, zk67, zk68, zk69, zk70, zk71, zk72, zk73, zk74, zk75, zk76, zk77, zk78, zk79, zk80, zk81, zk82, zk83, zk84, zk85, zk86, zk87, zk88, zk89, zk90, zr2_0, zr2_1, zr2_2, zr2_3, zr2_4, zr2_6, zr2_7, zr2_10, zr2_11, zr2_12, zr1_0, zr1_1, zr14_0, zr14_1, zr14_2, zr14_3, zr14_4, zr14_6, zr14_7, zr14_10, zr14_11, zr14_12, zr13_0, zr25_0, zr25_1, zr25_2, zr25_3, zr25_4, zr25_6, zr25_7, zr25_10, zr25_11, zr25_12, zr13_1, zr1_2, zr37_0, zr1_3, zr39_0, zr39_1, zr39_2, zr39_5, zr39_7, zr39_8, zr1_4, zr46_1, zr46_2, zr46_3, zr46_4, zr46_0, zr1_5, zr51_2, zr51_10, zr51_0, zr51_1, zr54_1, zr54_2, zr54_3, zr1_6, zr58_1, zr58_2, zr58_3, zr58_0, zr1_7, zr62_2, zr62_3, zr62_0, zr62_1, zr1_8, zr1_9, zr1_10, zr1_15, zr68_2, zr68_3, zr68_4, zr68_5, zr68_7, zr68_8, zr68_9, zr68_12, zr68_13, zr68_14, zr68_22, zr68_23, zr68_24, zr68_26, zr68_35, zr68_36, zr68_37, zr68_38, zr68_39, zr68_40, zr68_41, zr68_42, n10, tt]
      · intro z hz'
        rw [hz']
        refine ih M a0 (a + 1) p σ0 _ (by omega) (by omega) tp (hF.trans tf) ?_
        rw [hz]
        show (if K a = 263 then zNt K n (a + 1) else a) = zNt K n (a + 1)
        rw [if_pos c]
    · rw [if_neg c] at tt
      have ez : zNt K 401 a0 = a := by
        rw [hz]
        show (if K a = 263 then zNt K n (a + 1) else a) = a
        rw [if_neg c]
      refine wpo_call (Q := fun z => z = Sum.inl (0, σ)) ?_ ?_
      · show wpo (B_Mo_readPlain_2 G 68 dep 1 σ) _
        unfold B_Mo_readPlain_2
        simp (maxSteps := 5000000) (disch := first | assumption | omega) only [wpo_bind, wpo_some, wpo_gf, wpo_gk, wpo_ld, wpo_pf, wpo_pz, wpo_sd, wpo_sr, wpo_ln, wpo_idv, wpo_irm, wpo_lrm, wpo_ldv, wpo_cpy, mlet, mnar_int, mup_same, mup_cell, mup_slot, ite_true, ite_false, true_and, and_true, eq_self, or_true, true_or, and_self, Int.reduceLT, Int.reduceLE, Int.reduceEq, Int.reduceNe, Int.reduceAdd, Int.reduceSub, Int.reduceMul, Int.reduceNeg, ne_eq, not_false_eq_true, not_true_eq_false, false_or, or_false, zor_inl, zor_inr, Bool.false_eq_true, false_and, and_false, zk1, zk2, zk3, zk4, zk5, zk6, zk7, zk8, zk9, zk10, zk11, zk12, zk13, zk14, zk15, zk16, zk17, zk18, zk19, zk20, zk21, zk22, zk23, zk24, zk25, zk26, zk27, zk28, zk29, zk30, zk31, zk32, zk33, zk34, zk35, zk36, zk37, zk38, zk39, zk40, zk41, zk42, zk43, zk44, zk45, zk46, zk47, zk48, zk49, zk50, zk51, zk52, zk53, zk54, zk55, zk56, zk57, zk58, zk59, zk60, zk61, zk62, zk63, zk64, zk65, zk66, zk67, zk68, zk69, zk70, zk71, zk72, zk73, zk74, zk75, zk76, zk77, zk78, zk79, zk80, zk81, zk82, zk83, zk84, zk85, zk86, zk87, zk88, zk89, zk90, zr2_0, zr2_1, zr2_2, zr2_3, zr2_4, zr2_6, zr2_7, zr2_10, zr2_11, zr2_12, zr1_0, zr1_1, zr14_0, zr14_1, zr14_2, zr14_3, zr14_4, zr14_6, zr14_7, zr14_10, zr14_11, zr14_12, zr13_0, zr25_0, zr25_1, zr25_2, zr25_3, zr25_4, zr25_6, zr25_7, zr25_10, zr25_11, zr25_12, zr13_1, zr1_2, zr37_0, zr1_3, zr39_0, zr39_1, zr39_2, zr39_5, zr39_7, zr39_8, zr1_4, zr46_1, zr46_2, zr46_3, zr46_4, zr46_0, zr1_5, zr51_2, zr51_10, zr51_0, zr51_1, zr54_1, zr54_2, zr54_3, zr1_6, zr58_1, zr58_2, zr58_3, zr58_0, zr1_7, zr62_2, zr62_3, zr62_0, zr62_1, zr1_8, zr1_9, zr1_10, zr1_15, zr68_2, zr68_3, zr68_4, zr68_5, zr68_7, zr68_8, zr68_9, zr68_12, zr68_13, zr68_14, zr68_22, zr68_23, zr68_24, zr68_26, zr68_35, zr68_36, zr68_37, zr68_38, zr68_39, zr68_40, zr68_41, zr68_42, n10, tt]
      · intro z hz'
        rw [hz']
        obtain ⟨M, rfl⟩ : ∃ K, M = K + 1 := ⟨M - 1, by omega⟩
        show wpo (miter (fun s : Int × mS => B_Mo_readPlain_2 G 68 dep s.1 s.2) (M + 1) (0, σ)) _
        unfold miter
        refine wpo_call (hG a p σ c hP) ?_
        intro z ⟨q, hq, q1, q2⟩
        rw [hq]
        refine wpo_some.mpr ⟨hF.trans q1, ?_⟩
        unfold zPlN
        rw [ez]
        rcases q2 with ⟨r1, r2⟩ | ⟨r1, r2⟩
        · rw [if_pos r1]
          exact Or.inl ⟨rfl, r2⟩
        · rw [if_neg (by omega)]
          exact Or.inr ⟨r1, r2⟩
theorem r_plain {K V S : Nat → Int} {N : Nat} (hT : zTx K V N) (hY : zTy K S N) {g : Nat → Nat → zRe} (hg : zSub N zD1 g) {G : Nat → List mV → mS → Option (Int × mS)} {dep : Int} (hG : ∀ (a p : Nat) (σ : mS), K a ≠ 263 → zMp K V S N a p σ → wpo (B_Mo_readPlain_2 G 68 dep 0 σ) (fun z => ∃ q : Int × mS, z = Sum.inr q ∧ zMo S (g a p) σ q)) : zMs K V S N (B_Mo_readPlain G 68 dep) (zPlN K g) := by
  refine ⟨fun a p σ hP => ?_, fun σ hB h => r_plain_bad hB h⟩
  have N4 := hT.1
  exact r_plainLoop hT hY hg hG 401 mN a a p σ σ (by rw [mN_eq]; decide) (by omega) hP (zFt.rfl' hP.1.1) rfl
theorem r_readTest {K V S : Nat → Int} {N : Nat} (hT : zTx K V N) (hY : zTy K S N) : ∀ (f : Nat), f ≤ 8 →
    (∀ n, 3 * f + 1 ≤ n → zMs K V S N (R_Mo_readTest n 91 [(3, 68), (1, 8 - (f : Int))]) (zPlF K V f)) ∧
    (∀ n, 3 * f + 3 ≤ n → zMs K V S N (R_Mo_readTest n 89 [(3, 68), (1, 8 - (f : Int))]) (zTestF K V f)) := by
  have up : ∀ f : Nat, (∀ n, 3 * f + 1 ≤ n → zMs K V S N (R_Mo_readTest n 91 [(3, 68), (1, 8 - (f : Int))]) (zPlF K V f)) → (∀ n, 3 * f + 3 ≤ n → zMs K V S N (R_Mo_readTest n 89 [(3, 68), (1, 8 - (f : Int))]) (zTestF K V f)) := by
    intro f h1
    have ok := zPlF_ok hT f
    have h2 : ∀ n, 3 * f + 2 ≤ n → zMs K V S N (R_Mo_readTest n 90 [(3, 68), (1, 8 - (f : Int))]) (zBothF K V f) := by
      intro n hn
      obtain ⟨n, rfl⟩ : ∃ m, n = m + 1 := ⟨n - 1, by omega⟩
      exact r_Both hT hY ok.1 (h1 n (by omega))
    intro n hn
    obtain ⟨n, rfl⟩ : ∃ m, n = m + 1 := ⟨n - 1, by omega⟩
    exact r_Test hT hY ok.2.1 (h2 n (by omega))
  have sumG : ∀ f : Nat, f ≤ 8 → zMs K V S N (R_Mo_readSum mD 92 [(3, 68), (1, 8 - (f : Int))]) (zSumF K V f) := fun f hf => (r_readSum hT hY f hf).2 mD (by rw [mD_eq]; omega)
  intro f
  induction f with
  | zero =>
    intro _
    have h1 : ∀ n, 3 * 0 + 1 ≤ n → zMs K V S N (R_Mo_readTest n 91 [(3, 68), (1, 8 - ((0 : Nat) : Int))]) (zPlF K V 0) := by
      intro n hn
      obtain ⟨n, rfl⟩ : ∃ m, n = m + 1 := ⟨n - 1, by omega⟩
      refine r_plain hT hY (g := zPl0 K (zSumF K V 0)) ?_ ?_
      · intro a p ha hp
        unfold zPl0
        split
        · exact zno_ok ha
        · exact zCmp_ok hT (zPartF_ok hT 0).2.2 a p ha hp
      · intro a p σ _ hP
        unfold zPl0
        by_cases c : K a = 40
        · rw [if_pos c]
          exact r_exit8 hT hY hP c
        · rw [if_neg c]
          exact r_exit hT hY (zPartF_ok hT 0).2.2 (sumG 0 (by decide)) hP c
    exact ⟨h1, up 0 h1⟩
  | succ f ih =>
    intro hf
    have ih := ih (by omega)
    have h1 : ∀ n, 3 * (f + 1) + 1 ≤ n → zMs K V S N (R_Mo_readTest n 91 [(3, 68), (1, 8 - ((f + 1 : Nat) : Int))]) (zPlF K V (f + 1)) := by
      intro n hn
      obtain ⟨n, rfl⟩ : ∃ m, n = m + 1 := ⟨n - 1, by omega⟩
      rw [zPlF_succ]
      have ed : 8 - ((f + 1 : Nat) : Int) + 1 = 8 - (f : Int) := by omega
      refine r_plain hT hY (g := zPl K (zTestF K V f) (zSumF K V (f + 1))) ?_ ?_
      · intro a p ha hp
        unfold zPl
        split
        · rename_i c
          have ne : a ≠ N := by intro e; rw [e, hT.2.1] at c; omega
          exact zBr_ok (by rw [hT.2.1]; decide) (zPlF_ok hT f).2.2 (by omega) hp
        · exact zCmp_ok hT (zPartF_ok hT (f + 1)).2.2 a p ha hp
      · intro a p σ _ hP
        unfold zPl
        by_cases c : K a = 40
        · rw [if_pos c]
          exact r_exitP hT hY (zPlF_ok hT f).2.2 (dep := 8 - ((f + 1 : Nat) : Int)) (by omega) (by rw [ed]; exact ih.2 n (by omega)) hP c
        · rw [if_neg c]
          exact r_exit hT hY (zPartF_ok hT (f + 1)).2.2 (sumG (f + 1) hf) hP c
    exact ⟨h1, up (f + 1) h1⟩
