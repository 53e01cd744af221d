/-! TESTS of the developers' reader -/
set_option maxHeartbeats 4000000 in
theorem d_TestLoop {K V : Nat → Int} {N : Nat} (hT : zTx K V N) {sub : Nat → Nat → zRe} (hsub : zSub N zD1 sub) {G : Nat → List mV → mS → Option (Int × mS)} {dep : Int} (hG : ∀ (a p : Nat) (s fl : Int) (σ : mS), zPre K V N a p s fl σ → wpo (G 213 [(3, 39), (1, dep)] σ) (zPo a p s fl (sub a p) σ)) :
    ∀ (n M a p : Nat) (d : zDn) (i s fl : Int) (σ : mS) (a0 p0 : Nat) (s0 fl0 : Int) (σ0 : mS), n < M → N < a + n → zPre K V N a p s fl σ → a0 < a → p0 < p → 0 ≤ i → 2 * i < (a : Int) → zFr s0 σ0 σ → s0 < s → s - s0 ≤ (a : Int) - a0 → zF (σ.1 43) s0 s ((p : Int) - p0) d → (fl = 0 → fl0 = 0 ∧ zNH d) →
    wpo (miter (fun s : Int × mS => B_Reader_readTest_8 G 39 dep s.1 s.2) M (i, σ)) (zPo a0 p0 s0 fl0 (zLp K 261 261 zcon sub n a p d) σ0) := by
  intro n
  induction n with
  | zero => intro M a p d i s fl σ a0 p0 s0 fl0 σ0 _ h1 h2; have := h2.2.2.1; omega
  | succ n ih =>
    intro M a p d i s fl σ a0 p0 s0 fl0 σ0 hM hn hP ha0 hp0 i0 i2 hF hs1 hs2 hf hfl
    obtain ⟨M, rfl⟩ : ∃ K, M = K + 1 := ⟨M - 1, by omega⟩
    obtain ⟨tk, at', aN, p50, s00, sa, flb⟩ := hP
    have hB := tk.1
    have N4 := hT.1
    have i4 : i < 400 := by omega
    have tt := d_takes (k := 261) N4 tk at'.1 aN
    unfold miter
    by_cases c : K a = 261
    · rw [if_pos c] at tt
      have ne : a ≠ N := by intro e; rw [e, hT.2.1] at c; omega
      obtain ⟨tf, ta, t43⟩ := zPre_tok (b := a + 1) hB at'
      have hB1 := tf.2.1
      have tk1 := tk.fr tf
      generalize eX : ((mup σ.1 39 4 ((a + 1 : Nat) : Int), σ.2) : mS) = X at *
      have em := d_emit (s := s) (kd := 4) (n := 0) hB1 ta.2.2.1 s00 (by omega)
      obtain ⟨e1, e2, e3, e4⟩ := zPre_emit (x := ior (ishl 0 4) 4) tk1 ta
      have hB2 := e1.2.1
      have tk2 := tk1.fr e1
      have pre1 : zPre K V N (a + 1) p (s + 1) fl (mup (mup X.1 43 s (ior (ishl 0 4) 4)) 39 6 (s + 1), X.2) := ⟨tk2, e2, by omega, p50, by omega, by omega, flb⟩
      have e3' : ((mup (mup X.1 43 s (ior (ishl 0 4) 4)) 39 6 (s + 1), X.2) : mS).1 43 s = 4 := e3.trans (insk 4 (by decide))
      have e4' : ∀ k, k ≠ s → ((mup (mup X.1 43 s (ior (ishl 0 4) 4)) 39 6 (s + 1), X.2) : mS).1 43 k = σ.1 43 k := fun k hk => by
        refine (e4 k hk).trans ?_
        rw [← eX]
        exact congrFun t43 k
      clear e3 e4
      generalize eY : ((mup (mup X.1 43 s (ior (ishl 0 4) 4)) 39 6 (s + 1), X.2) : mS) = Y at *
      have mid : wpo (B_Reader_readTest_8 G 39 dep i σ) (fun z => ((sub (a + 1) p).1 = 1 ∧ ∃ σ2 s' fl', z = Sum.inl (i + 1, σ2) ∧ zPre K V N (sub (a + 1) p).2.1 (sub (a + 1) p).2.2.1 s' fl' σ2 ∧ zFr s0 σ0 σ2 ∧ s0 < s' ∧ s' - s0 ≤ ((sub (a + 1) p).2.1 : Int) - a0 ∧ zF (σ2.1 43) s0 s' (((sub (a + 1) p).2.2.1 : Int) - p0) (zcon (K a) d (sub (a + 1) p).2.2.2) ∧ (fl' = 0 → fl0 = 0 ∧ zNH (zcon (K a) d (sub (a + 1) p).2.2.2))) ∨ ((sub (a + 1) p).1 = 0 ∧ ∃ σ2, z = Sum.inr (0, σ2) ∧ zFr s0 σ0 σ2 ∧ σ2.1 39 4 = ((sub (a + 1) p).2.1 : Int))) := by
        unfold B_Reader_readTest_8
        have n10 : ¬ (1 : Int) = 0 := by decide
        simp (maxSteps := 5000000) (disch := first | assumption | omega) only [wpo_bind, wpo_some, wpo_gf, wpo_gk, wpo_ld, wpo_pf, wpo_pz, wpo_sd, wpo_sr, wpo_ln, wpo_idv, wpo_irm, wpo_lrm, wpo_ldv, wpo_cpy, mlet, mnar_int, mup_same, mup_cell, mup_slot, ite_true, ite_false, true_and, and_true, eq_self, or_true, true_or, and_self, Int.reduceLT, Int.reduceLE, Int.reduceEq, Int.reduceNe, Int.reduceAdd, Int.reduceSub, Int.reduceMul, Int.reduceNeg, ne_eq, not_false_eq_true, not_true_eq_false, false_or, or_false, zor_inl, zor_inr, Bool.false_eq_true, false_and, and_false, zk1, zk2, zk3, zk4, zk5, zk6, zk7, zk8, zk9, zk10, zk11, zk12, zk13, zk14, zk15, zk16, zk17, zk18, zk19, zk20, zk21, zk22, zk23, zk24, zk25, zk26, zk27, zk28, zk29, zk30, zk31, zk32, zk33, zk34, zk35, zk36, zk37, zk38, zk39, zk40, zk41, zk42, zk43, zk44, zk45, zk46, zk47, zk48, zk49, zk50, zk51, zk52, zk53, zk54, zk55, zk56, zk57, zk58, zk59, zk60, zk61, zk62, zk63, zk64, zk65, zk66, zk67, zk68, zk69, zk70, zk71, zk72, zk73, zk74, zk75, zk76, zk77, zk78, zk79, zk80, zk81, zk82, zk83, zk84, zk85, zk86, zk87, zk88, zk89, zk90, zr2_0, zr2_1, zr2_2, zr2_3, zr2_4, zr2_6, zr2_7, zr2_10, zr2_11, zr2_12, zr1_0, zr1_1, zr14_0, zr14_1, zr14_2, zr14_3, zr14_4, zr14_6, zr14_7, zr14_10, zr14_11, zr14_12, zr13_0, zr25_0, zr25_1, zr25_2, zr25_3, zr25_4, zr25_6, zr25_7, zr25_10, zr25_11, zr25_12, zr13_1, zr1_2, zr37_0, zr1_3, zr39_0, zr39_1, zr39_2, zr39_5, zr39_7, zr39_8, zr1_4, zr46_1, zr46_2, zr46_3, zr46_4, zr46_0, zr1_5, zr51_2, zr51_10, zr51_0, zr51_1, zr54_1, zr54_2, zr54_3, zr1_6, zr58_1, zr58_2, zr58_3, zr58_0, zr1_7, zr62_2, zr62_3, zr62_0, zr62_1, zr1_8, zr1_9, zr1_10, zr1_15, zr68_2, zr68_3, zr68_4, zr68_5, zr68_7, zr68_8, zr68_9, zr68_12, zr68_13, zr68_14, zr68_22, zr68_23, zr68_24, zr68_26, zr68_35, zr68_36, zr68_37, zr68_38, zr68_39, zr68_40, zr68_41, zr68_42, i4, tt, n10, em]
        refine wpo_mono (hG (a + 1) p (s + 1) fl Y pre1) ?_
        intro q ⟨q1, q2⟩
        have sk := hsub (a + 1) p (by omega) p50
        have fq := hF.trans ((tf.trans e1 (Int.le_refl s)).trans q1 (by omega)) (by omega)
        have hBq := q1.2.1
        rcases q2 with ⟨r1, r2, s', fl', r3, r4, r5, r6, r7⟩ | ⟨r1, r2, r3⟩
        · rcases sk with ⟨k1, k2, k3, k4, k5, k6⟩ | ⟨k1, _⟩
          · have tkq := tk2.fr q1
            have q43 : q.2.1 43 s = 4 := (q1.2.2.2.2 s (by omega)).trans e3'
            have am := d_aim (s := s') (j := s) hBq r3.2.2.1 s00 (by omega)
            rw [q43] at am
            have ev : ior 4 (ishl s' 4) = 16 * s' + 4 := by
              have := (ins3 s'.toNat (by omega)).2
              rw [Int.toNat_of_nonneg (by omega)] at this
              exact this
            rw [ev] at am
            have wi : ∀ u : Int, u = i → w32 (u + 1) = i + 1 := fun u hu => by rw [w32_in (by omega) (by omega)]; omega
            have f3 : zFr s q.2 (mup q.2.1 43 s (16 * s' + 4), q.2.2) := zFr_43 hBq (Int.le_refl s)
            simp (maxSteps := 5000000) (disch := first | assumption | omega) only [wpo_bind, wpo_some, wpo_gf, wpo_gk, wpo_ld, wpo_pf, wpo_pz, wpo_sd, wpo_sr, wpo_ln, wpo_idv, wpo_irm, wpo_lrm, wpo_ldv, wpo_cpy, mlet, mnar_int, mup_same, mup_cell, mup_slot, ite_true, ite_false, true_and, and_true, eq_self, or_true, true_or, and_self, Int.reduceLT, Int.reduceLE, Int.reduceEq, Int.reduceNe, Int.reduceAdd, Int.reduceSub, Int.reduceMul, Int.reduceNeg, ne_eq, not_false_eq_true, not_true_eq_false, false_or, or_false, zor_inl, zor_inr, Bool.false_eq_true, false_and, and_false, zk1, zk2, zk3, zk4, zk5, zk6, zk7, zk8, zk9, zk10, zk11, zk12, zk13, zk14, zk15, zk16, zk17, zk18, zk19, zk20, zk21, zk22, zk23, zk24, zk25, zk26, zk27, zk28, zk29, zk30, zk31, zk32, zk33, zk34, zk35, zk36, zk37, zk38, zk39, zk40, zk41, zk42, zk43, zk44, zk45, zk46, zk47, zk48, zk49, zk50, zk51, zk52, zk53, zk54, zk55, zk56, zk57, zk58, zk59, zk60, zk61, zk62, zk63, zk64, zk65, zk66, zk67, zk68, zk69, zk70, zk71, zk72, zk73, zk74, zk75, zk76, zk77, zk78, zk79, zk80, zk81, zk82, zk83, zk84, zk85, zk86, zk87, zk88, zk89, zk90, zr2_0, zr2_1, zr2_2, zr2_3, zr2_4, zr2_6, zr2_7, zr2_10, zr2_11, zr2_12, zr1_0, zr1_1, zr14_0, zr14_1, zr14_2, zr14_3, zr14_4, zr14_6, zr14_7, zr14_10, zr14_11, zr14_12, zr13_0, zr25_0, zr25_1, zr25_2, zr25_3, zr25_4, zr25_6, zr25_7, zr25_10, zr25_11, zr25_12, zr13_1, zr1_2, zr37_0, zr1_3, zr39_0, zr39_1, zr39_2, zr39_5, zr39_7, zr39_8, zr1_4, zr46_1, zr46_2, zr46_3, zr46_4, zr46_0, zr1_5, zr51_2, zr51_10, zr51_0, zr51_1, zr54_1, zr54_2, zr54_3, zr1_6, zr58_1, zr58_2, zr58_3, zr58_0, zr1_7, zr62_2, zr62_3, zr62_0, zr62_1, zr1_8, zr1_9, zr1_10, zr1_15, zr68_2, zr68_3, zr68_4, zr68_5, zr68_7, zr68_8, zr68_9, zr68_12, zr68_13, zr68_14, zr68_22, zr68_23, zr68_24, zr68_26, zr68_35, zr68_36, zr68_37, zr68_38, zr68_39, zr68_40, zr68_41, zr68_42, r2, n10, am, wi]
            refine Or.inl ⟨r1, _, s', fl', rfl, ⟨tkq.fr f3, ?_, k3, k5, by omega, by omega, r6⟩, fq.trans f3 (by omega), by omega, by omega, ?_, ?_⟩
            · obtain ⟨g1, g2, g3, g4⟩ := r3
              have m39 : ∀ k, mup q.2.1 43 s (16 * s' + 4) 39 k = q.2.1 39 k := fun k => mup_cell (by decide)
              exact ⟨(m39 4).trans g1, (m39 10).trans g2, (m39 6).trans g3, (m39 11).trans g4⟩
            · have z1 : zF (mup q.2.1 43 s (16 * s' + 4) 43) s0 s ((p : Int) - p0) d := by
                refine zF_of hf (fun k x y => ?_)
                rw [mup_slot (by omega), q1.2.2.2.2 k (by omega)]
                exact e4' k (by omega)
              have z2 : zF (mup q.2.1 43 s (16 * s' + 4) 43) (s + 1) s' (((sub (a + 1) p).2.2.1 : Int) - p) (sub (a + 1) p).2.2.2 := zF_of r5 (fun k x y => mup_slot (by omega))
              have z3 := zF_con (s := 261) z1 mup_same z2 (by omega) (by decide)
              have e0 : ((p : Int) - p0) + (((sub (a + 1) p).2.2.1 : Int) - p) = ((sub (a + 1) p).2.2.1 : Int) - p0 := by omega
              rw [e0, ← c] at z3
              exact z3
            · intro h0
              have r8 := r7 h0
              have r9 := hfl r8.1
              exact ⟨r9.1, zNH_con r9.2 r8.2⟩
          · omega
        · simp (maxSteps := 5000000) (disch := first | assumption | omega) only [wpo_bind, wpo_some, wpo_gf, wpo_gk, wpo_ld, wpo_pf, wpo_pz, wpo_sd, wpo_sr, wpo_ln, wpo_idv, wpo_irm, wpo_lrm, wpo_ldv, wpo_cpy, mlet, mnar_int, mup_same, mup_cell, mup_slot, ite_true, ite_false, true_and, and_true, eq_self, or_true, true_or, and_self, Int.reduceLT, Int.reduceLE, Int.reduceEq, Int.reduceNe, Int.reduceAdd, Int.reduceSub, Int.reduceMul, Int.reduceNeg, ne_eq, not_false_eq_true, not_true_eq_false, false_or, or_false, zor_inl, zor_inr, Bool.false_eq_true, false_and, and_false, zk1, zk2, zk3, zk4, zk5, zk6, zk7, zk8, zk9, zk10, zk11, zk12, zk13, zk14, zk15, zk16, zk17, zk18, zk19, zk20, zk21, zk22, zk23, zk24, zk25, zk26, zk27, zk28, zk29, zk30, zk31, zk32, zk33, zk34, zk35, zk36, zk37, zk38, zk39, zk40, zk41, zk42, zk43, zk44, zk45, zk46, zk47, zk48, zk49, zk50, zk51, zk52, zk53, zk54, zk55, zk56, zk57, zk58, zk59, zk60, zk61, zk62, zk63, zk64, zk65, zk66, zk67, zk68, zk69, zk70, zk71, zk72, zk73, zk74, zk75, zk76, zk77, zk78, zk79, zk80, zk81, zk82, zk83, zk84, zk85, zk86, zk87, zk88, zk89, zk90, zr2_0, zr2_1, zr2_2, zr2_3, zr2_4, zr2_6, zr2_7, zr2_10, zr2_11, zr2_12, zr1_0, zr1_1, zr14_0, zr14_1, zr14_2, zr14_3, zr14_4, zr14_6, zr14_7, zr14_10, zr14_11, zr14_12, zr13_0, zr25_0, zr25_1, zr25_2, zr25_3, zr25_4, zr25_6, zr25_7, zr25_10, zr25_11, zr25_12, zr13_1, zr1_2, zr37_0, zr1_3, zr39_0, zr39_1, zr39_2, zr39_5, zr39_7, zr39_8, zr1_4, zr46_1, zr46_2, zr46_3, zr46_4, zr46_0, zr1_5, zr51_2, zr51_10, zr51_0, zr51_1, zr54_1, zr54_2, zr54_3, zr1_6, zr58_1, zr58_2, zr58_3, zr58_0, zr1_7, zr62_2, zr62_3, zr62_0, zr62_1, zr1_8, zr1_9, zr1_10, zr1_15, zr68_2, zr68_3, zr68_4, zr68_5, zr68_7, zr68_8, zr68_9, zr68_12, zr68_13, zr68_14, zr68_22, zr68_23, zr68_24, zr68_26, zr68_35, zr68_36, zr68_37, zr68_38, zr68_39, zr68_40, zr68_41, zr68_42, r2]
          exact Or.inr ⟨r1, _, rfl, fq, r3⟩
      refine wpo_call mid ?_
      intro z hz
      unfold zLp
      rw [if_pos (Or.inl c)]
      rcases hz with ⟨r1, σ2, s', fl', rfl, b1, b2, b3, b4, b5, b6⟩ | ⟨r1, σ2, rfl, b1, b2⟩
      · rw [if_pos r1]
        have sk := hsub (a + 1) p (by omega) p50
        rcases sk with ⟨k1, k2, k3, k4, k5, k6⟩ | ⟨k1, _⟩
        · exact ih M _ _ _ (i + 1) s' fl' σ2 a0 p0 s0 fl0 σ0 (by omega) (by omega) b1 (by omega) (by omega) (by omega) (by omega) b2 b3 b4 b5 b6
        · omega
      · rw [if_neg (by omega)]
        exact wpo_some.mpr ⟨b1, Or.inr ⟨r1, rfl, b2⟩⟩
    · rw [if_neg c] at tt
      refine wpo_call (Q := fun z => z = Sum.inr (1, σ)) ?_ ?_
      · show wpo (B_Reader_readTest_8 G 39 dep i σ) _
        unfold B_Reader_readTest_8
        simp (maxSteps := 5000000) (disch := first | assumption | omega) only [wpo_bind, wpo_some, wpo_gf, wpo_gk, wpo_ld, wpo_pf, wpo_pz, wpo_sd, wpo_sr, wpo_ln, wpo_idv, wpo_irm, wpo_lrm, wpo_ldv, wpo_cpy, mlet, mnar_int, mup_same, mup_cell, mup_slot, ite_true, ite_false, true_and, and_true, eq_self, or_true, true_or, and_self, Int.reduceLT, Int.reduceLE, Int.reduceEq, Int.reduceNe, Int.reduceAdd, Int.reduceSub, Int.reduceMul, Int.reduceNeg, ne_eq, not_false_eq_true, not_true_eq_false, false_or, or_false, zor_inl, zor_inr, Bool.false_eq_true, false_and, and_false, zk1, zk2, zk3, zk4, zk5, zk6, zk7, zk8, zk9, zk10, zk11, zk12, zk13, zk14, zk15, zk16, zk17, zk18, zk19, zk20, zk21, zk22, zk23, zk24, zk25, zk26, zk27, zk28, zk29, zk30, zk31, zk32, zk33, zk34, zk35, zk36, zk37, zk38, zk39, zk40, zk41, zk42, zk43, zk44, zk45, zk46, zk47, zk48, zk49, zk50, zk51, zk52, zk53, zk54, zk55, zk56, zk57, zk58, zk59, zk60, zk61, zk62, zk63, zk64, zk65, zk66, zk67, zk68, zk69, zk70, zk71, zk72, zk73, zk74, zk75, zk76, zk77, zk78, zk79, zk80, zk81, zk82, zk83, zk84, zk85, zk86, zk87, zk88, zk89, zk90, zr2_0, zr2_1, zr2_2, zr2_3, zr2_4, zr2_6, zr2_7, zr2_10, zr2_11, zr2_12, zr1_0, zr1_1, zr14_0, zr14_1, zr14_2, zr14_3, zr14_4, zr14_6, zr14_7, zr14_10, zr14_11, zr14_12, zr13_0, zr25_0, zr25_1, zr25_2, zr25_3, zr25_4, zr25_6, zr25_7, zr25_10, zr25_11, zr25_12, zr13_1, zr1_2, zr37_0, zr1_3, zr39_0, zr39_1, zr39_2, zr39_5, zr39_7, zr39_8, zr1_4, zr46_1, zr46_2, zr46_3, zr46_4, zr46_0, zr1_5, zr51_2, zr51_10, zr51_0, zr51_1, zr54_1, zr54_2, zr54_3, zr1_6, zr58_1, zr58_2, zr58_3, zr58_0, zr1_7, zr62_2, zr62_3, zr62_0, zr62_1, zr1_8, zr1_9, zr1_10, zr1_15, zr68_2, zr68_3, zr68_4, zr68_5, zr68_7, zr68_8, zr68_9, zr68_12, zr68_13, zr68_14, zr68_22, zr68_23, zr68_24, zr68_26, zr68_35, zr68_36, zr68_37, zr68_38, zr68_39, zr68_40, zr68_41, zr68_42, i4, tt]
      · intro z hz
        rw [hz]
        unfold zLp
        rw [if_neg (fun h => c (h.elim id id))]
        exact wpo_some.mpr ⟨hF, Or.inl ⟨rfl, rfl, s, fl, at', ⟨hs1, hs2⟩, hf, flb, hfl⟩⟩
set_option maxHeartbeats 4000000 in
theorem d_Test {K V : Nat → Int} {N : Nat} (hT : zTx K V N) {sub : Nat → Nat → zRe} (hsub : zSub N zD1 sub) {G : Nat → List mV → mS → Option (Int × mS)} {dep : Int} (hG : ∀ (a p : Nat) (s fl : Int) (σ : mS), zPre K V N a p s fl σ → wpo (G 213 [(3, 39), (1, dep)] σ) (zPo a p s fl (sub a p) σ))
    (a p : Nat) (s fl : Int) (σ : mS) (hP : zPre K V N a p s fl σ) : wpo (B_Reader_readTest G 39 dep σ) (zPo a p s fl (zCh K 261 261 zcon sub a p) σ) := by
  have hB := hP.1.1
  generalize hQ : zPo a p s fl (zCh K 261 261 zcon sub a p) σ = Q
  unfold B_Reader_readTest
  simp (maxSteps := 5000000) (disch := first | assumption | omega) only [wpo_bind, wpo_some, wpo_gf, wpo_gk, wpo_ld, wpo_pf, wpo_pz, wpo_sd, wpo_sr, wpo_ln, wpo_idv, wpo_irm, wpo_lrm, wpo_ldv, wpo_cpy, mlet, mnar_int, mup_same, mup_cell, mup_slot, ite_true, ite_false, true_and, and_true, eq_self, or_true, true_or, and_self, Int.reduceLT, Int.reduceLE, Int.reduceEq, Int.reduceNe, Int.reduceAdd, Int.reduceSub, Int.reduceMul, Int.reduceNeg, ne_eq, not_false_eq_true, not_true_eq_false, false_or, or_false, zor_inl, zor_inr, Bool.false_eq_true, false_and, and_false, zk1, zk2, zk3, zk4, zk5, zk6, zk7, zk8, zk9, zk10, zk11, zk12, zk13, zk14, zk15, zk16, zk17, zk18, zk19, zk20, zk21, zk22, zk23, zk24, zk25, zk26, zk27, zk28, zk29, zk30, zk31, zk32, zk33, zk34, zk35, zk36, zk37, zk38, zk39, zk40, zk41, zk42, zk43, zk44, zk45, zk46, zk47, zk48, zk49, zk50, zk51, zk52, zk53, zk54, zk55, zk56, zk57, zk58, zk59, zk60, zk61, zk62, zk63, zk64, zk65, zk66, zk67, zk68, zk69, zk70, zk71, zk72, zk73, zk74, zk75, zk76, zk77, zk78, zk79, zk80, zk81, zk82, zk83, zk84, zk85, zk86, zk87, zk88, zk89, zk90, zr2_0, zr2_1, zr2_2, zr2_3, zr2_4, zr2_6, zr2_7, zr2_10, zr2_11, zr2_12, zr1_0, zr1_1, zr14_0, zr14_1, zr14_2, zr14_3, zr14_4, zr14_6, zr14_7, zr14_10, zr14_11, zr14_12, zr13_0, zr25_0, zr25_1, zr25_2, zr25_3, zr25_4, zr25_6, zr25_7, zr25_10, zr25_11, zr25_12, zr13_1, zr1_2, zr37_0, zr1_3, zr39_0, zr39_1, zr39_2, zr39_5, zr39_7, zr39_8, zr1_4, zr46_1, zr46_2, zr46_3, zr46_4, zr46_0, zr1_5, zr51_2, zr51_10, zr51_0, zr51_1, zr54_1, zr54_2, zr54_3, zr1_6, zr58_1, zr58_2, zr58_3, zr58_0, zr1_7, zr62_2, zr62_3, zr62_0, zr62_1, zr1_8, zr1_9, zr1_10, zr1_15, zr68_2, zr68_3, zr68_4, zr68_5, zr68_7, zr68_8, zr68_9, zr68_12, zr68_13, zr68_14, zr68_22, zr68_23, zr68_24, zr68_26, zr68_35, zr68_36, zr68_37, zr68_38, zr68_39, zr68_40, zr68_41, zr68_42]
  refine wpo_mono (hG a p s fl σ hP) ?_
  intro q ⟨q1, q2⟩
  have sk := hsub a p hP.2.2.1 hP.2.2.2.1
  have N4 := hT.1
  have sa := hP.2.2.2.2.2.1
  have s0 := hP.2.2.2.2.1
  subst hQ
  unfold zCh
  rcases q2 with ⟨r1, r2, s', fl', r3, r4, r5, r6, r7⟩ | ⟨r1, r2, r3⟩
  · rcases sk with ⟨k1, k2, k3, k4, k5, k6⟩ | ⟨k1, _⟩
    · rw [if_neg (show ¬ q.1 = 0 by omega), if_pos r1]
      unfold M_Reader_readTest_8
      exact d_TestLoop hT hsub hG 401 mN _ _ _ 0 s' fl' q.2 a p s fl σ (by rw [mN_eq]; decide) (by omega) ⟨hP.1.fr q1, r3, k3, k5, by omega, by omega, r6⟩ k2 k4 (by omega) (by omega) q1 r4.1 r4.2 r5 r7
    · omega
  · rw [if_pos r2, if_neg (show ¬ (sub a p).1 = 1 by omega)]
    exact wpo_some.mpr ⟨q1, Or.inr ⟨r1, rfl, r3⟩⟩
set_option maxHeartbeats 4000000 in
theorem d_BothLoop {K V : Nat → Int} {N : Nat} (hT : zTx K V N) {sub : Nat → Nat → zRe} (hsub : zSub N zD1 sub) {G : Nat → List mV → mS → Option (Int × mS)} {dep : Int} (hG : ∀ (a p : Nat) (s fl : Int) (σ : mS), zPre K V N a p s fl σ → wpo (G 214 [(3, 39), (1, dep)] σ) (zPo a p s fl (sub a p) σ)) :
    ∀ (n M a p : Nat) (d : zDn) (i s fl : Int) (σ : mS) (a0 p0 : Nat) (s0 fl0 : Int) (σ0 : mS), n < M → N < a + n → zPre K V N a p s fl σ → a0 < a → p0 < p → 0 ≤ i → 2 * i < (a : Int) → zFr s0 σ0 σ → s0 < s → s - s0 ≤ (a : Int) - a0 → zF (σ.1 43) s0 s ((p : Int) - p0) d → (fl = 0 → fl0 = 0 ∧ zNH d) →
    wpo (miter (fun s : Int × mS => B_Reader_readBoth_8 G 39 dep s.1 s.2) M (i, σ)) (zPo a0 p0 s0 fl0 (zLp K 262 262 zcon sub n a p d) σ0) := by
  intro n
  induction n with
  | zero => intro M a p d i s fl σ a0 p0 s0 fl0 σ0 _ h1 h2; have := h2.2.2.1; omega
  | succ n ih =>
    intro M a p d i s fl σ a0 p0 s0 fl0 σ0 hM hn hP ha0 hp0 i0 i2 hF hs1 hs2 hf hfl
    obtain ⟨M, rfl⟩ : ∃ K, M = K + 1 := ⟨M - 1, by omega⟩
    obtain ⟨tk, at', aN, p50, s00, sa, flb⟩ := hP
    have hB := tk.1
    have N4 := hT.1
    have i4 : i < 400 := by omega
    have tt := d_takes (k := 262) N4 tk at'.1 aN
    unfold miter
    by_cases c : K a = 262
    · rw [if_pos c] at tt
      have ne : a ≠ N := by intro e; rw [e, hT.2.1] at c; omega
      obtain ⟨tf, ta, t43⟩ := zPre_tok (b := a + 1) hB at'
      have hB1 := tf.2.1
      have tk1 := tk.fr tf
      generalize eX : ((mup σ.1 39 4 ((a + 1 : Nat) : Int), σ.2) : mS) = X at *
      have em := d_emit (s := s) (kd := 3) (n := 0) hB1 ta.2.2.1 s00 (by omega)
      obtain ⟨e1, e2, e3, e4⟩ := zPre_emit (x := ior (ishl 0 4) 3) tk1 ta
      have hB2 := e1.2.1
      have tk2 := tk1.fr e1
      have pre1 : zPre K V N (a + 1) p (s + 1) fl (mup (mup X.1 43 s (ior (ishl 0 4) 3)) 39 6 (s + 1), X.2) := ⟨tk2, e2, by omega, p50, by omega, by omega, flb⟩
      have e3' : ((mup (mup X.1 43 s (ior (ishl 0 4) 3)) 39 6 (s + 1), X.2) : mS).1 43 s = 3 := e3.trans (insk 3 (by decide))
      have e4' : ∀ k, k ≠ s → ((mup (mup X.1 43 s (ior (ishl 0 4) 3)) 39 6 (s + 1), X.2) : mS).1 43 k = σ.1 43 k := fun k hk => by
        refine (e4 k hk).trans ?_
        rw [← eX]
        exact congrFun t43 k
      clear e3 e4
      generalize eY : ((mup (mup X.1 43 s (ior (ishl 0 4) 3)) 39 6 (s + 1), X.2) : mS) = Y at *
      have mid : wpo (B_Reader_readBoth_8 G 39 dep i σ) (fun z => ((sub (a + 1) p).1 = 1 ∧ ∃ σ2 s' fl', z = Sum.inl (i + 1, σ2) ∧ zPre K V N (sub (a + 1) p).2.1 (sub (a + 1) p).2.2.1 s' fl' σ2 ∧ zFr s0 σ0 σ2 ∧ s0 < s' ∧ s' - s0 ≤ ((sub (a + 1) p).2.1 : Int) - a0 ∧ zF (σ2.1 43) s0 s' (((sub (a + 1) p).2.2.1 : Int) - p0) (zcon (K a) d (sub (a + 1) p).2.2.2) ∧ (fl' = 0 → fl0 = 0 ∧ zNH (zcon (K a) d (sub (a + 1) p).2.2.2))) ∨ ((sub (a + 1) p).1 = 0 ∧ ∃ σ2, z = Sum.inr (0, σ2) ∧ zFr s0 σ0 σ2 ∧ σ2.1 39 4 = ((sub (a + 1) p).2.1 : Int))) := by
        unfold B_Reader_readBoth_8
        have n10 : ¬ (1 : Int) = 0 := by decide
        simp (maxSteps := 5000000) (disch := first | assumption | omega) only [wpo_bind, wpo_some, wpo_gf, wpo_gk, wpo_ld, wpo_pf, wpo_pz, wpo_sd, wpo_sr, wpo_ln, wpo_idv, wpo_irm, wpo_lrm, wpo_ldv, wpo_cpy, mlet, mnar_int, mup_same, mup_cell, mup_slot, ite_true, ite_false, true_and, and_true, eq_self, or_true, true_or, and_self, Int.reduceLT, Int.reduceLE, Int.reduceEq, Int.reduceNe, Int.reduceAdd, Int.reduceSub, Int.reduceMul, Int.reduceNeg, ne_eq, not_false_eq_true, not_true_eq_false, false_or, or_false, zor_inl, zor_inr, Bool.false_eq_true, false_and, and_false, zk1, zk2, zk3, zk4, zk5, zk6, zk7, zk8, zk9, zk10, zk11, zk12, zk13, zk14, zk15, zk16, zk17, zk18, zk19, zk20, zk21, zk22, zk23, zk24, zk25, zk26, zk27, zk28, zk29, zk30, zk31, zk32, zk33, zk34, zk35, zk36, zk37, zk38, zk39, zk40, zk41, zk42, zk43, zk44, zk45, zk46, zk47, zk48, zk49, zk50, zk51, zk52, zk53, zk54, zk55, zk56, zk57, zk58, zk59, zk60, zk61, zk62, zk63, zk64, zk65, zk66, zk67, zk68, zk69, zk70, zk71, zk72, zk73, zk74, zk75, zk76, zk77, zk78, zk79, zk80, zk81, zk82, zk83, zk84, zk85, zk86, zk87, zk88, zk89, zk90, zr2_0, zr2_1, zr2_2, zr2_3, zr2_4, zr2_6, zr2_7, zr2_10, zr2_11, zr2_12, zr1_0, zr1_1, zr14_0, zr14_1, zr14_2, zr14_3, zr14_4, zr14_6, zr14_7, zr14_10, zr14_11, zr14_12, zr13_0, zr25_0, zr25_1, zr25_2, zr25_3, zr25_4, zr25_6, zr25_7, zr25_10, zr25_11, zr25_12, zr13_1, zr1_2, zr37_0, zr1_3, zr39_0, zr39_1, zr39_2, zr39_5, zr39_7, zr39_8, zr1_4, zr46_1, zr46_2, zr46_3, zr46_4, zr46_0, zr1_5, zr51_2, zr51_10, zr51_0, zr51_1, zr54_1, zr54_2, zr54_3, zr1_6, zr58_1, zr58_2, zr58_3, zr58_0, zr1_7, zr62_2, zr62_3, zr62_0, zr62_1, zr1_8, zr1_9, zr1_10, zr1_15, zr68_2, zr68_3, zr68_4, zr68_5, zr68_7, zr68_8, zr68_9, zr68_12, zr68_13, zr68_14, zr68_22, zr68_23, zr68_24, zr68_26, zr68_35, zr68_36, zr68_37, zr68_38, zr68_39, zr68_40, zr68_41, zr68_42, i4, tt, n10, em]
        refine wpo_mono (hG (a + 1) p (s + 1) fl Y pre1) ?_
        intro q ⟨q1, q2⟩
        have sk := hsub (a + 1) p (by omega) p50
        have fq := hF.trans ((tf.trans e1 (Int.le_refl s)).trans q1 (by omega)) (by omega)
        have hBq := q1.2.1
        rcases q2 with ⟨r1, r2, s', fl', r3, r4, r5, r6, r7⟩ | ⟨r1, r2, r3⟩
        · rcases sk with ⟨k1, k2, k3, k4, k5, k6⟩ | ⟨k1, _⟩
          · have tkq := tk2.fr q1
            have q43 : q.2.1 43 s = 3 := (q1.2.2.2.2 s (by omega)).trans e3'
            have am := d_aim (s := s') (j := s) hBq r3.2.2.1 s00 (by omega)
            rw [q43] at am
            have ev : ior 3 (ishl s' 4) = 16 * s' + 3 := by
              have := (ins3 s'.toNat (by omega)).1
              rw [Int.toNat_of_nonneg (by omega)] at this
              exact this
            rw [ev] at am
            have wi : ∀ u : Int, u = i → w32 (u + 1) = i + 1 := fun u hu => by rw [w32_in (by omega) (by omega)]; omega
            have f3 : zFr s q.2 (mup q.2.1 43 s (16 * s' + 3), q.2.2) := zFr_43 hBq (Int.le_refl s)
            simp (maxSteps := 5000000) (disch := first | assumption | omega) only [wpo_bind, wpo_some, wpo_gf, wpo_gk, wpo_ld, wpo_pf, wpo_pz, wpo_sd, wpo_sr, wpo_ln, wpo_idv, wpo_irm, wpo_lrm, wpo_ldv, wpo_cpy, mlet, mnar_int, mup_same, mup_cell, mup_slot, ite_true, ite_false, true_and, and_true, eq_self, or_true, true_or, and_self, Int.reduceLT, Int.reduceLE, Int.reduceEq, Int.reduceNe, Int.reduceAdd, Int.reduceSub, Int.reduceMul, Int.reduceNeg, ne_eq, not_false_eq_true, not_true_eq_false, false_or, or_false, zor_inl, zor_inr, Bool.false_eq_true, false_and, and_false, zk1, zk2, zk3, zk4, zk5, zk6, zk7, zk8, zk9, zk10, zk11, zk12, zk13, zk14, zk15, zk16, zk17, zk18, zk19, zk20, zk21, zk22, zk23, zk24, zk25, zk26, zk27, zk28, zk29, zk30, zk31, zk32, zk33, zk34, zk35, zk36, zk37, zk38, zk39, zk40, zk41, zk42, zk43, zk44, zk45, zk46, zk47, zk48, zk49, zk50, zk51, zk52, zk53, zk54, zk55, zk56, zk57, zk58, zk59, zk60, zk61, zk62, zk63, zk64, zk65, zk66, zk67, zk68, zk69, zk70, zk71, zk72, zk73, zk74, zk75, zk76, zk77, zk78, zk79, zk80, zk81, zk82, zk83, zk84, zk85, zk86, zk87, zk88, zk89, zk90, zr2_0, zr2_1, zr2_2, zr2_3, zr2_4, zr2_6, zr2_7, zr2_10, zr2_11, zr2_12, zr1_0, zr1_1, zr14_0, zr14_1, zr14_2, zr14_3, zr14_4, zr14_6, zr14_7, zr14_10, zr14_11, zr14_12, zr13_0, zr25_0, zr25_1, zr25_2, zr25_3, zr25_4, zr25_6, zr25_7, zr25_10, zr25_11, zr25_12, zr13_1, zr1_2, zr37_0, zr1_3, zr39_0, zr39_1, zr39_2, zr39_5, zr39_7, zr39_8, zr1_4, zr46_1, zr46_2, zr46_3, zr46_4, zr46_0, zr1_5, zr51_2, zr51_10, zr51_0, zr51_1, zr54_1, zr54_2, zr54_3, zr1_6, zr58_1, zr58_2, zr58_3, zr58_0, zr1_7, zr62_2, zr62_3, zr62_0, zr62_1, zr1_8, zr1_9, zr1_10, zr1_15, zr68_2, zr68_3, zr68_4, zr68_5, zr68_7, zr68_8, zr68_9, zr68_12, zr68_13, zr68_14, zr68_22, zr68_23, zr68_24, zr68_26, zr68_35, zr68_36, zr68_37, zr68_38, zr68_39, zr68_40, zr68_41, zr68_42, r2, n10, am, wi]
            refine Or.inl ⟨r1, _, s', fl', rfl, ⟨tkq.fr f3, ?_, k3, k5, by omega, by omega, r6⟩, fq.trans f3 (by omega), by omega, by omega, ?_, ?_⟩
            · obtain ⟨g1, g2, g3, g4⟩ := r3
              have m39 : ∀ k, mup q.2.1 43 s (16 * s' + 3) 39 k = q.2.1 39 k := fun k => mup_cell (by decide)
              exact ⟨(m39 4).trans g1, (m39 10).trans g2, (m39 6).trans g3, (m39 11).trans g4⟩
            · have z1 : zF (mup q.2.1 43 s (16 * s' + 3) 43) s0 s ((p : Int) - p0) d := by
                refine zF_of hf (fun k x y => ?_)
                rw [mup_slot (by omega), q1.2.2.2.2 k (by omega)]
                exact e4' k (by omega)
              have z2 : zF (mup q.2.1 43 s (16 * s' + 3) 43) (s + 1) s' (((sub (a + 1) p).2.2.1 : Int) - p) (sub (a + 1) p).2.2.2 := zF_of r5 (fun k x y => mup_slot (by omega))
              have z3 := zF_con (s := 262) z1 mup_same z2 (by omega) (by decide)
              have e0 : ((p : Int) - p0) + (((sub (a + 1) p).2.2.1 : Int) - p) = ((sub (a + 1) p).2.2.1 : Int) - p0 := by omega
              rw [e0, ← c] at z3
              exact z3
            · intro h0
              have r8 := r7 h0
              have r9 := hfl r8.1
              exact ⟨r9.1, zNH_con r9.2 r8.2⟩
          · omega
        · simp (maxSteps := 5000000) (disch := first | assumption | omega) only [wpo_bind, wpo_some, wpo_gf, wpo_gk, wpo_ld, wpo_pf, wpo_pz, wpo_sd, wpo_sr, wpo_ln, wpo_idv, wpo_irm, wpo_lrm, wpo_ldv, wpo_cpy, mlet, mnar_int, mup_same, mup_cell, mup_slot, ite_true, ite_false, true_and, and_true, eq_self, or_true, true_or, and_self, Int.reduceLT, Int.reduceLE, Int.reduceEq, Int.reduceNe, Int.reduceAdd, Int.reduceSub, Int.reduceMul, Int.reduceNeg, ne_eq, not_false_eq_true, not_true_eq_false, false_or, or_false, zor_inl, zor_inr, Bool.false_eq_true, false_and, and_false, zk1, zk2, zk3, zk4, zk5, zk6, zk7, zk8, zk9, zk10, zk11, zk12, zk13, zk14, zk15, zk16, zk17, zk18, zk19, zk20, zk21, zk22, zk23, zk24, zk25, zk26, zk27, zk28, zk29, zk30, zk31, zk32, zk33, zk34, zk35, zk36, zk37, zk38, zk39, zk40, zk41, zk42, zk43, zk44, zk45, zk46, zk47, zk48, zk49, zk50, zk51, zk52, zk53, zk54, zk55, zk56, zk57, zk58, zk59, zk60, zk61, zk62, zk63, zk64, zk65, zk66, zk67, zk68, zk69, zk70, zk71, zk72, zk73, zk74, zk75, zk76, zk77, zk78, zk79, zk80, zk81, zk82, zk83, zk84, zk85, zk86, zk87, zk88, zk89, zk90, zr2_0, zr2_1, zr2_2, zr2_3, zr2_4, zr2_6, zr2_7, zr2_10, zr2_11, zr2_12, zr1_0, zr1_1, zr14_0, zr14_1, zr14_2, zr14_3, zr14_4, zr14_6, zr14_7, zr14_10, zr14_11, zr14_12, zr13_0, zr25_0, zr25_1, zr25_2, zr25_3, zr25_4, zr25_6, zr25_7, zr25_10, zr25_11, zr25_12, zr13_1, zr1_2, zr37_0, zr1_3, zr39_0, zr39_1, zr39_2, zr39_5, zr39_7, zr39_8, zr1_4, zr46_1, zr46_2, zr46_3, zr46_4, zr46_0, zr1_5, zr51_2, zr51_10, zr51_0, zr51_1, zr54_1, zr54_2, zr54_3, zr1_6, zr58_1, zr58_2, zr58_3, zr58_0, zr1_7, zr62_2, zr62_3, zr62_0, zr62_1, zr1_8, zr1_9, zr1_10, zr1_15, zr68_2, zr68_3, zr68_4, zr68_5, zr68_7, zr68_8, zr68_9, zr68_12, zr68_13, zr68_14, zr68_22, zr68_23, zr68_24, zr68_26, zr68_35, zr68_36, zr68_37, zr68_38, zr68_39, zr68_40, zr68_41, zr68_42, r2]
          exact Or.inr ⟨r1, _, rfl, fq, r3⟩
      refine wpo_call mid ?_
      intro z hz
      unfold zLp
      rw [if_pos (Or.inl c)]
      rcases hz with ⟨r1, σ2, s', fl', rfl, b1, b2, b3, b4, b5, b6⟩ | ⟨r1, σ2, rfl, b1, b2⟩
      · rw [if_pos r1]
        have sk := hsub (a + 1) p (by omega) p50
        rcases sk with ⟨k1, k2, k3, k4, k5, k6⟩ | ⟨k1, _⟩
        · exact ih M _ _ _ (i + 1) s' fl' σ2 a0 p0 s0 fl0 σ0 (by omega) (by omega) b1 (by omega) (by omega) (by omega) (by omega) b2 b3 b4 b5 b6
        · omega
      · rw [if_neg (by omega)]
        exact wpo_some.mpr ⟨b1, Or.inr ⟨r1, rfl, b2⟩⟩
    · rw [if_neg c] at tt
      refine wpo_call (Q := fun z => z = Sum.inr (1, σ)) ?_ ?_
      · show wpo (B_Reader_readBoth_8 G 39 dep i σ) _
        unfold B_Reader_readBoth_8
        simp (maxSteps := 5000000) (disch := first | assumption | omega) only [wpo_bind, wpo_some, wpo_gf, wpo_gk, wpo_ld, wpo_pf, wpo_pz, wpo_sd, wpo_sr, wpo_ln, wpo_idv, wpo_irm, wpo_lrm, wpo_ldv, wpo_cpy, mlet, mnar_int, mup_same, mup_cell, mup_slot, ite_true, ite_false, true_and, and_true, eq_self, or_true, true_or, and_self, Int.reduceLT, Int.reduceLE, Int.reduceEq, Int.reduceNe, Int.reduceAdd, Int.reduceSub, Int.reduceMul, Int.reduceNeg, ne_eq, not_false_eq_true, not_true_eq_false, false_or, or_false, zor_inl, zor_inr, Bool.false_eq_true, false_and, and_false, zk1, zk2, zk3, zk4, zk5, zk6, zk7, zk8, zk9, zk10, zk11, zk12, zk13, zk14, zk15, zk16, zk17, zk18, zk19, zk20, zk21, zk22, zk23, zk24, zk25, zk26, zk27, zk28, zk29, zk30, zk31, zk32, zk33, zk34, zk35, zk36, zk37, zk38, zk39, zk40, zk41, zk42, zk43, zk44, zk45, zk46, zk47, zk48, zk49, zk50, zk51, zk52, zk53, zk54, zk55, zk56, zk57, zk58, zk59, zk60, zk61, zk62, zk63, zk64, zk65, zk66, zk67, zk68, zk69, zk70, zk71, zk72, zk73, zk74, zk75, zk76, zk77, zk78, zk79, zk80, zk81, zk82, zk83, zk84, zk85, zk86, zk87, zk88, zk89, zk90, zr2_0, zr2_1, zr2_2, zr2_3, zr2_4, zr2_6, zr2_7, zr2_10, zr2_11, zr2_12, zr1_0, zr1_1, zr14_0, zr14_1, zr14_2, zr14_3, zr14_4, zr14_6, zr14_7, zr14_10, zr14_11, zr14_12, zr13_0, zr25_0, zr25_1, zr25_2, zr25_3, zr25_4, zr25_6, zr25_7, zr25_10, zr25_11, zr25_12, zr13_1, zr1_2, zr37_0, zr1_3, zr39_0, zr39_1, zr39_2, zr39_5, zr39_7, zr39_8, zr1_4, zr46_1, zr46_2, zr46_3, zr46_4, zr46_0, zr1_5, zr51_2, zr51_10, zr51_0, zr51_1, zr54_1, zr54_2, zr54_3, zr1_6, zr58_1, zr58_2, zr58_3, zr58_0, zr1_7, zr62_2, zr62_3, zr62_0, zr62_1, zr1_8, zr1_9, zr1_10, zr1_15, zr68_2, zr68_3, zr68_4, zr68_5, zr68_7, zr68_8, zr68_9, zr68_12, zr68_13, zr68_14, zr68_22, zr68_23, zr68_24, zr68_26, zr68_35, zr68_36, zr68_37, zr68_38, zr68_39, zr68_40, zr68_41, zr68_42, i4, tt]
      · intro z hz
        rw [hz]
        unfold zLp
        rw [if_neg (fun h => c (h.elim id id))]
        exact wpo_some.mpr ⟨hF, Or.inl ⟨rfl, rfl, s, fl, at', ⟨hs1, hs2⟩, hf, flb, hfl⟩⟩
set_option maxHeartbeats 4000000 in
theorem d_Both {K V : Nat → Int} {N : Nat} (hT : zTx K V N) {sub : Nat → Nat → zRe} (hsub : zSub N zD1 sub) {G : Nat → List mV → mS → Option (Int × mS)} {dep : Int} (hG : ∀ (a p : Nat) (s fl : Int) (σ : mS), zPre K V N a p s fl σ → wpo (G 214 [(3, 39), (1, dep)] σ) (zPo a p s fl (sub a p) σ))
    (a p : Nat) (s fl : Int) (σ : mS) (hP : zPre K V N a p s fl σ) : wpo (B_Reader_readBoth G 39 dep σ) (zPo a p s fl (zCh K 262 262 zcon sub a p) σ) := by
  have hB := hP.1.1
  generalize hQ : zPo a p s fl (zCh K 262 262 zcon sub a p) σ = Q
  unfold B_Reader_readBoth
  simp (maxSteps := 5000000) (disch := first | assumption | omega) only [wpo_bind, wpo_some, wpo_gf, wpo_gk, wpo_ld, wpo_pf, wpo_pz, wpo_sd, wpo_sr, wpo_ln, wpo_idv, wpo_irm, wpo_lrm, wpo_ldv, wpo_cpy, mlet, mnar_int, mup_same, mup_cell, mup_slot, ite_true, ite_false, true_and, and_true, eq_self, or_true, true_or, and_self, Int.reduceLT, Int.reduceLE, Int.reduceEq, Int.reduceNe, Int.reduceAdd, Int.reduceSub, Int.reduceMul, Int.reduceNeg, ne_eq, not_false_eq_true, not_true_eq_false, false_or, or_false, zor_inl, zor_inr, Bool.false_eq_true, false_and, and_false, zk1, zk2, zk3, zk4, zk5, zk6, zk7, zk8, zk9, zk10, zk11, zk12, zk13, zk14, zk15, zk16, zk17, zk18, zk19, zk20, zk21, zk22, zk23, zk24, zk25, zk26, zk27, zk28, zk29, zk30, zk31, zk32, zk33, zk34, zk35, zk36, zk37, zk38, zk39, zk40, zk41, zk42, zk43, zk44, zk45, zk46, zk47, zk48, zk49, zk50, zk51, zk52, zk53, zk54, zk55, zk56, zk57, zk58, zk59, zk60, zk61, zk62, zk63, zk64, zk65, zk66, zk67, zk68, zk69, zk70, zk71, zk72, zk73, zk74, zk75, zk76, zk77, zk78, zk79, zk80, zk81, zk82, zk83, zk84, zk85, zk86, zk87, zk88, zk89, zk90, zr2_0, zr2_1, zr2_2, zr2_3, zr2_4, zr2_6, zr2_7, zr2_10, zr2_11, zr2_12, zr1_0, zr1_1, zr14_0, zr14_1, zr14_2, zr14_3, zr14_4, zr14_6, zr14_7, zr14_10, zr14_11, zr14_12, zr13_0, zr25_0, zr25_1, zr25_2, zr25_3, zr25_4, zr25_6, zr25_7, zr25_10, zr25_11, zr25_12, zr13_1, zr1_2, zr37_0, zr1_3, zr39_0, zr39_1, zr39_2, zr39_5, zr39_7, zr39_8, zr1_4, zr46_1, zr46_2, zr46_3, zr46_4, zr46_0, zr1_5, zr51_2, zr51_10, zr51_0, zr51_1, zr54_1, zr54_2, zr54_3, zr1_6, zr58_1, zr58_2, zr58_3, zr58_0, zr1_7, zr62_2, zr62_3, zr62_0, zr62_1, zr1_8, zr1_9, zr1_10, zr1_15, zr68_2, zr68_3, zr68_4, zr68_5, zr68_7, zr68_8, zr68_9, zr68_12, zr68_13, zr68_14, zr68_22, zr68_23, zr68_24, zr68_26, zr68_35, zr68_36, zr68_37, zr68_38, zr68_39, zr68_40, zr68_41, zr68_42]
  refine wpo_mono (hG a p s fl σ hP) ?_
  intro q ⟨q1, q2⟩
  have sk := hsub a p hP.2.2.1 hP.2.2.2.1
  have N4 := hT.1
  have sa := hP.2.2.2.2.2.1
  have s0 := hP.2.2.2.2.1
  subst hQ
  unfold zCh
  rcases q2 with ⟨r1, r2, s', fl', r3, r4, r5, r6, r7⟩ | ⟨r1, r2, r3⟩
  · rcases sk with ⟨k1, k2, k3, k4, k5, k6⟩ | ⟨k1, _⟩
    · rw [if_neg (show ¬ q.1 = 0 by omega), if_pos r1]
      unfold M_Reader_readBoth_8
      exact d_BothLoop hT hsub hG 401 mN _ _ _ 0 s' fl' q.2 a p s fl σ (by rw [mN_eq]; decide) (by omega) ⟨hP.1.fr q1, r3, k3, k5, by omega, by omega, r6⟩ k2 k4 (by omega) (by omega) q1 r4.1 r4.2 r5 r7
    · omega
  · rw [if_pos r2, if_neg (show ¬ (sub a p).1 = 1 by omega)]
    exact wpo_some.mpr ⟨q1, Or.inr ⟨r1, rfl, r3⟩⟩
