/-! COMPARISONS, brackets, NOT as the reference tells them -/
theorem zCmp_1 {K : Nat → Int} {N : Nat} {s : Nat → Nat → zRe} {a p : Nat} (hs : zSub N zDb s) (ha : a ≤ N) (hp : p ≤ 50) (hN : K N = 256) (h : (zCmp K s a p).1 = 1) : (s a p).1 = 1 ∧ (K (s a p).2.1 = 60 ∨ K (s a p).2.1 = 62 ∨ K (s a p).2.1 = 61) ∧ (s a p).2.1 < N ∧ (s a p).2.2.1 ≤ 50 ∧ (s ((s a p).2.1 + 1) (s a p).2.2.1).1 = 1 ∧ (s ((s a p).2.1 + 1) (s a p).2.2.1).2.1 ≤ N ∧ zCmp K s a p = (1, (s ((s a p).2.1 + 1) (s a p).2.2.1).2.1, (s ((s a p).2.1 + 1) (s a p).2.2.1).2.2.1, zbin (K (s a p).2.1) (s a p).2.2.2 (s ((s a p).2.1 + 1) (s a p).2.2.1).2.2.2) := by
  unfold zCmp at h ⊢
  rcases hs a p ha hp with ⟨k1, k2, k3, k4, k5, k6⟩ | ⟨k1, _⟩
  · rw [if_pos k1] at h ⊢
    by_cases c : K (s a p).2.1 = 60 ∨ K (s a p).2.1 = 62 ∨ K (s a p).2.1 = 61
    · rw [if_pos c] at h ⊢
      have ne : (s a p).2.1 ≠ N := by intro e; rw [e, hN] at c; omega
      rcases hs ((s a p).2.1 + 1) (s a p).2.2.1 (by omega) k5 with ⟨y1, y2, y3, y4, y5, y6⟩ | ⟨y1, _⟩
      · rw [if_pos y1]
        exact ⟨k1, c, by omega, k5, y1, y3, rfl⟩
      · rw [if_neg (by omega)] at h; omega
    · rw [if_neg c] at h
      exact absurd h (by show ¬ (0 : Nat) = 1; decide)
  · rw [if_neg (by omega)] at h; omega
set_option maxHeartbeats 8000000 in
theorem v_cmp {K V : Nat → Int} {N : Nat} (hT : zTx K V N) {A : Int → Int} {t : Int} (hA : zAk K V N A t) (hK : ∀ j : Nat, j ≤ N → 0 ≤ K j ∧ K j < 270) {w : Int → Int} {live : Int} (hl : live = 0 ∨ live = 1) {s : Nat → Nat → zRe} (hsub : zSub N zDb s) (hS : zEs N A t w live (R_Mo_sumOf mD 102 [(3, 68), (1, live)]) s) {G : Nat → List mV → mS → Option (Int × mS)} {a p : Nat} {br : Int} {σ : mS} (hk : K a ≠ 40) (hok : (zCmp K s a p).1 = 1) (aN : a ≤ N) (p50 : p ≤ 50) (hE : zEv A N t w σ) (hs : zAe t a br σ) (brb : br = 0 ∨ br = 1) :
    wpo (B_Mo_positiveOf G 68 live σ) (fun q => zFe σ q.2 ∧ ∃ br', zAe t (zCmp K s a p).2.1 br' q.2 ∧ zRt live br (zCmp K s a p).2.2.2 w q.1 br') := by
  obtain ⟨k1, kc, kN, kp, y1, yN, ez⟩ := zCmp_1 hsub aN p50 hT.2.1 hok
  rw [ez]
  have hB := hE.1
  have ky := hK a aN
  have N4 := hT.1
  have t0 := hA.1
  have pa := v_passes (c := w32 140) hT hA hE aN hs
  have s1 : w32 140 = 100 + 40 := by decide
  rw [if_neg (by rw [s1]; exact fun e => hk ((phi_sign (c := 40) ky (by decide)).mp e))] at pa
  have g1 := hS a p br σ k1 aN p50 hE hs brb
  have n10 : ¬ (1 : Int) = 0 := by decide
  generalize hQ : (fun q : Int × mS => zFe σ q.2 ∧ ∃ br', zAe t ((1, (s ((s a p).2.1 + 1) (s a p).2.2.1).2.1, (s ((s a p).2.1 + 1) (s a p).2.2.1).2.2.1, zbin (K (s a p).2.1) (s a p).2.2.2 (s ((s a p).2.1 + 1) (s a p).2.2.1).2.2.2) : zRe).2.1 br' q.2 ∧ zRt live br ((1, (s ((s a p).2.1 + 1) (s a p).2.2.1).2.1, (s ((s a p).2.1 + 1) (s a p).2.2.1).2.2.1, zbin (K (s a p).2.1) (s a p).2.2.2 (s ((s a p).2.1 + 1) (s a p).2.2.1).2.2.2) : zRe).2.2.2 w q.1 br') = Q
  unfold B_Mo_positiveOf M_Mo_sign
  simp (maxSteps := 5000000) (disch := first | assumption | omega) only [wpo_bind, wpo_some, wpo_gf, wpo_gk, wpo_ld, wpo_pf, wpo_pz, wpo_sd, wpo_sr, wpo_ln, wpo_idv, wpo_irm, wpo_lrm, wpo_ldv, wpo_cpy, mlet, mnar_int, mup_same, mup_cell, mup_slot, ite_true, ite_false, true_and, and_true, eq_self, or_true, true_or, and_self, Int.reduceLT, Int.reduceLE, Int.reduceEq, Int.reduceNe, Int.reduceAdd, Int.reduceSub, Int.reduceMul, Int.reduceNeg, ne_eq, not_false_eq_true, not_true_eq_false, false_or, or_false, zor_inl, zor_inr, Bool.false_eq_true, false_and, and_false, zk1, zk2, zk3, zk4, zk5, zk6, zk7, zk8, zk9, zk10, zk11, zk12, zk13, zk14, zk15, zk16, zk17, zk18, zk19, zk20, zk21, zk22, zk23, zk24, zk25, zk26, zk27, zk28, zk29, zk30, zk31, zk32, zk33, zk34, zk35, zk36, zk37, zk38, zk39, zk40, zk41, zk42, zk43, zk44, zk45, zk46, zk47, zk48, zk49, zk50, zk51, zk52, zk53, zk54, zk55, zk56, zk57, zk58, zk59, zk60, zk61, zk62, zk63, zk64, zk65, zk66, zk67, zk68, zk69, zk70, zk71, zk72, zk73, zk74, zk75, zk76, zk77, zk78, zk79, zk80, zk81, zk82, zk83, zk84, zk85, zk86, zk87, zk88, zk89, zk90, zr2_0, zr2_1, zr2_2, zr2_3, zr2_4, zr2_6, zr2_7, zr2_10, zr2_11, zr2_12, zr1_0, zr1_1, zr14_0, zr14_1, zr14_2, zr14_3, zr14_4, zr14_6, zr14_7, zr14_10, zr14_11, zr14_12, zr13_0, zr25_0, zr25_1, zr25_2, zr25_3, zr25_4, zr25_6, zr25_7, zr25_10, zr25_11, zr25_12, zr13_1, zr1_2, zr37_0, zr1_3, zr39_0, zr39_1, zr39_2, zr39_5, zr39_7, zr39_8, zr1_4, zr46_1, zr46_2, zr46_3, zr46_4, zr46_0, zr1_5, zr51_2, zr51_10, zr51_0, zr51_1, zr54_1, zr54_2, zr54_3, zr1_6, zr58_1, zr58_2, zr58_3, zr58_0, zr1_7, zr62_2, zr62_3, zr62_0, zr62_1, zr1_8, zr1_9, zr1_10, zr1_15, zr68_2, zr68_3, zr68_4, zr68_5, zr68_7, zr68_8, zr68_9, zr68_12, zr68_13, zr68_14, zr68_22, zr68_23, zr68_24, zr68_26, zr68_35, zr68_36, zr68_37, zr68_38, zr68_39, zr68_40, zr68_41, zr68_42, pa]
  refine wpo_mono g1 ?_
  intro q ⟨q1, br1, q2, q3⟩
  have hBq := q1.2.1
  have eq1 := hE.fe q1
  have q19 := q2.1
  have cd := v_codeAt (a := (s a p).2.1) hT hA eq1 (by omega)
  obtain ⟨tf, te, ta⟩ := v_tok (b := (s a p).2.1 + 1) eq1 q2
  have hB1 := te.1
  have w1 : ∀ u : Int, u = 400 * t + ((s a p).2.1 : Int) → w32 (u + 1) = 400 * t + (((s a p).2.1 + 1 : Nat) : Int) := fun u hu => by rw [w32_in (by omega) (by omega)]; omega
  have g2 := hS ((s a p).2.1 + 1) (s a p).2.2.1 br1 _ y1 (by omega) kp te ta q3.1
  simp (maxSteps := 5000000) (disch := first | assumption | omega) only [wpo_bind, wpo_some, wpo_gf, wpo_gk, wpo_ld, wpo_pf, wpo_pz, wpo_sd, wpo_sr, wpo_ln, wpo_idv, wpo_irm, wpo_lrm, wpo_ldv, wpo_cpy, mlet, mnar_int, mup_same, mup_cell, mup_slot, ite_true, ite_false, true_and, and_true, eq_self, or_true, true_or, and_self, Int.reduceLT, Int.reduceLE, Int.reduceEq, Int.reduceNe, Int.reduceAdd, Int.reduceSub, Int.reduceMul, Int.reduceNeg, ne_eq, not_false_eq_true, not_true_eq_false, false_or, or_false, zor_inl, zor_inr, Bool.false_eq_true, false_and, and_false, zk1, zk2, zk3, zk4, zk5, zk6, zk7, zk8, zk9, zk10, zk11, zk12, zk13, zk14, zk15, zk16, zk17, zk18, zk19, zk20, zk21, zk22, zk23, zk24, zk25, zk26, zk27, zk28, zk29, zk30, zk31, zk32, zk33, zk34, zk35, zk36, zk37, zk38, zk39, zk40, zk41, zk42, zk43, zk44, zk45, zk46, zk47, zk48, zk49, zk50, zk51, zk52, zk53, zk54, zk55, zk56, zk57, zk58, zk59, zk60, zk61, zk62, zk63, zk64, zk65, zk66, zk67, zk68, zk69, zk70, zk71, zk72, zk73, zk74, zk75, zk76, zk77, zk78, zk79, zk80, zk81, zk82, zk83, zk84, zk85, zk86, zk87, zk88, zk89, zk90, zr2_0, zr2_1, zr2_2, zr2_3, zr2_4, zr2_6, zr2_7, zr2_10, zr2_11, zr2_12, zr1_0, zr1_1, zr14_0, zr14_1, zr14_2, zr14_3, zr14_4, zr14_6, zr14_7, zr14_10, zr14_11, zr14_12, zr13_0, zr25_0, zr25_1, zr25_2, zr25_3, zr25_4, zr25_6, zr25_7, zr25_10, zr25_11, zr25_12, zr13_1, zr1_2, zr37_0, zr1_3, zr39_0, zr39_1, zr39_2, zr39_5, zr39_7, zr39_8, zr1_4, zr46_1, zr46_2, zr46_3, zr46_4, zr46_0, zr1_5, zr51_2, zr51_10, zr51_0, zr51_1, zr54_1, zr54_2, zr54_3, zr1_6, zr58_1, zr58_2, zr58_3, zr58_0, zr1_7, zr62_2, zr62_3, zr62_0, zr62_1, zr1_8, zr1_9, zr1_10, zr1_15, zr68_2, zr68_3, zr68_4, zr68_5, zr68_7, zr68_8, zr68_9, zr68_12, zr68_13, zr68_14, zr68_22, zr68_23, zr68_24, zr68_26, zr68_35, zr68_36, zr68_37, zr68_38, zr68_39, zr68_40, zr68_41, zr68_42, q19, cd, w1]
  refine wpo_mono g2 ?_
  intro z ⟨z1, br2, z2, z3⟩
  have hBz := z1.2.1
  have fz := (q1.trans tf).trans z1
  have z21 := z2.2
  have kk := hK (s a p).2.1 (by omega)
  -- what is answered
  have fin : ∀ u : Int, (u = 0 ∨ u = 1) → (live = 1 → br2 = 0 → zop (K (s a p).2.1) q.1 z.1 = some u) → Q (u, z.2) := by
    intro u hu hz
    rw [← hQ]
    obtain ⟨a1, a2, a3, a4⟩ := q3
    obtain ⟨b1, b2, b3, b4⟩ := z3
    refine ⟨fz, br2, z2, b1, hu, ?_, ?_⟩
    · intro act
      show (∀ x, zbin (K (s a p).2.1) (s a p).2.2.2 (s ((s a p).2.1 + 1) (s a p).2.2.1).2.2.2 w = some x → u = x ∧ br2 = 0) ∧ (zbin (K (s a p).2.1) (s a p).2.2.2 (s ((s a p).2.1 + 1) (s a p).2.2.1).2.2.2 w = none → br2 = 1)
      obtain ⟨p1, p2⟩ := a3 act
      cases ed : (s a p).2.2.2 w with
      | none =>
        have := p2 ed
        have := b4 (by omega)
        rw [zbin_none1 ed]
        exact ⟨fun x hx => (by cases hx), fun _ => by omega⟩
      | some x =>
        obtain ⟨x1, x2⟩ := p1 x ed
        obtain ⟨p3, p4⟩ := b3 ⟨act.1, x2⟩
        cases ee : (s ((s a p).2.1 + 1) (s a p).2.2.1).2.2.2 w with
        | none =>
          have := p4 ee
          rw [zbin_none2 ee]
          exact ⟨fun x hx => (by cases hx), fun _ => this⟩
        | some y =>
          obtain ⟨y1, y2⟩ := p3 y ee
          rw [zbin_some ed ee, ← x1, ← y1, hz act.1 y2]
          exact ⟨fun x hx => (by cases hx; exact ⟨rfl, y2⟩), fun h => by cases h⟩
    · intro na
      have e1 := (a4 na).1
      have e2 := (b4 (fun h => na ⟨h.1, by omega⟩)).1
      omega
  have l1 := v_lcp q.1 z.1
  rcases hl with l0 | l1'
  · simp (maxSteps := 5000000) (disch := first | assumption | omega) only [wpo_bind, wpo_some, wpo_gf, wpo_gk, wpo_ld, wpo_pf, wpo_pz, wpo_sd, wpo_sr, wpo_ln, wpo_idv, wpo_irm, wpo_lrm, wpo_ldv, wpo_cpy, mlet, mnar_int, mup_same, mup_cell, mup_slot, ite_true, ite_false, true_and, and_true, eq_self, or_true, true_or, and_self, Int.reduceLT, Int.reduceLE, Int.reduceEq, Int.reduceNe, Int.reduceAdd, Int.reduceSub, Int.reduceMul, Int.reduceNeg, ne_eq, not_false_eq_true, not_true_eq_false, false_or, or_false, zor_inl, zor_inr, Bool.false_eq_true, false_and, and_false, zk1, zk2, zk3, zk4, zk5, zk6, zk7, zk8, zk9, zk10, zk11, zk12, zk13, zk14, zk15, zk16, zk17, zk18, zk19, zk20, zk21, zk22, zk23, zk24, zk25, zk26, zk27, zk28, zk29, zk30, zk31, zk32, zk33, zk34, zk35, zk36, zk37, zk38, zk39, zk40, zk41, zk42, zk43, zk44, zk45, zk46, zk47, zk48, zk49, zk50, zk51, zk52, zk53, zk54, zk55, zk56, zk57, zk58, zk59, zk60, zk61, zk62, zk63, zk64, zk65, zk66, zk67, zk68, zk69, zk70, zk71, zk72, zk73, zk74, zk75, zk76, zk77, zk78, zk79, zk80, zk81, zk82, zk83, zk84, zk85, zk86, zk87, zk88, zk89, zk90, zr2_0, zr2_1, zr2_2, zr2_3, zr2_4, zr2_6, zr2_7, zr2_10, zr2_11, zr2_12, zr1_0, zr1_1, zr14_0, zr14_1, zr14_2, zr14_3, zr14_4, zr14_6, zr14_7, zr14_10, zr14_11, zr14_12, zr13_0, zr25_0, zr25_1, zr25_2, zr25_3, zr25_4, zr25_6, zr25_7, zr25_10, zr25_11, zr25_12, zr13_1, zr1_2, zr37_0, zr1_3, zr39_0, zr39_1, zr39_2, zr39_5, zr39_7, zr39_8, zr1_4, zr46_1, zr46_2, zr46_3, zr46_4, zr46_0, zr1_5, zr51_2, zr51_10, zr51_0, zr51_1, zr54_1, zr54_2, zr54_3, zr1_6, zr58_1, zr58_2, zr58_3, zr58_0, zr1_7, zr62_2, zr62_3, zr62_0, zr62_1, zr1_8, zr1_9, zr1_10, zr1_15, zr68_2, zr68_3, zr68_4, zr68_5, zr68_7, zr68_8, zr68_9, zr68_12, zr68_13, zr68_14, zr68_22, zr68_23, zr68_24, zr68_26, zr68_35, zr68_36, zr68_37, zr68_38, zr68_39, zr68_40, zr68_41, zr68_42, l0]
    exact fin 0 (Or.inl rfl) (fun h => by omega)
  · simp (maxSteps := 5000000) (disch := first | assumption | omega) only [wpo_bind, wpo_some, wpo_gf, wpo_gk, wpo_ld, wpo_pf, wpo_pz, wpo_sd, wpo_sr, wpo_ln, wpo_idv, wpo_irm, wpo_lrm, wpo_ldv, wpo_cpy, mlet, mnar_int, mup_same, mup_cell, mup_slot, ite_true, ite_false, true_and, and_true, eq_self, or_true, true_or, and_self, Int.reduceLT, Int.reduceLE, Int.reduceEq, Int.reduceNe, Int.reduceAdd, Int.reduceSub, Int.reduceMul, Int.reduceNeg, ne_eq, not_false_eq_true, not_true_eq_false, false_or, or_false, zor_inl, zor_inr, Bool.false_eq_true, false_and, and_false, zk1, zk2, zk3, zk4, zk5, zk6, zk7, zk8, zk9, zk10, zk11, zk12, zk13, zk14, zk15, zk16, zk17, zk18, zk19, zk20, zk21, zk22, zk23, zk24, zk25, zk26, zk27, zk28, zk29, zk30, zk31, zk32, zk33, zk34, zk35, zk36, zk37, zk38, zk39, zk40, zk41, zk42, zk43, zk44, zk45, zk46, zk47, zk48, zk49, zk50, zk51, zk52, zk53, zk54, zk55, zk56, zk57, zk58, zk59, zk60, zk61, zk62, zk63, zk64, zk65, zk66, zk67, zk68, zk69, zk70, zk71, zk72, zk73, zk74, zk75, zk76, zk77, zk78, zk79, zk80, zk81, zk82, zk83, zk84, zk85, zk86, zk87, zk88, zk89, zk90, zr2_0, zr2_1, zr2_2, zr2_3, zr2_4, zr2_6, zr2_7, zr2_10, zr2_11, zr2_12, zr1_0, zr1_1, zr14_0, zr14_1, zr14_2, zr14_3, zr14_4, zr14_6, zr14_7, zr14_10, zr14_11, zr14_12, zr13_0, zr25_0, zr25_1, zr25_2, zr25_3, zr25_4, zr25_6, zr25_7, zr25_10, zr25_11, zr25_12, zr13_1, zr1_2, zr37_0, zr1_3, zr39_0, zr39_1, zr39_2, zr39_5, zr39_7, zr39_8, zr1_4, zr46_1, zr46_2, zr46_3, zr46_4, zr46_0, zr1_5, zr51_2, zr51_10, zr51_0, zr51_1, zr54_1, zr54_2, zr54_3, zr1_6, zr58_1, zr58_2, zr58_3, zr58_0, zr1_7, zr62_2, zr62_3, zr62_0, zr62_1, zr1_8, zr1_9, zr1_10, zr1_15, zr68_2, zr68_3, zr68_4, zr68_5, zr68_7, zr68_8, zr68_9, zr68_12, zr68_13, zr68_14, zr68_22, zr68_23, zr68_24, zr68_26, zr68_35, zr68_36, zr68_37, zr68_38, zr68_39, zr68_40, zr68_41, zr68_42, l1', n10, z21]
    by_cases cb : br2 = 0
    · rw [if_pos cb]
      have s60 : w32 160 = 100 + 60 := by decide
      have s62 : w32 162 = 100 + 62 := by decide
      rw [s60, s62]
      have p60 := phi_sign (c := 60) kk (by decide)
      have p62 := phi_sign (c := 62) kk (by decide)
      have fin' : ∀ u : Int, (u = 0 ∨ u = 1) → zop (K (s a p).2.1) q.1 z.1 = some u → wpo (some (u, z.2)) Q := fun u hu h => wpo_some.mpr (fin u hu (fun _ _ => h))
      refine wpo_bind.mpr (wpo_some.mpr ?_)
      rcases kc with c | c | c
      · rw [if_pos (p60.mpr c)]
        have e : zop (K (s a p).2.1) q.1 z.1 = some (if q.1 < z.1 then 1 else 0) := by rw [c]; rfl
        by_cases cc : q.1 < z.1
        · rw [if_pos (l1.1.mpr cc)]
          rw [if_pos cc] at e
          exact fin' 1 (Or.inr rfl) e
        · rw [if_neg (fun h => cc (l1.1.mp h))]
          rw [if_neg cc] at e
          exact fin' 0 (Or.inl rfl) e
      · rw [if_neg (fun h => by have := p60.mp h; omega)]
        refine wpo_bind.mpr (wpo_some.mpr ?_)
        rw [if_pos (p62.mpr c)]
        have e : zop (K (s a p).2.1) q.1 z.1 = some (if z.1 < q.1 then 1 else 0) := by rw [c]; rfl
        by_cases cc : z.1 < q.1
        · rw [if_pos (l1.2.1.mpr cc)]
          rw [if_pos cc] at e
          exact fin' 1 (Or.inr rfl) e
        · rw [if_neg (fun h => cc (l1.2.1.mp h))]
          rw [if_neg cc] at e
          exact fin' 0 (Or.inl rfl) e
      · rw [if_neg (fun h => by have := p60.mp h; omega)]
        refine wpo_bind.mpr (wpo_some.mpr ?_)
        rw [if_neg (fun h => by have := p62.mp h; omega)]
        have e : zop (K (s a p).2.1) q.1 z.1 = some (if q.1 = z.1 then 1 else 0) := by rw [c]; rfl
        by_cases cc : q.1 = z.1
        · rw [if_pos (l1.2.2.mpr cc)]
          rw [if_pos cc] at e
          exact fin' 1 (Or.inr rfl) e
        · rw [if_neg (fun h => cc (l1.2.2.mp h))]
          rw [if_neg cc] at e
          exact fin' 0 (Or.inl rfl) e
    · rw [if_neg cb]
      exact wpo_some.mpr (fin 0 (Or.inl rfl) (fun _ h => absurd h cb))
set_option maxHeartbeats 4000000 in
theorem v_inbr {K V : Nat → Int} {N : Nat} (hT : zTx K V N) {A : Int → Int} {t : Int} (hA : zAk K V N A t) (hK : ∀ j : Nat, j ≤ N → 0 ≤ K j ∧ K j < 270) {w : Int → Int} {live : Int} {g : Nat → Nat → zRe} (hg : zSub N zD1 g) {G : Nat → List mV → mS → Option (Int × mS)} (hG : zEt N A t w live (G 105 [(3, 68), (1, live)]) g) {a p : Nat} {br : Int} {σ : mS} (hk : K a = 40) (hok : (zBr K 41 g a p).1 = 1) (aN : a ≤ N) (p50 : p ≤ 50) (hE : zEv A N t w σ) (hs : zAe t a br σ) (brb : br = 0 ∨ br = 1) :
    wpo (B_Mo_positiveOf G 68 live σ) (fun q => zFe σ q.2 ∧ ∃ br', zAe t (zBr K 41 g a p).2.1 br' q.2 ∧ zRt live br (zBr K 41 g a p).2.2.2 w q.1 br') := by
  have ne : a ≠ N := by intro e; rw [e, hT.2.1] at hk; omega
  have rk := hg (a + 1) p (by omega) p50
  obtain ⟨k1, kc, eb⟩ := zBr_1 rk hok
  rw [eb]
  rcases rk with ⟨_, k2, k3, k4, k5, k6⟩ | ⟨k0, _⟩
  · have hB := hE.1
    have ky := hK a aN
    have N4 := hT.1
    have t0 := hA.1
    have pa := v_passes (c := w32 140) hT hA hE aN hs
    have s1 : w32 140 = 100 + 40 := by decide
    rw [if_pos (by rw [s1]; exact (phi_sign (c := 40) ky (by decide)).mpr hk)] at pa
    obtain ⟨tf, te, ta⟩ := v_tok (b := a + 1) hE hs
    have hB1 := te.1
    have g1 := hG (a + 1) p br _ k1 (by omega) p50 te ta brb
    have n10 : ¬ (1 : Int) = 0 := by decide
    have w1 : ∀ u : Int, u = 400 * t + ((g (a + 1) p).2.1 : Int) → w32 (u + 1) = 400 * t + (((g (a + 1) p).2.1 + 1 : Nat) : Int) := fun u hu => by rw [w32_in (by omega) (by omega)]; omega
    generalize hQ : (fun q : Int × mS => zFe σ q.2 ∧ ∃ br', zAe t ((1, (g (a + 1) p).2.1 + 1, (g (a + 1) p).2.2.1, (g (a + 1) p).2.2.2) : zRe).2.1 br' q.2 ∧ zRt live br ((1, (g (a + 1) p).2.1 + 1, (g (a + 1) p).2.2.1, (g (a + 1) p).2.2.2) : zRe).2.2.2 w q.1 br') = Q
    unfold B_Mo_positiveOf M_Mo_sign
    simp (maxSteps := 5000000) (disch := first | assumption | omega) only [wpo_bind, wpo_some, wpo_gf, wpo_gk, wpo_ld, wpo_pf, wpo_pz, wpo_sd, wpo_sr, wpo_ln, wpo_idv, wpo_irm, wpo_lrm, wpo_ldv, wpo_cpy, mlet, mnar_int, mup_same, mup_cell, mup_slot, ite_true, ite_false, true_and, and_true, eq_self, or_true, true_or, and_self, Int.reduceLT, Int.reduceLE, Int.reduceEq, Int.reduceNe, Int.reduceAdd, Int.reduceSub, Int.reduceMul, Int.reduceNeg, ne_eq, not_false_eq_true, not_true_eq_false, false_or, or_false, zor_inl, zor_inr, Bool.false_eq_true, false_and, and_false, zk1, zk2, zk3, zk4, zk5, zk6, zk7, zk8, zk9, zk10, zk11, zk12, zk13, zk14, zk15, zk16, zk17, zk18, zk19, zk20, zk21, zk22, zk23, zk24, zk25, zk26, zk27, zk28, zk29, zk30, zk31, zk32, zk33, zk34, zk35, zk36, zk37, zk38, zk39, zk40, zk41, zk42, zk43, zk44, zk45, zk46, zk47, zk48, zk49, zk50, zk51, zk52, zk53, zk54, zk55, zk56, zk57, zk58, zk59, zk60, zk61, zk62, zk63, zk64, zk65, zk66, zk67, zk68, zk69, zk70, zk71, zk72, zk73, zk74, zk75, zk76, zk77, zk78, zk79, zk80, zk81, zk82, zk83, zk84, zk85, zk86, zk87, zk88, zk89, zk90, zr2_0, zr2_1, zr2_2, zr2_3, zr2_4, zr2_6, zr2_7, zr2_10, zr2_11, zr2_12, zr1_0, zr1_1, zr14_0, zr14_1, zr14_2, zr14_3, zr14_4, zr14_6, zr14_7, zr14_10, zr14_11, zr14_12, zr13_0, zr25_0, zr25_1, zr25_2, zr25_3, zr25_4, zr25_6, zr25_7, zr25_10, zr25_11, zr25_12, zr13_1, zr1_2, zr37_0, zr1_3, zr39_0, zr39_1, zr39_2, zr39_5, zr39_7, zr39_8, zr1_4, zr46_1, zr46_2, zr46_3, zr46_4, zr46_0, zr1_5, zr51_2, zr51_10, zr51_0, zr51_1, zr54_1, zr54_2, zr54_3, zr1_6, zr58_1, zr58_2, zr58_3, zr58_0, zr1_7, zr62_2, zr62_3, zr62_0, zr62_1, zr1_8, zr1_9, zr1_10, zr1_15, zr68_2, zr68_3, zr68_4, zr68_5, zr68_7, zr68_8, zr68_9, zr68_12, zr68_13, zr68_14, zr68_22, zr68_23, zr68_24, zr68_26, zr68_35, zr68_36, zr68_37, zr68_38, zr68_39, zr68_40, zr68_41, zr68_42, pa, n10]
    refine wpo_mono g1 ?_
    intro q ⟨q1, br', q2, q3⟩
    have hBq := q1.2.1
    have q19 := q2.1
    have q01 := q3.2.1
    obtain ⟨uf, ue, ua⟩ := v_tok (b := (g (a + 1) p).2.1 + 1) (te.fe q1) q2
    simp (maxSteps := 5000000) (disch := first | assumption | omega) only [wpo_bind, wpo_some, wpo_gf, wpo_gk, wpo_ld, wpo_pf, wpo_pz, wpo_sd, wpo_sr, wpo_ln, wpo_idv, wpo_irm, wpo_lrm, wpo_ldv, wpo_cpy, mlet, mnar_int, mup_same, mup_cell, mup_slot, ite_true, ite_false, true_and, and_true, eq_self, or_true, true_or, and_self, Int.reduceLT, Int.reduceLE, Int.reduceEq, Int.reduceNe, Int.reduceAdd, Int.reduceSub, Int.reduceMul, Int.reduceNeg, ne_eq, not_false_eq_true, not_true_eq_false, false_or, or_false, zor_inl, zor_inr, Bool.false_eq_true, false_and, and_false, zk1, zk2, zk3, zk4, zk5, zk6, zk7, zk8, zk9, zk10, zk11, zk12, zk13, zk14, zk15, zk16, zk17, zk18, zk19, zk20, zk21, zk22, zk23, zk24, zk25, zk26, zk27, zk28, zk29, zk30, zk31, zk32, zk33, zk34, zk35, zk36, zk37, zk38, zk39, zk40, zk41, zk42, zk43, zk44, zk45, zk46, zk47, zk48, zk49, zk50, zk51, zk52, zk53, zk54, zk55, zk56, zk57, zk58, zk59, zk60, zk61, zk62, zk63, zk64, zk65, zk66, zk67, zk68, zk69, zk70, zk71, zk72, zk73, zk74, zk75, zk76, zk77, zk78, zk79, zk80, zk81, zk82, zk83, zk84, zk85, zk86, zk87, zk88, zk89, zk90, zr2_0, zr2_1, zr2_2, zr2_3, zr2_4, zr2_6, zr2_7, zr2_10, zr2_11, zr2_12, zr1_0, zr1_1, zr14_0, zr14_1, zr14_2, zr14_3, zr14_4, zr14_6, zr14_7, zr14_10, zr14_11, zr14_12, zr13_0, zr25_0, zr25_1, zr25_2, zr25_3, zr25_4, zr25_6, zr25_7, zr25_10, zr25_11, zr25_12, zr13_1, zr1_2, zr37_0, zr1_3, zr39_0, zr39_1, zr39_2, zr39_5, zr39_7, zr39_8, zr1_4, zr46_1, zr46_2, zr46_3, zr46_4, zr46_0, zr1_5, zr51_2, zr51_10, zr51_0, zr51_1, zr54_1, zr54_2, zr54_3, zr1_6, zr58_1, zr58_2, zr58_3, zr58_0, zr1_7, zr62_2, zr62_3, zr62_0, zr62_1, zr1_8, zr1_9, zr1_10, zr1_15, zr68_2, zr68_3, zr68_4, zr68_5, zr68_7, zr68_8, zr68_9, zr68_12, zr68_13, zr68_14, zr68_22, zr68_23, zr68_24, zr68_26, zr68_35, zr68_36, zr68_37, zr68_38, zr68_39, zr68_40, zr68_41, zr68_42, q19, w1, q01]
    rw [← hQ]
    exact ⟨(tf.trans q1).trans uf, br', ua, q3⟩
  · omega
set_option maxHeartbeats 4000000 in
theorem v_plainLoop {K V : Nat → Int} {N : Nat} (hT : zTx K V N) {A : Int → Int} {t : Int} (hA : zAk K V N A t) (hK : ∀ j : Nat, j ≤ N → 0 ≤ K j ∧ K j < 270) {w : Int → Int} {live : Int} {g : Nat → Nat → zRe} (hg : zSub N zD1 g) {G : Nat → List mV → mS → Option (Int × mS)} (hG : zEt N A t w live (G 108 [(3, 68), (1, live)]) g) :
    ∀ (n M a0 a p : Nat) (br : Int) (σ0 σ : mS), n < M → N < a + n → a0 ≤ a → a ≤ N → p ≤ 50 → zEv A N t w σ → zAe t a br σ → (br = 0 ∨ br = 1) → zFe σ0 σ → zNt K 401 a0 = zNt K n a → (zPlN K g a0 p).1 = 1 →
    wpo (miter (fun s : Int × mS => B_Mo_plainOf_2 G 68 live s.1 s.2) M ((((a - a0) % 2 : Nat) : Int), σ)) (fun q => zFe σ0 q.2 ∧ ∃ br', zAe t (zPlN K g a0 p).2.1 br' q.2 ∧ zRt live br (zPlN K g a0 p).2.2.2 w q.1 br') := by
  have n10 : ¬ (1 : Int) = 0 := by decide
  intro n
  induction n with
  | zero => intro M a0 a p br σ0 σ _ h1 _ h2; omega
  | succ n ih =>
    intro M a0 a p br σ0 σ hM hn h0 aN p50 hE hs brb hF hz hok
    obtain ⟨M, rfl⟩ : ∃ K, M = K + 1 := ⟨M - 1, by omega⟩
    have hB := hE.1
    have ky := hK a aN
    have pa := v_passes (c := 5) hT hA hE aN hs
    have pw := phi_word (k := K a) (j := 5) ky (by decide)
    unfold miter
    by_cases c : K a = 263
    · rw [if_pos (pw.mpr (by omega))] at pa
      have ne : a ≠ N := by intro e; rw [e, hT.2.1] at c; omega
      obtain ⟨tf, te, ta⟩ := v_tok (b := a + 1) hE hs
      refine wpo_call (Q := fun z => z = Sum.inl ((((a + 1 - a0) % 2 : Nat) : Int), (mup σ.1 68 19 (400 * t + ((a + 1 : Nat) : Int)), σ.2))) ?_ ?_
      · show wpo (B_Mo_plainOf_2 G 68 live (((a - a0) % 2 : Nat) : Int) σ) _
        unfold B_Mo_plainOf_2
        refine wpo_bind.mpr (wpo_gk.mpr ⟨zk68 hB ▸ rfl, ?_⟩)
        rw [pa]
        refine wpo_bind.mpr (wpo_some.mpr ?_)
        rw [if_neg n10]
        by_cases cp : (a - a0) % 2 = 0
        · have e1 : (((a - a0) % 2 : Nat) : Int) = 0 := by omega
          have e2 : (((a + 1 - a0) % 2 : Nat) : Int) = 1 := by omega
          rw [e1, e2, if_pos rfl]
          exact wpo_some.mpr rfl
        · have e1 : (((a - a0) % 2 : Nat) : Int) = 1 := by omega
          have e2 : (((a + 1 - a0) % 2 : Nat) : Int) = 0 := by omega
          rw [e1, e2, if_neg n10]
          exact wpo_some.mpr rfl
      · intro z hz'
        rw [hz']
        refine ih M a0 (a + 1) p br σ0 _ (by omega) (by omega) (by omega) (by omega) p50 te ta brb (hF.trans tf) ?_ hok
        rw [hz]
        show (if K a = 263 then zNt K n (a + 1) else a) = zNt K n (a + 1)
        rw [if_pos c]
    · rw [if_neg (fun e => c (by have := pw.mp e; omega))] at pa
      have ez : zNt K 401 a0 = a := by
        rw [hz]
        show (if K a = 263 then zNt K n (a + 1) else a) = a
        rw [if_neg c]
      unfold zPlN at hok ⊢
      rw [ez] at hok ⊢
      rcases hg a p aN p50 with ⟨k1, k2, k3, k4, k5, k6⟩ | ⟨k1, _⟩
      · rw [if_pos k1]
        refine wpo_call (Q := fun z => ∃ q : Int × mS, z = Sum.inr q ∧ zFe σ q.2 ∧ ∃ br', zAe t (g a p).2.1 br' q.2 ∧ zRt live br (zNg (a - a0) (g a p).2.2.2) w q.1 br') ?_ ?_
        · show wpo (B_Mo_plainOf_2 G 68 live (((a - a0) % 2 : Nat) : Int) σ) _
          unfold B_Mo_plainOf_2
          refine wpo_bind.mpr (wpo_gk.mpr ⟨zk68 hB ▸ rfl, ?_⟩)
          rw [pa]
          refine wpo_bind.mpr (wpo_some.mpr ?_)
          rw [if_pos rfl]
          refine wpo_bind.mpr (wpo_gk.mpr ⟨zk68 hB ▸ rfl, ?_⟩)
          refine wpo_call (hG a p br σ k1 aN p50 hE hs brb) ?_
          intro q ⟨q1, br', q2, q3⟩
          have fin : ∀ u : Int, (u = 0 ∨ u = 1) → (u = if (a - a0) % 2 = 1 then 1 - q.1 else q.1) → (∃ z : Int × mS, (Sum.inr (u, q.2) : (Int × mS) ⊕ (Int × mS)) = Sum.inr z ∧ zFe σ z.2 ∧ ∃ br', zAe t (g a p).2.1 br' z.2 ∧ zRt live br (zNg (a - a0) (g a p).2.2.2) w z.1 br') := by
            intro u hu0 hu
            refine ⟨(u, q.2), rfl, q1, br', q2, ?_⟩
            obtain ⟨a1, a2, a3, a4⟩ := q3
            unfold zNg
            by_cases cp : (a - a0) % 2 = 1
            · rw [if_pos cp] at hu ⊢
              refine ⟨a1, hu0, fun act => ?_, a4⟩
              obtain ⟨p1, p2⟩ := a3 act
              unfold zneg
              cases ed : (g a p).2.2.2 w with
              | none => exact ⟨fun x hx => (by cases hx), fun _ => p2 ed⟩
              | some x =>
                obtain ⟨x1, x2⟩ := p1 x ed
                refine ⟨fun y hy => ?_, fun h => by cases h⟩
                have hy : some (1 - x) = some y := hy
                cases hy
                exact ⟨by show u = _; omega, x2⟩
            · rw [if_neg cp] at hu ⊢
              rw [hu]
              exact ⟨a1, a2, a3, a4⟩
          have qb := q3.2.1
          by_cases cq : q.1 = (((a - a0) % 2 : Nat) : Int)
          · rw [if_pos cq, if_pos (Or.inl rfl)]
            refine wpo_some.mpr (fin 0 (Or.inl rfl) ?_)
            by_cases cp : (a - a0) % 2 = 1
            · rw [if_pos cp]; omega
            · rw [if_neg cp]; omega
          · rw [if_neg cq, if_pos (Or.inr rfl)]
            refine wpo_some.mpr (fin 1 (Or.inr rfl) ?_)
            by_cases cp : (a - a0) % 2 = 1
            · rw [if_pos cp]; omega
            · rw [if_neg cp]; omega
        · intro z ⟨q, hz', q1, q2⟩
          rw [hz']
          exact wpo_some.mpr ⟨hF.trans q1, q2⟩
      · rw [if_neg (by omega)] at hok; omega
theorem v_plain {K V : Nat → Int} {N : Nat} (hT : zTx K V N) {A : Int → Int} {t : Int} (hA : zAk K V N A t) (hK : ∀ j : Nat, j ≤ N → 0 ≤ K j ∧ K j < 270) {w : Int → Int} {live : Int} {g : Nat → Nat → zRe} (hg : zSub N zD1 g) {G : Nat → List mV → mS → Option (Int × mS)} (hG : zEt N A t w live (G 108 [(3, 68), (1, live)]) g) : zEt N A t w live (B_Mo_plainOf G 68 live) (zPlN K g) := by
  intro a p br σ hok aN p50 hE hs brb
  have N4 := hT.1
  have key := v_plainLoop hT hA hK hg hG 401 mN a a p br σ σ (by rw [mN_eq]; decide) (by omega) (Nat.le_refl a) aN p50 hE hs brb (zFe.rfl' hE.1) rfl hok
  rw [Nat.sub_self] at key
  exact key
theorem v_testF {K V : Nat → Int} {N : Nat} (hT : zTx K V N) {A : Int → Int} {t : Int} (hA : zAk K V N A t) (hK : ∀ j : Nat, j ≤ N → 0 ≤ K j ∧ K j < 270) {w : Int → Int} (hw : zwok w) : ∀ (f : Nat), f ≤ 8 →
    (∀ n, 4 * f + 2 ≤ n → ∀ live : Int, live = 0 ∨ live = 1 → zEt N A t w live (R_Mo_testOf n 107 [(3, 68), (1, live)]) (zPlF K V f)) ∧ (∀ n, 4 * f + 4 ≤ n → ∀ live : Int, live = 0 ∨ live = 1 → zEt N A t w live (R_Mo_testOf n 105 [(3, 68), (1, live)]) (zTestF K V f)) := by
  have up : ∀ f : Nat, (∀ n, 4 * f + 2 ≤ n → ∀ live : Int, live = 0 ∨ live = 1 → zEt N A t w live (R_Mo_testOf n 107 [(3, 68), (1, live)]) (zPlF K V f)) → (∀ n, 4 * f + 4 ≤ n → ∀ live : Int, live = 0 ∨ live = 1 → zEt N A t w live (R_Mo_testOf n 105 [(3, 68), (1, live)]) (zTestF K V f)) := by
    intro f h1
    have ok := zPlF_ok hT f
    have h2 : ∀ n, 4 * f + 3 ≤ n → ∀ live : Int, live = 0 ∨ live = 1 → zEt N A t w live (R_Mo_testOf n 106 [(3, 68), (1, live)]) (zBothF K V f) := by
      intro n hn
      obtain ⟨n, rfl⟩ : ∃ m, n = m + 1 := ⟨n - 1, by omega⟩
      exact v_Both hT hA hK ok.1 (h1 n (by omega))
    intro n hn
    obtain ⟨n, rfl⟩ : ∃ m, n = m + 1 := ⟨n - 1, by omega⟩
    exact v_Test hT hA hK ok.2.1 (h2 n (by omega))
  have sumG : ∀ f : Nat, f ≤ 8 → ∀ live : Int, live = 0 ∨ live = 1 → zEs N A t w live (R_Mo_sumOf mD 102 [(3, 68), (1, live)]) (zSumF K V f) := fun f hf live hl => (v_sumF hT hA hK hw hl f).2 mD (by rw [mD_eq]; omega)
  intro f
  induction f with
  | zero =>
    intro _
    have h1 : ∀ n, 4 * 0 + 2 ≤ n → ∀ live : Int, live = 0 ∨ live = 1 → zEt N A t w live (R_Mo_testOf n 107 [(3, 68), (1, live)]) (zPlF K V 0) := by
      intro n hn live hl
      obtain ⟨n, rfl⟩ : ∃ m, n = m + 1 := ⟨n - 1, by omega⟩
      obtain ⟨n, rfl⟩ : ∃ m, n = m + 1 := ⟨n - 1, by omega⟩
      refine v_plain hT hA hK (g := zPl0 K (zSumF K V 0)) ?_ ?_
      · intro a p ha hp
        unfold zPl0
        split
        · exact zno_ok ha
        · exact zCmp_ok hT (zPartF_ok hT 0).2.2 a p ha hp
      · intro a p br σ hok aN p50 hE hs brb
        show wpo (B_Mo_positiveOf (R_Mo_testOf n) 68 live σ) _
        unfold zPl0 at hok ⊢
        by_cases c : K a = 40
        · rw [if_pos c] at hok
          exact absurd hok (by show ¬ (0 : Nat) = 1; decide)
        · rw [if_neg c] at hok ⊢
          exact v_cmp hT hA hK hl (zPartF_ok hT 0).2.2 (sumG 0 (by decide) live hl) c hok aN p50 hE hs brb
    exact ⟨h1, up 0 h1⟩
  | succ f ih =>
    intro hf
    have ih := ih (by omega)
    have h1 : ∀ n, 4 * (f + 1) + 2 ≤ n → ∀ live : Int, live = 0 ∨ live = 1 → zEt N A t w live (R_Mo_testOf n 107 [(3, 68), (1, live)]) (zPlF K V (f + 1)) := by
      intro n hn live hl
      obtain ⟨n, rfl⟩ : ∃ m, n = m + 1 := ⟨n - 1, by omega⟩
      obtain ⟨n, rfl⟩ : ∃ m, n = m + 1 := ⟨n - 1, by omega⟩
      rw [zPlF_succ]
      refine v_plain hT hA hK (g := zPl K (zTestF K V f) (zSumF K V (f + 1))) ?_ ?_
      · intro a p ha hp
        unfold zPl
        split
        · rename_i c
          have ne : a ≠ N := by intro e; rw [e, hT.2.1] at c; omega
          exact zBr_ok (by rw [hT.2.1]; decide) (zPlF_ok hT f).2.2 (by omega) hp
        · exact zCmp_ok hT (zPartF_ok hT (f + 1)).2.2 a p ha hp
      · intro a p br σ hok aN p50 hE hs brb
        show wpo (B_Mo_positiveOf (R_Mo_testOf n) 68 live σ) _
        unfold zPl at hok ⊢
        by_cases c : K a = 40
        · rw [if_pos c] at hok ⊢
          exact v_inbr hT hA hK (zPlF_ok hT f).2.2 (ih.2 n (by omega) live hl) c hok aN p50 hE hs brb
        · rw [if_neg c] at hok ⊢
          exact v_cmp hT hA hK hl (zPartF_ok hT (f + 1)).2.2 (sumG (f + 1) hf live hl) c hok aN p50 hE hs brb
    exact ⟨h1, up (f + 1) h1⟩
