noncomputable section
theorem w32_in2 {x m : Int} (h0 : 0 ≤ x) (h1 : x ≤ m) (h2 : m ≤ 1000) : w32 (x + 1) = x + 1 ∧ w32 (x + 0) = x := by
  constructor
  · exact w32_in (by omega) (by omega)
  · rw [Int.add_zero]; exact w32_in (by omega) (by omega)
set_option maxHeartbeats 4000000 in
theorem m_where_58 {D : Int → (Int → Int) → Int} {A : Int → Int} {tall l2 l3 : Int} {m : Nat} {σ : mS} (h : zMQ D A σ) (hr' : zRm (zSn D A (A 180) (A 181) (A 183) ((m : Int) - 100) 0 0 1) (-1) σ) (ht : 1 ≤ tall ∧ tall ≤ 31) (hl : -100 ≤ l3 ∧ l3 ≤ 100) (hm : m < 201)
    (hT : ∀ p, A 182 < p → p < 64 → (σ.1 87 p, σ.1 88 p) = zit (zWpG D A tall p) (0, 0) m) :
    wpo (M_Mo_where_58 68 tall l2 l3 (A 182 + 1) σ) (fun z => ∃ σ' : mS, z = .inl (l3 + 1, σ') ∧ σ'.2 = σ.2 ∧ (∀ r, r ≠ 87 → r ≠ 88 → σ'.1 r = σ.1 r) ∧ ∀ p, A 182 < p → p < 64 → (σ'.1 87 p, σ'.1 88 p) = zit (zWpG D A tall p) (0, 0) (m + 1)) := by
  have hB := h.1
  have we := h.2.1.2.2.2.2.1.2.2.1
  have e0 : ze (zSn D A (A 180) (A 181) (A 183) ((m : Int) - 100) 0 0 1) = A 182 := rfl
  have eA : zA (zSn D A (A 180) (A 181) (A 183) ((m : Int) - 100) 0 0 1) = A := rfl
  have w0 : w32 (l3 + 1) = l3 + 1 := w32_in (by omega) (by omega)
  unfold M_Mo_where_58
  refine miter_mN (fun n y => ∃ k : Nat, n = 100 - k ∧ A 182 + 1 + (k : Int) ≤ 64 ∧ y.1 = A 182 + 1 + (k : Int) ∧ y.2.2 = σ.2 ∧ (∀ r, r ≠ 87 → r ≠ 88 → y.2.1 r = σ.1 r) ∧ (∀ p, A 182 < p → p < A 182 + 1 + (k : Int) → (y.2.1 87 p, y.2.1 88 p) = zit (zWpG D A tall p) (0, 0) (m + 1)) ∧ (∀ p, A 182 + 1 + (k : Int) ≤ p → y.2.1 87 p = σ.1 87 p ∧ y.2.1 88 p = σ.1 88 p)) ?_ 100 _ (by decide) ?_
  · intro n y ⟨k, hn, hk, y1, y2, y3, y4, y5⟩
    obtain ⟨l4, σ'⟩ := y
    simp only at y1 y2 y3 y4 y5
    subst y1
    have s' := h.survey y2 (fun r _ x y => y3 r x y)
    have hB' := s'.1.1
    have hA' := s'.1.2.2.2.1
    have f68 := y3 68 (by decide) (by decide)
    have r' : zRm (zSn D A (A 180) (A 181) (A 183) ((m : Int) - 100) 0 0 1) (-1) σ' := by unfold zRm; rw [f68, y3 82 (by decide) (by decide)]; exact hr'
    show wpo (B_Mo_where_58 68 tall l2 l3 (A 182 + 1 + (k : Int)) σ') _
    by_cases c : A 182 + 1 + (k : Int) < 64
    · have p0 : 0 ≤ A 182 + 1 + (k : Int) := by omega
      have w : w32 (A 182 + 1 + (k : Int) + 1) = A 182 + 1 + ((k + 1 : Nat) : Int) := by clear w0; rw [w32_in (by omega) (by omega)]; omega
      have ew := f_wouldSee (S := zSn D A (A 180) (A 181) (A 183) ((m : Int) - 100) 0 0 1) (p := A 182 + 1 + (k : Int)) (tall := tall) hB' hA' h.2.1 eA e0 r' p0 c ht
      have old := y5 _ (Int.le_refl (A 182 + 1 + (k : Int)))
      have hTk := hT (A 182 + 1 + (k : Int)) (by omega) c
      have bd := zWpG_bd D A tall (A 182 + 1 + (k : Int)) m
      rw [← hTk] at bd
      simp only at bd
      rw [← old.1, ← old.2] at bd hTk
      have nx : zit (zWpG D A tall (A 182 + 1 + (k : Int))) (0, 0) (m + 1) = zWpG D A tall (A 182 + 1 + (k : Int)) m (σ'.1 87 (A 182 + 1 + (k : Int)), σ'.1 88 (A 182 + 1 + (k : Int))) := by rw [hTk]; rfl
      have w12 := w32_in2 bd.1.1 bd.1.2 (by clear hTk nx hT y4 y5 old bd w w0; omega)
      have w1 := w12.1
      have w2 := w12.2
      have m0 : mnar 102 0 = 0 := by decide
      have m1 : mnar 102 1 = 1 := by decide
      have key : ∀ Q : ((Int × mS) ⊕ ((Int × mS) ⊕ (Int × mS))) → Prop, (∀ σ2 : mS, σ2.2 = σ'.2 → (∀ r, r ≠ 87 → r ≠ 88 → σ2.1 r = σ'.1 r) → (∀ p, p ≠ A 182 + 1 + (k : Int) → σ2.1 87 p = σ'.1 87 p ∧ σ2.1 88 p = σ'.1 88 p) → (σ2.1 87 (A 182 + 1 + (k : Int)), σ2.1 88 (A 182 + 1 + (k : Int))) = zWpG D A tall (A 182 + 1 + (k : Int)) m (σ'.1 87 (A 182 + 1 + (k : Int)), σ'.1 88 (A 182 + 1 + (k : Int))) → Q (.inl (A 182 + 1 + ((k + 1 : Nat) : Int), σ2))) → wpo (B_Mo_where_58 68 tall l2 l3 (A 182 + 1 + (k : Int)) σ') Q := by
        intro Q hQ
        have go : ∀ (v b : Int), (v, b) = zWpG D A tall (A 182 + 1 + (k : Int)) m (σ'.1 87 (A 182 + 1 + (k : Int)), σ'.1 88 (A 182 + 1 + (k : Int))) → Q (.inl (A 182 + 1 + ((k + 1 : Nat) : Int), (mup (mup σ'.1 87 (A 182 + 1 + (k : Int)) v) 88 (A 182 + 1 + (k : Int)) b, σ'.2))) := by
          intro v b e
          refine hQ _ rfl ?_ ?_ ?_
          · intro r x1 x2; show mup _ _ _ _ r = _; rw [mup_fun x2, mup_fun x1]
          · intro p hp
            show mup (mup σ'.1 87 (A 182 + 1 + (k : Int)) v) 88 (A 182 + 1 + (k : Int)) b 87 p = _ ∧ mup (mup σ'.1 87 (A 182 + 1 + (k : Int)) v) 88 (A 182 + 1 + (k : Int)) b 88 p = _
            rw [mup_cell (by decide), mup_slot hp, mup_slot hp, mup_cell (by decide)]
            exact ⟨rfl, rfl⟩
          · show (mup (mup σ'.1 87 (A 182 + 1 + (k : Int)) v) 88 (A 182 + 1 + (k : Int)) b 87 (A 182 + 1 + (k : Int)), mup (mup σ'.1 87 (A 182 + 1 + (k : Int)) v) 88 (A 182 + 1 + (k : Int)) b 88 (A 182 + 1 + (k : Int))) = _
            rw [mup_cell (by decide), mup_same, mup_same]
            exact e
        clear hTk nx hT y4 y5 old
        unfold B_Mo_where_58 M_Mo_where_80 M_Mo_where_81
        by_cases d : zHit (zSn D A (A 180) (A 181) (A 183) ((m : Int) - 100) 0 0 1) (A 182 + 1 + (k : Int)) tall = true
        · by_cases d2 : σ'.1 88 (A 182 + 1 + (k : Int)) = 0
          · have gg := go (σ'.1 87 (A 182 + 1 + (k : Int)) + 1) 1 (by unfold zWpG; rw [if_pos d, if_pos (by show σ'.1 88 (A 182 + 1 + (k : Int)) < 1; rw [d2]; decide)])
            (try simp (disch := first | assumption | omega) only [wpo_bind, wpo_some, wpo_gf, wpo_gk, wpo_ld, wpo_pf, wpo_pz, wpo_sd, wpo_sr, wpo_ln, wpo_idv, wpo_irm, wpo_lrm, wpo_ldv, wpo_cpy, mlet, mnar_int, mup_same, mup_cell, mup_slot, ite_true, ite_false, true_and, and_true, eq_self, or_true, true_or, and_self, Int.reduceLT, Int.reduceLE, Int.reduceEq, Int.reduceNe, Int.reduceAdd, Int.reduceSub, Int.reduceMul, Int.reduceNeg, ne_eq, not_false_eq_true, not_true_eq_false, false_or, or_false, zor_inl, zor_inr, Bool.false_eq_true, false_and, and_false, zk1, zk2, zk3, zk4, zk5, zk6, zk7, zk8, zk9, zk10, zk11, zk12, zk13, zk14, zk15, zk16, zk17, zk18, zk19, zk20, zk21, zk22, zk23, zk24, zk25, zk26, zk27, zk28, zk29, zk30, zk31, zk32, zk33, zk34, zk35, zk36, zk37, zk38, zk39, zk40, zk41, zk42, zk43, zk44, zk45, zk46, zk47, zk48, zk49, zk50, zk51, zk52, zk53, zk54, zk55, zk56, zk57, zk58, zk59, zk60, zk61, zk62, zk63, zk64, zk65, zk66, zk67, zk68, zk69, zk70, zk71, zk72, zk73, zk74, zk75, zk76, zk77, zk78, zk79, zk80, zk81, zk82, zk83, zk84, zk85, zk86, zk87, zk88, zk89, zk90, zr2_0, zr2_1, zr2_2, zr2_3, zr2_4, zr2_6, zr2_7, zr2_10, zr2_11, zr2_12, zr1_0, zr1_1, zr14_0, zr14_1, zr14_2, zr14_3, zr14_4, zr14_6, zr14_7, zr14_10, zr14_11, zr14_12, zr13_0, zr25_0, zr25_1, zr25_2, zr25_3, zr25_4, zr25_6, zr25_7, zr25_10, zr25_11, zr25_12, zr13_1, zr1_2, zr37_0, zr1_3, zr39_0, zr39_1, zr39_2, zr39_5, zr39_7, zr39_8, zr1_4, zr46_1, zr46_2, zr46_3, zr46_4, zr46_0, zr1_5, zr51_2, zr51_10, zr51_0, zr51_1, zr54_1, zr54_2, zr54_3, zr1_6, zr58_1, zr58_2, zr58_3, zr58_0, zr1_7, zr62_2, zr62_3, zr62_0, zr62_1, zr1_8, zr1_9, zr1_10, zr1_15, zr68_2, zr68_3, zr68_4, zr68_5, zr68_7, zr68_8, zr68_9, zr68_12, zr68_13, zr68_14, zr68_22, zr68_23, zr68_24, zr68_26, zr68_35, zr68_36, zr68_37, zr68_38, zr68_39, zr68_40, zr68_41, zr68_42, c, ew, d, p0, d2, w1, w, m1])
            exact gg
          · have d3 : σ'.1 88 (A 182 + 1 + (k : Int)) = 1 := by rcases bd.2 with x | x; exact absurd x d2; exact x
            have gg := go (σ'.1 87 (A 182 + 1 + (k : Int))) 1 (by unfold zWpG; rw [if_pos d, if_neg (by show ¬ σ'.1 88 (A 182 + 1 + (k : Int)) < 1; rw [d3]; decide)])
            (try simp (disch := first | assumption | omega) only [wpo_bind, wpo_some, wpo_gf, wpo_gk, wpo_ld, wpo_pf, wpo_pz, wpo_sd, wpo_sr, wpo_ln, wpo_idv, wpo_irm, wpo_lrm, wpo_ldv, wpo_cpy, mlet, mnar_int, mup_same, mup_cell, mup_slot, ite_true, ite_false, true_and, and_true, eq_self, or_true, true_or, and_self, Int.reduceLT, Int.reduceLE, Int.reduceEq, Int.reduceNe, Int.reduceAdd, Int.reduceSub, Int.reduceMul, Int.reduceNeg, ne_eq, not_false_eq_true, not_true_eq_false, false_or, or_false, zor_inl, zor_inr, Bool.false_eq_true, false_and, and_false, zk1, zk2, zk3, zk4, zk5, zk6, zk7, zk8, zk9, zk10, zk11, zk12, zk13, zk14, zk15, zk16, zk17, zk18, zk19, zk20, zk21, zk22, zk23, zk24, zk25, zk26, zk27, zk28, zk29, zk30, zk31, zk32, zk33, zk34, zk35, zk36, zk37, zk38, zk39, zk40, zk41, zk42, zk43, zk44, zk45, zk46, zk47, zk48, zk49, zk50, zk51, zk52, zk53, zk54, zk55, zk56, zk57, zk58, zk59, zk60, zk61, zk62, zk63, zk64, zk65, zk66, zk67, zk68, zk69, zk70, zk71, zk72, zk73, zk74, zk75, zk76, zk77, zk78, zk79, zk80, zk81, zk82, zk83, zk84, zk85, zk86, zk87, zk88, zk89, zk90, zr2_0, zr2_1, zr2_2, zr2_3, zr2_4, zr2_6, zr2_7, zr2_10, zr2_11, zr2_12, zr1_0, zr1_1, zr14_0, zr14_1, zr14_2, zr14_3, zr14_4, zr14_6, zr14_7, zr14_10, zr14_11, zr14_12, zr13_0, zr25_0, zr25_1, zr25_2, zr25_3, zr25_4, zr25_6, zr25_7, zr25_10, zr25_11, zr25_12, zr13_1, zr1_2, zr37_0, zr1_3, zr39_0, zr39_1, zr39_2, zr39_5, zr39_7, zr39_8, zr1_4, zr46_1, zr46_2, zr46_3, zr46_4, zr46_0, zr1_5, zr51_2, zr51_10, zr51_0, zr51_1, zr54_1, zr54_2, zr54_3, zr1_6, zr58_1, zr58_2, zr58_3, zr58_0, zr1_7, zr62_2, zr62_3, zr62_0, zr62_1, zr1_8, zr1_9, zr1_10, zr1_15, zr68_2, zr68_3, zr68_4, zr68_5, zr68_7, zr68_8, zr68_9, zr68_12, zr68_13, zr68_14, zr68_22, zr68_23, zr68_24, zr68_26, zr68_35, zr68_36, zr68_37, zr68_38, zr68_39, zr68_40, zr68_41, zr68_42, c, ew, d, p0, d2, w2, w, m1])
            exact gg
        · have d3 : ¬ σ'.1 88 (A 182 + 1 + (k : Int)) < 0 := by rcases bd.2 with x | x <;> rw [x] <;> decide
          have gg := go (σ'.1 87 (A 182 + 1 + (k : Int))) 0 (by unfold zWpG; rw [if_neg d, if_neg d3])
          (try simp (disch := first | assumption | omega) only [wpo_bind, wpo_some, wpo_gf, wpo_gk, wpo_ld, wpo_pf, wpo_pz, wpo_sd, wpo_sr, wpo_ln, wpo_idv, wpo_irm, wpo_lrm, wpo_ldv, wpo_cpy, mlet, mnar_int, mup_same, mup_cell, mup_slot, ite_true, ite_false, true_and, and_true, eq_self, or_true, true_or, and_self, Int.reduceLT, Int.reduceLE, Int.reduceEq, Int.reduceNe, Int.reduceAdd, Int.reduceSub, Int.reduceMul, Int.reduceNeg, ne_eq, not_false_eq_true, not_true_eq_false, false_or, or_false, zor_inl, zor_inr, Bool.false_eq_true, false_and, and_false, zk1, zk2, zk3, zk4, zk5, zk6, zk7, zk8, zk9, zk10, zk11, zk12, zk13, zk14, zk15, zk16, zk17, zk18, zk19, zk20, zk21, zk22, zk23, zk24, zk25, zk26, zk27, zk28, zk29, zk30, zk31, zk32, zk33, zk34, zk35, zk36, zk37, zk38, zk39, zk40, zk41, zk42, zk43, zk44, zk45, zk46, zk47, zk48, zk49, zk50, zk51, zk52, zk53, zk54, zk55, zk56, zk57, zk58, zk59, zk60, zk61, zk62, zk63, zk64, zk65, zk66, zk67, zk68, zk69, zk70, zk71, zk72, zk73, zk74, zk75, zk76, zk77, zk78, zk79, zk80, zk81, zk82, zk83, zk84, zk85, zk86, zk87, zk88, zk89, zk90, zr2_0, zr2_1, zr2_2, zr2_3, zr2_4, zr2_6, zr2_7, zr2_10, zr2_11, zr2_12, zr1_0, zr1_1, zr14_0, zr14_1, zr14_2, zr14_3, zr14_4, zr14_6, zr14_7, zr14_10, zr14_11, zr14_12, zr13_0, zr25_0, zr25_1, zr25_2, zr25_3, zr25_4, zr25_6, zr25_7, zr25_10, zr25_11, zr25_12, zr13_1, zr1_2, zr37_0, zr1_3, zr39_0, zr39_1, zr39_2, zr39_5, zr39_7, zr39_8, zr1_4, zr46_1, zr46_2, zr46_3, zr46_4, zr46_0, zr1_5, zr51_2, zr51_10, zr51_0, zr51_1, zr54_1, zr54_2, zr54_3, zr1_6, zr58_1, zr58_2, zr58_3, zr58_0, zr1_7, zr62_2, zr62_3, zr62_0, zr62_1, zr1_8, zr1_9, zr1_10, zr1_15, zr68_2, zr68_3, zr68_4, zr68_5, zr68_7, zr68_8, zr68_9, zr68_12, zr68_13, zr68_14, zr68_22, zr68_23, zr68_24, zr68_26, zr68_35, zr68_36, zr68_37, zr68_38, zr68_39, zr68_40, zr68_41, zr68_42, c, ew, d, p0, w2, w, m0])
          exact gg
      refine key _ ?_
      intro σ2 a1 a2 a3 a4
      clear w w0 w1 w2 w12
      refine ⟨100 - (k + 1), by omega, k + 1, rfl, by omega, rfl, a1.trans y2, fun r x1 x2 => (a2 r x1 x2).trans (y3 r x1 x2), ?_, ?_⟩
      · intro p q0 q1
        by_cases dp : p = A 182 + 1 + (k : Int)
        · rw [dp, nx]; exact a4
        · show (σ2.1 87 p, σ2.1 88 p) = _
          rw [(a3 p dp).1, (a3 p dp).2]; exact y4 p q0 (by omega)
      · intro p q0
        show σ2.1 87 p = _ ∧ σ2.1 88 p = _
        rw [(a3 p (by omega)).1, (a3 p (by omega)).2]; exact y5 p (by omega)
    · unfold B_Mo_where_58
      (try simp (disch := first | assumption | omega) only [wpo_bind, wpo_some, wpo_gf, wpo_gk, wpo_ld, wpo_pf, wpo_pz, wpo_sd, wpo_sr, wpo_ln, wpo_idv, wpo_irm, wpo_lrm, wpo_ldv, wpo_cpy, mlet, mnar_int, mup_same, mup_cell, mup_slot, ite_true, ite_false, true_and, and_true, eq_self, or_true, true_or, and_self, Int.reduceLT, Int.reduceLE, Int.reduceEq, Int.reduceNe, Int.reduceAdd, Int.reduceSub, Int.reduceMul, Int.reduceNeg, ne_eq, not_false_eq_true, not_true_eq_false, false_or, or_false, zor_inl, zor_inr, Bool.false_eq_true, false_and, and_false, zk1, zk2, zk3, zk4, zk5, zk6, zk7, zk8, zk9, zk10, zk11, zk12, zk13, zk14, zk15, zk16, zk17, zk18, zk19, zk20, zk21, zk22, zk23, zk24, zk25, zk26, zk27, zk28, zk29, zk30, zk31, zk32, zk33, zk34, zk35, zk36, zk37, zk38, zk39, zk40, zk41, zk42, zk43, zk44, zk45, zk46, zk47, zk48, zk49, zk50, zk51, zk52, zk53, zk54, zk55, zk56, zk57, zk58, zk59, zk60, zk61, zk62, zk63, zk64, zk65, zk66, zk67, zk68, zk69, zk70, zk71, zk72, zk73, zk74, zk75, zk76, zk77, zk78, zk79, zk80, zk81, zk82, zk83, zk84, zk85, zk86, zk87, zk88, zk89, zk90, zr2_0, zr2_1, zr2_2, zr2_3, zr2_4, zr2_6, zr2_7, zr2_10, zr2_11, zr2_12, zr1_0, zr1_1, zr14_0, zr14_1, zr14_2, zr14_3, zr14_4, zr14_6, zr14_7, zr14_10, zr14_11, zr14_12, zr13_0, zr25_0, zr25_1, zr25_2, zr25_3, zr25_4, zr25_6, zr25_7, zr25_10, zr25_11, zr25_12, zr13_1, zr1_2, zr37_0, zr1_3, zr39_0, zr39_1, zr39_2, zr39_5, zr39_7, zr39_8, zr1_4, zr46_1, zr46_2, zr46_3, zr46_4, zr46_0, zr1_5, zr51_2, zr51_10, zr51_0, zr51_1, zr54_1, zr54_2, zr54_3, zr1_6, zr58_1, zr58_2, zr58_3, zr58_0, zr1_7, zr62_2, zr62_3, zr62_0, zr62_1, zr1_8, zr1_9, zr1_10, zr1_15, zr68_2, zr68_3, zr68_4, zr68_5, zr68_7, zr68_8, zr68_9, zr68_12, zr68_13, zr68_14, zr68_22, zr68_23, zr68_24, zr68_26, zr68_35, zr68_36, zr68_37, zr68_38, zr68_39, zr68_40, zr68_41, zr68_42, c, w0])
      refine ⟨σ', rfl, y2, y3, ?_⟩
      intro p q0 q1
      exact y4 p q0 (by omega)
  · exact ⟨0, rfl, by omega, by show A 182 + 1 = A 182 + 1 + ((0 : Nat) : Int); omega, rfl, fun _ _ _ => rfl, fun p a b => by omega, fun _ _ => ⟨rfl, rfl⟩⟩
end
