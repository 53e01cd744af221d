/-! A LAW as the reference tells it -/
/-- the t-th law that is kept tells d -/
def zLm (A : Int → Int) (t : Int) (d : (Int → Int) → Int) : Prop := ∃ (K V S : Nat → Int) (N : Nat), zTx K V N ∧ zTy K S N ∧ zAk K V N A t ∧ (zTxt K V).1 = 1 ∧ d = (zTxt K V).2.2.2
theorem zTxt_1 {K V : Nat → Int} {N : Nat} (hT : zTx K V N) (h : (zTxt K V).1 = 1) : (zCla K V 0 0 0 (fun _ => 10)).1 = 1 ∧ (zCz K V 401 1 (zCla K V 0 0 0 (fun _ => 10)).2.1 (zCla K V 0 0 0 (fun _ => 10)).2.2.1 (zCla K V 0 0 0 (fun _ => 10)).2.2.2).1 = 1 ∧ K (zCz K V 401 1 (zCla K V 0 0 0 (fun _ => 10)).2.1 (zCla K V 0 0 0 (fun _ => 10)).2.2.1 (zCla K V 0 0 0 (fun _ => 10)).2.2.2).2.1 = 256 ∧ zTxt K V = zCz K V 401 1 (zCla K V 0 0 0 (fun _ => 10)).2.1 (zCla K V 0 0 0 (fun _ => 10)).2.2.1 (zCla K V 0 0 0 (fun _ => 10)).2.2.2 := by
  unfold zTxt at h ⊢
  by_cases c : (zCla K V 0 0 0 (fun _ => 10)).1 = 1
  · rw [if_pos c] at h ⊢
    by_cases c2 : (zCz K V 401 1 (zCla K V 0 0 0 (fun _ => 10)).2.1 (zCla K V 0 0 0 (fun _ => 10)).2.2.1 (zCla K V 0 0 0 (fun _ => 10)).2.2.2).1 = 1 ∧ K (zCz K V 401 1 (zCla K V 0 0 0 (fun _ => 10)).2.1 (zCla K V 0 0 0 (fun _ => 10)).2.2.1 (zCla K V 0 0 0 (fun _ => 10)).2.2.2).2.1 ≠ 256
    · rw [if_pos c2] at h
      exact absurd h (by show ¬ (0 : Nat) = 1; decide)
    · rw [if_neg c2] at h ⊢
      exact ⟨c, h, Decidable.byContradiction (fun hc => c2 ⟨h, hc⟩), rfl⟩
  · rw [if_neg c] at h
    exact absurd h c
theorem zCla_1 {K V : Nat → Int} {N m a p : Nat} {g : (Int → Int) → Int} (hT : zTx K V N) (ha : a ≤ N) (hp : p ≤ 50) (h : (zCla K V m a p g).1 = 1) : K a = 259 ∧ a < N ∧ (zSumF K V 8 (a + 1) p).1 = 1 ∧ (zSumF K V 8 (a + 1) p).2.1 ≤ N ∧ (zSumF K V 8 (a + 1) p).2.2.1 ≤ 50 ∧
    ((K (zSumF K V 8 (a + 1) p).2.1 ≠ 260 ∧ zCla K V m a p g = (1, (zSumF K V 8 (a + 1) p).2.1, (zSumF K V 8 (a + 1) p).2.2.1, zClD (zSumF K V 8 (a + 1) p).2.2.2 (fun _ => some 1) g)) ∨
     (K (zSumF K V 8 (a + 1) p).2.1 = 260 ∧ (zSumF K V 8 (a + 1) p).2.1 < N ∧ (zTestF K V 8 ((zSumF K V 8 (a + 1) p).2.1 + 1) (zSumF K V 8 (a + 1) p).2.2.1).1 = 1 ∧ (zTestF K V 8 ((zSumF K V 8 (a + 1) p).2.1 + 1) (zSumF K V 8 (a + 1) p).2.2.1).2.1 ≤ N ∧ zCla K V m a p g = (1, (zTestF K V 8 ((zSumF K V 8 (a + 1) p).2.1 + 1) (zSumF K V 8 (a + 1) p).2.2.1).2.1, (zTestF K V 8 ((zSumF K V 8 (a + 1) p).2.1 + 1) (zSumF K V 8 (a + 1) p).2.2.1).2.2.1, zClD (zSumF K V 8 (a + 1) p).2.2.2 (zTestF K V 8 ((zSumF K V 8 (a + 1) p).2.1 + 1) (zSumF K V 8 (a + 1) p).2.2.1).2.2.2 g))) := by
  unfold zCla at h ⊢
  by_cases c : m < 12 ∧ K a = 259
  · rw [if_pos c] at h ⊢
    have ne : a ≠ N := by intro e; rw [e, hT.2.1] at c; omega
    rcases (zPartF_ok hT 8).2.2 (a + 1) p (by omega) hp with ⟨k1, k2, k3, k4, k5, k6⟩ | ⟨k1, k2, k3⟩
    · rw [if_pos k1] at h ⊢
      refine ⟨c.2, by omega, k1, k3, k5, ?_⟩
      by_cases c2 : K (zSumF K V 8 (a + 1) p).2.1 = 260
      · rw [if_pos c2] at h ⊢
        have ne2 : (zSumF K V 8 (a + 1) p).2.1 ≠ N := by intro e; rw [e, hT.2.1] at c2; omega
        rcases (zPlF_ok hT 8).2.2 ((zSumF K V 8 (a + 1) p).2.1 + 1) (zSumF K V 8 (a + 1) p).2.2.1 (by omega) k5 with ⟨y1, y2, y3, y4, y5, y6⟩ | ⟨y1, y2, y3⟩
        · rw [if_pos y1]
          exact Or.inr ⟨c2, by omega, y1, y3, rfl⟩
        · rw [if_neg (by omega)] at h
          exact absurd h (by show ¬ (0 : Nat) = 1; decide)
      · rw [if_neg c2]
        exact Or.inl ⟨c2, rfl⟩
    · rw [if_neg (by omega)] at h
      exact absurd h (by show ¬ (0 : Nat) = 1; decide)
  · rw [if_neg c] at h
    exact absurd h (by show ¬ (0 : Nat) = 1; decide)
theorem v_131 {σ : mS} {go v : Int} (hB : zB σ) (h : σ.1 68 19 = go) (hg : 0 ≤ go ∧ go ≤ 10000) : M_Mo_warmthOf_131 68 v σ = some (Sum.inl (v, (mup σ.1 68 19 (go + 1), σ.2))) := by
  have w1 : ∀ u : Int, u = go → w32 (u + 1) = go + 1 := fun u hu => by rw [w32_in (by omega) (by omega)]; omega
  have : wpo (M_Mo_warmthOf_131 68 v σ) (fun q => q = Sum.inl (v, (mup σ.1 68 19 (go + 1), σ.2))) := by
    unfold M_Mo_warmthOf_131
    simp (maxSteps := 5000000) (disch := first | assumption | omega) only [wpo_bind, wpo_some, wpo_gf, wpo_gk, wpo_ld, wpo_pf, wpo_pz, wpo_sd, wpo_sr, wpo_ln, wpo_idv, wpo_irm, wpo_lrm, wpo_ldv, wpo_cpy, mlet, mnar_int, mup_same, mup_cell, mup_slot, ite_true, ite_false, true_and, and_true, eq_self, or_true, true_or, and_self, Int.reduceLT, Int.reduceLE, Int.reduceEq, Int.reduceNe, Int.reduceAdd, Int.reduceSub, Int.reduceMul, Int.reduceNeg, ne_eq, not_false_eq_true, not_true_eq_false, false_or, or_false, zor_inl, zor_inr, Bool.false_eq_true, false_and, and_false, zk1, zk2, zk3, zk4, zk5, zk6, zk7, zk8, zk9, zk10, zk11, zk12, zk13, zk14, zk15, zk16, zk17, zk18, zk19, zk20, zk21, zk22, zk23, zk24, zk25, zk26, zk27, zk28, zk29, zk30, zk31, zk32, zk33, zk34, zk35, zk36, zk37, zk38, zk39, zk40, zk41, zk42, zk43, zk44, zk45, zk46, zk47, zk48, zk49, zk50, zk51, zk52, zk53, zk54, zk55, zk56, zk57, zk58, zk59, zk60, zk61, zk62, zk63, zk64, zk65, zk66, zk67, zk68, zk69, zk70, zk71, zk72, zk73, zk74, zk75, zk76, zk77, zk78, zk79, zk80, zk81, zk82, zk83, zk84, zk85, zk86, zk87, zk88, zk89, zk90, zr2_0, zr2_1, zr2_2, zr2_3, zr2_4, zr2_6, zr2_7, zr2_10, zr2_11, zr2_12, zr1_0, zr1_1, zr14_0, zr14_1, zr14_2, zr14_3, zr14_4, zr14_6, zr14_7, zr14_10, zr14_11, zr14_12, zr13_0, zr25_0, zr25_1, zr25_2, zr25_3, zr25_4, zr25_6, zr25_7, zr25_10, zr25_11, zr25_12, zr13_1, zr1_2, zr37_0, zr1_3, zr39_0, zr39_1, zr39_2, zr39_5, zr39_7, zr39_8, zr1_4, zr46_1, zr46_2, zr46_3, zr46_4, zr46_0, zr1_5, zr51_2, zr51_10, zr51_0, zr51_1, zr54_1, zr54_2, zr54_3, zr1_6, zr58_1, zr58_2, zr58_3, zr58_0, zr1_7, zr62_2, zr62_3, zr62_0, zr62_1, zr1_8, zr1_9, zr1_10, zr1_15, zr68_2, zr68_3, zr68_4, zr68_5, zr68_7, zr68_8, zr68_9, zr68_12, zr68_13, zr68_14, zr68_22, zr68_23, zr68_24, zr68_26, zr68_35, zr68_36, zr68_37, zr68_38, zr68_39, zr68_40, zr68_41, zr68_42, h, w1]
  obtain ⟨y, e, rfl⟩ := this
  exact e
/-- a clause's end: what is told then -/
theorem v_108 {σ : mS} {go told x br1 br2 s0 : Int} {ds dt : zDn} {g : (Int → Int) → Int} {w : Int → Int} (hB : zB σ) (h : σ.1 68 19 = go) (hg : 0 ≤ go ∧ go ≤ 10000) (h21 : σ.1 68 21 = br2) (ht : told = g w)
    (h1 : zRl 1 0 ds w x br1) (h2 : zRt 1 0 dt w s0 br2) : M_Mo_warmthOf_108 68 told x br1 s0 σ = some (Sum.inl (zClD ds dt g w, (mup σ.1 68 19 (go + 1), σ.2))) := by
  obtain ⟨a1, a2, a3, _⟩ := h1
  obtain ⟨b1, b2, b3, _⟩ := h2
  obtain ⟨a4, a5⟩ := a3 ⟨rfl, rfl⟩
  obtain ⟨b4, b5⟩ := b3 ⟨rfl, rfl⟩
  have e131 := fun v => v_131 (v := v) hB h hg
  have no : dt w ≠ some 1 ∨ ds w = none → zClD ds dt g w = told := by
    intro hn
    unfold zClD
    rw [ht]
    rcases hn with hn | hn
    · rw [if_neg hn]
    · rw [hn]; split <;> rfl
  have : wpo (M_Mo_warmthOf_108 68 told x br1 s0 σ) (fun q => q = Sum.inl (zClD ds dt g w, (mup σ.1 68 19 (go + 1), σ.2))) := by
    unfold M_Mo_warmthOf_108
    by_cases c0 : s0 = 0
    · rw [if_pos c0, e131, no (Or.inl (fun e => by have := b4 1 e; omega))]
      exact wpo_some.mpr rfl
    · rw [if_neg c0]
      simp (maxSteps := 5000000) (disch := first | assumption | omega) only [wpo_bind, wpo_some, wpo_gf, wpo_gk, wpo_ld, wpo_pf, wpo_pz, wpo_sd, wpo_sr, wpo_ln, wpo_idv, wpo_irm, wpo_lrm, wpo_ldv, wpo_cpy, mlet, mnar_int, mup_same, mup_cell, mup_slot, ite_true, ite_false, true_and, and_true, eq_self, or_true, true_or, and_self, Int.reduceLT, Int.reduceLE, Int.reduceEq, Int.reduceNe, Int.reduceAdd, Int.reduceSub, Int.reduceMul, Int.reduceNeg, ne_eq, not_false_eq_true, not_true_eq_false, false_or, or_false, zor_inl, zor_inr, Bool.false_eq_true, false_and, and_false, zk1, zk2, zk3, zk4, zk5, zk6, zk7, zk8, zk9, zk10, zk11, zk12, zk13, zk14, zk15, zk16, zk17, zk18, zk19, zk20, zk21, zk22, zk23, zk24, zk25, zk26, zk27, zk28, zk29, zk30, zk31, zk32, zk33, zk34, zk35, zk36, zk37, zk38, zk39, zk40, zk41, zk42, zk43, zk44, zk45, zk46, zk47, zk48, zk49, zk50, zk51, zk52, zk53, zk54, zk55, zk56, zk57, zk58, zk59, zk60, zk61, zk62, zk63, zk64, zk65, zk66, zk67, zk68, zk69, zk70, zk71, zk72, zk73, zk74, zk75, zk76, zk77, zk78, zk79, zk80, zk81, zk82, zk83, zk84, zk85, zk86, zk87, zk88, zk89, zk90, zr2_0, zr2_1, zr2_2, zr2_3, zr2_4, zr2_6, zr2_7, zr2_10, zr2_11, zr2_12, zr1_0, zr1_1, zr14_0, zr14_1, zr14_2, zr14_3, zr14_4, zr14_6, zr14_7, zr14_10, zr14_11, zr14_12, zr13_0, zr25_0, zr25_1, zr25_2, zr25_3, zr25_4, zr25_6, zr25_7, zr25_10, zr25_11, zr25_12, zr13_1, zr1_2, zr37_0, zr1_3, zr39_0, zr39_1, zr39_2, zr39_5, zr39_7, zr39_8, zr1_4, zr46_1, zr46_2, zr46_3, zr46_4, zr46_0, zr1_5, zr51_2, zr51_10, zr51_0, zr51_1, zr54_1, zr54_2, zr54_3, zr1_6, zr58_1, zr58_2, zr58_3, zr58_0, zr1_7, zr62_2, zr62_3, zr62_0, zr62_1, zr1_8, zr1_9, zr1_10, zr1_15, zr68_2, zr68_3, zr68_4, zr68_5, zr68_7, zr68_8, zr68_9, zr68_12, zr68_13, zr68_14, zr68_22, zr68_23, zr68_24, zr68_26, zr68_35, zr68_36, zr68_37, zr68_38, zr68_39, zr68_40, zr68_41, zr68_42, h21]
      by_cases c1 : br2 = 0
      · rw [if_pos c1]
        have d1 : dt w = some 1 := by
          cases ed : dt w with
          | none => have := b5 ed; omega
          | some y => have := b4 y ed; congr 1; omega
        by_cases c2 : br1 = 0
        · rw [if_pos c2]
          have d2 : ds w = some x := by
            cases ed : ds w with
            | none => have := a5 ed; omega
            | some y => have := a4 y ed; rw [this.1]
          have ez : zClD ds dt g w = zclm x := by unfold zClD; rw [if_pos d1, d2]; rfl
          rw [ez]
          unfold zclm
          by_cases c3 : x < -50
          · rw [if_pos ((v_lcp _ _).1.mpr c3), if_pos c3]
            unfold M_Mo_warmthOf_130
            rw [e131]; exact wpo_some.mpr rfl
          · rw [if_neg (fun e => c3 ((v_lcp _ _).1.mp e)), if_neg c3]
            by_cases c4 : 99 < x
            · rw [if_pos ((v_lcp _ _).2.1.mpr c4), if_pos c4]
              unfold M_Mo_warmthOf_130
              rw [e131]; exact wpo_some.mpr rfl
            · rw [if_neg (fun e => c4 ((v_lcp _ _).2.1.mp e)), if_neg c4]
              unfold M_Mo_warmthOf_130
              rw [e131, w32_in (by omega) (by omega)]; exact wpo_some.mpr rfl
        · rw [if_neg c2, e131, no (Or.inr ?_)]
          · exact wpo_some.mpr rfl
          · cases ed : ds w with
            | none => rfl
            | some y => have := a4 y ed; omega
      · rw [if_neg c1, e131, no (Or.inl (fun e => by have := b4 1 e; omega))]
        exact wpo_some.mpr rfl
  obtain ⟨y, e, rfl⟩ := this
  exact e
set_option maxHeartbeats 8000000 in
theorem v_clause {K V : Nat → Int} {N : Nat} (hT : zTx K V N) {A : Int → Int} {t : Int} (hA : zAk K V N A t) (hK : ∀ j : Nat, j ≤ N → 0 ≤ K j ∧ K j < 270) {w : Int → Int} (hw : zwok w) {m a p : Nat} {g : (Int → Int) → Int} {told br : Int} {σ : mS} (hok : (zCla K V m a p g).1 = 1) (aN : a ≤ N) (p50 : p ≤ 50) (hE : zEv A N t w σ) (hs : zAe t a br σ) (ht : told = g w) :
    wpo (B_Mo_warmthOf_73 68 told σ) (fun z => ∃ σ2 br', z = Sum.inl ((zCla K V m a p g).2.2.2 w, σ2) ∧ zFe σ σ2 ∧ zAe t ((zCla K V m a p g).2.1 + 1) br' σ2) := by
  obtain ⟨ka, aN', k1, k3, k5, kr⟩ := zCla_1 hT aN p50 hok
  have hB := hE.1
  have N4 := hT.1
  have t0 := hA.1
  have h19 := hs.1
  have h20 := hE.2.2.1
  have n10 : ¬ (1 : Int) = 0 := by decide
  have c1 : 400 * t + (a : Int) < 400 * t + (N : Int) := by omega
  have w1 : ∀ u : Int, u = 400 * t + (a : Int) → w32 (u + 1) = 400 * t + ((a + 1 : Nat) : Int) := fun u hu => by rw [w32_in (by omega) (by omega)]; omega
  -- broken is 0, the word is passed
  have f1 := zFe_68 (i := 21) (v := 0) hB (Or.inr rfl)
  have hB1 := f1.2.1
  have a1 : zAe t a 0 (mup σ.1 68 21 0, σ.2) := ⟨by show mup σ.1 68 21 0 68 19 = _; rw [mup_slot (by decide)]; exact h19, by show mup σ.1 68 21 0 68 21 = _; exact mup_same⟩
  obtain ⟨f2, e2, a2⟩ := v_tok (b := a + 1) (hE.fe f1) a1
  have hB2 := e2.1
  have sum := (v_sumF hT hA hK hw (Or.inr rfl) 8).2 mD (by rw [mD_eq]; decide) (a + 1) p 0 _ k1 (by omega) p50 e2 a2 (Or.inl rfl)
  generalize eS : zSumF K V 8 (a + 1) p = X at *
  generalize eX2 : ((mup (mup σ.1 68 21 0) 68 19 (400 * t + ((a + 1 : Nat) : Int)), σ.2) : mS) = Y at *
  generalize hQ : (fun z : (Int × mS) ⊕ (Int × mS) => ∃ σ2 br', z = Sum.inl ((zCla K V m a p g).2.2.2 w, σ2) ∧ zFe σ σ2 ∧ zAe t ((zCla K V m a p g).2.1 + 1) br' σ2) = Q
  unfold B_Mo_warmthOf_73
  simp (maxSteps := 5000000) (disch := first | assumption | omega) only [wpo_bind, wpo_some, wpo_gf, wpo_gk, wpo_ld, wpo_pf, wpo_pz, wpo_sd, wpo_sr, wpo_ln, wpo_idv, wpo_irm, wpo_lrm, wpo_ldv, wpo_cpy, mlet, mnar_int, mup_same, mup_cell, mup_slot, ite_true, ite_false, true_and, and_true, eq_self, or_true, true_or, and_self, Int.reduceLT, Int.reduceLE, Int.reduceEq, Int.reduceNe, Int.reduceAdd, Int.reduceSub, Int.reduceMul, Int.reduceNeg, ne_eq, not_false_eq_true, not_true_eq_false, false_or, or_false, zor_inl, zor_inr, Bool.false_eq_true, false_and, and_false, zk1, zk2, zk3, zk4, zk5, zk6, zk7, zk8, zk9, zk10, zk11, zk12, zk13, zk14, zk15, zk16, zk17, zk18, zk19, zk20, zk21, zk22, zk23, zk24, zk25, zk26, zk27, zk28, zk29, zk30, zk31, zk32, zk33, zk34, zk35, zk36, zk37, zk38, zk39, zk40, zk41, zk42, zk43, zk44, zk45, zk46, zk47, zk48, zk49, zk50, zk51, zk52, zk53, zk54, zk55, zk56, zk57, zk58, zk59, zk60, zk61, zk62, zk63, zk64, zk65, zk66, zk67, zk68, zk69, zk70, zk71, zk72, zk73, zk74, zk75, zk76, zk77, zk78, zk79, zk80, zk81, zk82, zk83, zk84, zk85, zk86, zk87, zk88, zk89, zk90, zr2_0, zr2_1, zr2_2, zr2_3, zr2_4, zr2_6, zr2_7, zr2_10, zr2_11, zr2_12, zr1_0, zr1_1, zr14_0, zr14_1, zr14_2, zr14_3, zr14_4, zr14_6, zr14_7, zr14_10, zr14_11, zr14_12, zr13_0, zr25_0, zr25_1, zr25_2, zr25_3, zr25_4, zr25_6, zr25_7, zr25_10, zr25_11, zr25_12, zr13_1, zr1_2, zr37_0, zr1_3, zr39_0, zr39_1, zr39_2, zr39_5, zr39_7, zr39_8, zr1_4, zr46_1, zr46_2, zr46_3, zr46_4, zr46_0, zr1_5, zr51_2, zr51_10, zr51_0, zr51_1, zr54_1, zr54_2, zr54_3, zr1_6, zr58_1, zr58_2, zr58_3, zr58_0, zr1_7, zr62_2, zr62_3, zr62_0, zr62_1, zr1_8, zr1_9, zr1_10, zr1_15, zr68_2, zr68_3, zr68_4, zr68_5, zr68_7, zr68_8, zr68_9, zr68_12, zr68_13, zr68_14, zr68_22, zr68_23, zr68_24, zr68_26, zr68_35, zr68_36, zr68_37, zr68_38, zr68_39, zr68_40, zr68_41, zr68_42, h19, h20, c1, w1, eX2]
  refine wpo_mono sum ?_
  intro q ⟨q1, br1, q2, q3⟩
  have hBq := q1.2.1
  have q21 := q2.2
  have eq := e2.fe q1
  have f3 := zFe_68 (i := 21) (v := 0) hBq (Or.inr rfl)
  have hB3 := f3.2.1
  have a3 : zAe t X.2.1 0 (mup q.2.1 68 21 0, q.2.2) := ⟨by show mup q.2.1 68 21 0 68 19 = _; rw [mup_slot (by decide)]; exact q2.1, by show mup q.2.1 68 21 0 68 21 = _; exact mup_same⟩
  have e3 := eq.fe f3
  have kx := hK X.2.1 k3
  have pa := v_passes (c := 2) hT hA e3 k3 a3
  have pw := phi_word (k := K X.2.1) (j := 2) kx (by decide)
  have fz := ((f1.trans f2).trans q1).trans f3
  generalize eX3 : ((mup q.2.1 68 21 0, q.2.2) : mS) = Z at *
  rcases kr with ⟨kc, ez⟩ | ⟨kc, xN, y1, yN, ez⟩
  · rw [if_neg (fun e => kc (by have := pw.mp e; omega))] at pa
    have rt : zRt 1 0 (fun _ => some 1) w 1 0 := by
      refine ⟨Or.inl rfl, Or.inr rfl, fun _ => ⟨fun x hx => ?_, fun h => by cases h⟩, fun h => absurd ⟨rfl, rfl⟩ h⟩
      have hx : some (1 : Int) = some x := hx
      cases hx
      exact ⟨rfl, rfl⟩
    have e108 := v_108 (told := told) (x := q.1) (br1 := br1) (s0 := 1) (g := g) hB3 a3.1 (by omega) a3.2 ht q3 rt
    obtain ⟨f4, e4, a4⟩ := v_tok (b := X.2.1 + 1) e3 a3
    simp (maxSteps := 5000000) (disch := first | assumption | omega) only [wpo_bind, wpo_some, wpo_gf, wpo_gk, wpo_ld, wpo_pf, wpo_pz, wpo_sd, wpo_sr, wpo_ln, wpo_idv, wpo_irm, wpo_lrm, wpo_ldv, wpo_cpy, mlet, mnar_int, mup_same, mup_cell, mup_slot, ite_true, ite_false, true_and, and_true, eq_self, or_true, true_or, and_self, Int.reduceLT, Int.reduceLE, Int.reduceEq, Int.reduceNe, Int.reduceAdd, Int.reduceSub, Int.reduceMul, Int.reduceNeg, ne_eq, not_false_eq_true, not_true_eq_false, false_or, or_false, zor_inl, zor_inr, Bool.false_eq_true, false_and, and_false, zk1, zk2, zk3, zk4, zk5, zk6, zk7, zk8, zk9, zk10, zk11, zk12, zk13, zk14, zk15, zk16, zk17, zk18, zk19, zk20, zk21, zk22, zk23, zk24, zk25, zk26, zk27, zk28, zk29, zk30, zk31, zk32, zk33, zk34, zk35, zk36, zk37, zk38, zk39, zk40, zk41, zk42, zk43, zk44, zk45, zk46, zk47, zk48, zk49, zk50, zk51, zk52, zk53, zk54, zk55, zk56, zk57, zk58, zk59, zk60, zk61, zk62, zk63, zk64, zk65, zk66, zk67, zk68, zk69, zk70, zk71, zk72, zk73, zk74, zk75, zk76, zk77, zk78, zk79, zk80, zk81, zk82, zk83, zk84, zk85, zk86, zk87, zk88, zk89, zk90, zr2_0, zr2_1, zr2_2, zr2_3, zr2_4, zr2_6, zr2_7, zr2_10, zr2_11, zr2_12, zr1_0, zr1_1, zr14_0, zr14_1, zr14_2, zr14_3, zr14_4, zr14_6, zr14_7, zr14_10, zr14_11, zr14_12, zr13_0, zr25_0, zr25_1, zr25_2, zr25_3, zr25_4, zr25_6, zr25_7, zr25_10, zr25_11, zr25_12, zr13_1, zr1_2, zr37_0, zr1_3, zr39_0, zr39_1, zr39_2, zr39_5, zr39_7, zr39_8, zr1_4, zr46_1, zr46_2, zr46_3, zr46_4, zr46_0, zr1_5, zr51_2, zr51_10, zr51_0, zr51_1, zr54_1, zr54_2, zr54_3, zr1_6, zr58_1, zr58_2, zr58_3, zr58_0, zr1_7, zr62_2, zr62_3, zr62_0, zr62_1, zr1_8, zr1_9, zr1_10, zr1_15, zr68_2, zr68_3, zr68_4, zr68_5, zr68_7, zr68_8, zr68_9, zr68_12, zr68_13, zr68_14, zr68_22, zr68_23, zr68_24, zr68_26, zr68_35, zr68_36, zr68_37, zr68_38, zr68_39, zr68_40, zr68_41, zr68_42, q21, eX3, pa]
    unfold M_Mo_warmthOf_105
    rw [e108, ← hQ, ez]
    have en : 400 * t + (X.2.1 : Int) + 1 = 400 * t + ((X.2.1 + 1 : Nat) : Int) := by omega
    rw [en]
    exact wpo_some.mpr ⟨_, 0, rfl, fz.trans f4, a4⟩
  · rw [if_pos (pw.mpr (by omega))] at pa
    obtain ⟨f4, e4, a4⟩ := v_tok (b := X.2.1 + 1) e3 a3
    have hB4 := e4.1
    have tst := (v_testF hT hA hK hw 8 (by decide)).2 mD (by rw [mD_eq]; decide) 1 (Or.inr rfl) (X.2.1 + 1) X.2.2.1 0 _ y1 (by omega) k5 e4 a4 (Or.inl rfl)
    generalize eT : zTestF K V 8 (X.2.1 + 1) X.2.2.1 = T at *
    simp (maxSteps := 5000000) (disch := first | assumption | omega) only [wpo_bind, wpo_some, wpo_gf, wpo_gk, wpo_ld, wpo_pf, wpo_pz, wpo_sd, wpo_sr, wpo_ln, wpo_idv, wpo_irm, wpo_lrm, wpo_ldv, wpo_cpy, mlet, mnar_int, mup_same, mup_cell, mup_slot, ite_true, ite_false, true_and, and_true, eq_self, or_true, true_or, and_self, Int.reduceLT, Int.reduceLE, Int.reduceEq, Int.reduceNe, Int.reduceAdd, Int.reduceSub, Int.reduceMul, Int.reduceNeg, ne_eq, not_false_eq_true, not_true_eq_false, false_or, or_false, zor_inl, zor_inr, Bool.false_eq_true, false_and, and_false, zk1, zk2, zk3, zk4, zk5, zk6, zk7, zk8, zk9, zk10, zk11, zk12, zk13, zk14, zk15, zk16, zk17, zk18, zk19, zk20, zk21, zk22, zk23, zk24, zk25, zk26, zk27, zk28, zk29, zk30, zk31, zk32, zk33, zk34, zk35, zk36, zk37, zk38, zk39, zk40, zk41, zk42, zk43, zk44, zk45, zk46, zk47, zk48, zk49, zk50, zk51, zk52, zk53, zk54, zk55, zk56, zk57, zk58, zk59, zk60, zk61, zk62, zk63, zk64, zk65, zk66, zk67, zk68, zk69, zk70, zk71, zk72, zk73, zk74, zk75, zk76, zk77, zk78, zk79, zk80, zk81, zk82, zk83, zk84, zk85, zk86, zk87, zk88, zk89, zk90, zr2_0, zr2_1, zr2_2, zr2_3, zr2_4, zr2_6, zr2_7, zr2_10, zr2_11, zr2_12, zr1_0, zr1_1, zr14_0, zr14_1, zr14_2, zr14_3, zr14_4, zr14_6, zr14_7, zr14_10, zr14_11, zr14_12, zr13_0, zr25_0, zr25_1, zr25_2, zr25_3, zr25_4, zr25_6, zr25_7, zr25_10, zr25_11, zr25_12, zr13_1, zr1_2, zr37_0, zr1_3, zr39_0, zr39_1, zr39_2, zr39_5, zr39_7, zr39_8, zr1_4, zr46_1, zr46_2, zr46_3, zr46_4, zr46_0, zr1_5, zr51_2, zr51_10, zr51_0, zr51_1, zr54_1, zr54_2, zr54_3, zr1_6, zr58_1, zr58_2, zr58_3, zr58_0, zr1_7, zr62_2, zr62_3, zr62_0, zr62_1, zr1_8, zr1_9, zr1_10, zr1_15, zr68_2, zr68_3, zr68_4, zr68_5, zr68_7, zr68_8, zr68_9, zr68_12, zr68_13, zr68_14, zr68_22, zr68_23, zr68_24, zr68_26, zr68_35, zr68_36, zr68_37, zr68_38, zr68_39, zr68_40, zr68_41, zr68_42, q21, eX3, pa, n10]
    refine wpo_mono tst ?_
    intro z ⟨z1, br2, z2, z3⟩
    have hBz := z1.2.1
    have e108 := v_108 (told := told) (x := q.1) (br1 := br1) (s0 := z.1) (g := g) hBz z2.1 (by omega) z2.2 ht q3 z3
    obtain ⟨f5, e5, a5⟩ := v_tok (b := T.2.1 + 1) (e4.fe z1) z2
    have en : 400 * t + (T.2.1 : Int) + 1 = 400 * t + ((T.2.1 + 1 : Nat) : Int) := by omega
    rw [en] at e108
    have fin : wpo (some (Sum.inl (zClD X.2.2.2 T.2.2.2 g w, (mup z.2.1 68 19 (400 * t + ((T.2.1 + 1 : Nat) : Int)), z.2.2)))) Q := by
      rw [← hQ, ez]
      exact wpo_some.mpr ⟨_, br2, rfl, (fz.trans f4).trans (z1.trans f5), a5⟩
    by_cases c0 : z.1 = 0
    · rw [if_pos c0]
      rw [c0] at e108
      rw [e108]
      exact fin
    · rw [if_neg c0]
      have z01 := z3.2.1
      have ez1 : z.1 = 1 := by omega
      rw [ez1] at e108
      unfold M_Mo_warmthOf_105
      rw [e108]
      exact fin
set_option maxHeartbeats 4000000 in
theorem v_law {K V S : Nat → Int} {N : Nat} (hT : zTx K V N) (hY : zTy K S N) {A : Int → Int} {t : Int} (hA : zAk K V N A t) {w : Int → Int} (hw : zwok w) :
    ∀ (n M m a p : Nat) (g : (Int → Int) → Int) (told br : Int) (σ0 σ : mS), n + 1 < M → N < (zCla K V m a p g).2.1 + n → (zCla K V m a p g).1 = 1 → (zCz K V n (m + 1) (zCla K V m a p g).2.1 (zCla K V m a p g).2.2.1 (zCla K V m a p g).2.2.2).1 = 1 → K (zCz K V n (m + 1) (zCla K V m a p g).2.1 (zCla K V m a p g).2.2.1 (zCla K V m a p g).2.2.2).2.1 = 256 → a ≤ N → p ≤ 50 → zEv A N t w σ → zAe t a br σ → zFe σ0 σ → told = g w →
    wpo (miter (fun s : Int × mS => B_Mo_warmthOf_73 68 s.1 s.2) M (told, σ)) (fun q => zFe σ0 q.2 ∧ q.1 = (zCz K V n (m + 1) (zCla K V m a p g).2.1 (zCla K V m a p g).2.2.1 (zCla K V m a p g).2.2.2).2.2.2 w) := by
  have hK : ∀ j : Nat, j ≤ N → 0 ≤ K j ∧ K j < 270 := fun j hj => ⟨(hY.1 j hj).1, (hY.1 j hj).2.1⟩
  intro n
  induction n with
  | zero =>
    intro M m a p g told br σ0 σ _ h1 h2 _ _ aN p50
    rcases zCla_ok hT m a p g aN p50 with ⟨_, _, k3, _⟩ | ⟨k1, _⟩
    · omega
    · omega
  | succ n ih =>
    intro M m a p g told br σ0 σ hM hn hok hz hk aN p50 hE hs hF ht
    obtain ⟨M, rfl⟩ : ∃ K, M = K + 1 := ⟨M - 1, by omega⟩
    unfold miter
    refine wpo_call (v_clause hT hA hK hw hok aN p50 hE hs ht) ?_
    intro z ⟨σ2, br', hz', f2, a2⟩
    rw [hz']
    have hE2 := hE.fe f2
    rcases zCla_ok hT m a p g aN p50 with ⟨k1, k2, k3, k4⟩ | ⟨k1, _⟩
    · unfold zCz at hz hk ⊢
      by_cases c : K (zCla K V m a p g).2.1 = 59
      · rw [if_pos c] at hz hk ⊢
        have ne : (zCla K V m a p g).2.1 ≠ N := by intro e; rw [e, hT.2.1] at c; omega
        rcases zCla_ok hT (m + 1) ((zCla K V m a p g).2.1 + 1) (zCla K V m a p g).2.2.1 (zCla K V m a p g).2.2.2 (by omega) k4 with ⟨y1, y2, y3, y4⟩ | ⟨y1, _⟩
        · rw [if_pos y1] at hz hk ⊢
          exact ih M (m + 1) ((zCla K V m a p g).2.1 + 1) (zCla K V m a p g).2.2.1 (zCla K V m a p g).2.2.2 _ br' σ0 σ2 (by omega) (by omega) y1 hz hk (by omega) k4 hE2 a2 (hF.trans f2) rfl
        · rw [if_neg (by omega)] at hz; omega
      · rw [if_neg c] at hz hk ⊢
        have eN : (zCla K V m a p g).2.1 = N := by
          refine Decidable.byContradiction (fun hc => ?_)
          exact hY.2 (zCla K V m a p g).2.1 (by omega) hk
        obtain ⟨M, rfl⟩ : ∃ K, M = K + 1 := ⟨M - 1, by omega⟩
        show wpo (miter (fun s : Int × mS => B_Mo_warmthOf_73 68 s.1 s.2) (M + 1) ((zCla K V m a p g).2.2.2 w, σ2)) _
        unfold miter
        have hB2 := hE2.1
        have h19 := a2.1
        have h20 := hE2.2.2.1
        refine wpo_call (Q := fun z => z = Sum.inr ((zCla K V m a p g).2.2.2 w, σ2)) ?_ ?_
        · show wpo (B_Mo_warmthOf_73 68 ((zCla K V m a p g).2.2.2 w) σ2) _
          have c1 : ¬ 400 * t + (((zCla K V m a p g).2.1 + 1 : Nat) : Int) < 400 * t + (N : Int) := by omega
          unfold B_Mo_warmthOf_73
          simp (maxSteps := 5000000) (disch := first | assumption | omega) only [wpo_bind, wpo_some, wpo_gf, wpo_gk, wpo_ld, wpo_pf, wpo_pz, wpo_sd, wpo_sr, wpo_ln, wpo_idv, wpo_irm, wpo_lrm, wpo_ldv, wpo_cpy, mlet, mnar_int, mup_same, mup_cell, mup_slot, ite_true, ite_false, true_and, and_true, eq_self, or_true, true_or, and_self, Int.reduceLT, Int.reduceLE, Int.reduceEq, Int.reduceNe, Int.reduceAdd, Int.reduceSub, Int.reduceMul, Int.reduceNeg, ne_eq, not_false_eq_true, not_true_eq_false, false_or, or_false, zor_inl, zor_inr, Bool.false_eq_true, false_and, and_false, zk1, zk2, zk3, zk4, zk5, zk6, zk7, zk8, zk9, zk10, zk11, zk12, zk13, zk14, zk15, zk16, zk17, zk18, zk19, zk20, zk21, zk22, zk23, zk24, zk25, zk26, zk27, zk28, zk29, zk30, zk31, zk32, zk33, zk34, zk35, zk36, zk37, zk38, zk39, zk40, zk41, zk42, zk43, zk44, zk45, zk46, zk47, zk48, zk49, zk50, zk51, zk52, zk53, zk54, zk55, zk56, zk57, zk58, zk59, zk60, zk61, zk62, zk63, zk64, zk65, zk66, zk67, zk68, zk69, zk70, zk71, zk72, zk73, zk74, zk75, zk76, zk77, zk78, zk79, zk80, zk81, zk82, zk83, zk84, zk85, zk86, zk87, zk88, zk89, zk90, zr2_0, zr2_1, zr2_2, zr2_3, zr2_4, zr2_6, zr2_7, zr2_10, zr2_11, zr2_12, zr1_0, zr1_1, zr14_0, zr14_1, zr14_2, zr14_3, zr14_4, zr14_6, zr14_7, zr14_10, zr14_11, zr14_12, zr13_0, zr25_0, zr25_1, zr25_2, zr25_3, zr25_4, zr25_6, zr25_7, zr25_10, zr25_11, zr25_12, zr13_1, zr1_2, zr37_0, zr1_3, zr39_0, zr39_1, zr39_2, zr39_5, zr39_7, zr39_8, zr1_4, zr46_1, zr46_2, zr46_3, zr46_4, zr46_0, zr1_5, zr51_2, zr51_10, zr51_0, zr51_1, zr54_1, zr54_2, zr54_3, zr1_6, zr58_1, zr58_2, zr58_3, zr58_0, zr1_7, zr62_2, zr62_3, zr62_0, zr62_1, zr1_8, zr1_9, zr1_10, zr1_15, zr68_2, zr68_3, zr68_4, zr68_5, zr68_7, zr68_8, zr68_9, zr68_12, zr68_13, zr68_14, zr68_22, zr68_23, zr68_24, zr68_26, zr68_35, zr68_36, zr68_37, zr68_38, zr68_39, zr68_40, zr68_41, zr68_42, h19, h20, c1]
        · intro z hz2
          rw [hz2]
          exact wpo_some.mpr ⟨hF.trans f2, rfl⟩
    · omega
set_option maxHeartbeats 4000000 in
/-- all laws that are kept tell what D says: so warmth is told -/
theorem zML_of {D : Int → (Int → Int) → Int} {A : Int → Int} (hW : zWF A) (h : ∀ t, 0 ≤ t → t < A 186 → zLm A t (D t)) : zML D A := by
  intro σ hB h70 p i hr p0 p1 i0 i1 r0 r1
  have c187 := hW.2.2.2.2.2.2.2.2
  have c186 := hW.2.2.2.2.2.2.2.1
  have wp := hW.1 p p0 p1
  unfold M_Mo_warmthOf zWd
  by_cases c : A 187 = -1
  · rw [if_pos (by omega)]
    generalize hQ : (fun q : Int × mS => q.1 = 10 ∧ q.2.2 = σ.2 ∧ zB q.2 ∧ (∀ r, r ≠ 68 → r ≠ 79 → q.2.1 r = σ.1 r) ∧ ∀ j, j ≠ 19 → j ≠ 20 → j ≠ 21 → q.2.1 68 j = σ.1 68 j) = Q
    simp (maxSteps := 5000000) (disch := first | assumption | omega) only [wpo_bind, wpo_some, wpo_gf, wpo_gk, wpo_ld, wpo_pf, wpo_pz, wpo_sd, wpo_sr, wpo_ln, wpo_idv, wpo_irm, wpo_lrm, wpo_ldv, wpo_cpy, mlet, mnar_int, mup_same, mup_cell, mup_slot, ite_true, ite_false, true_and, and_true, eq_self, or_true, true_or, and_self, Int.reduceLT, Int.reduceLE, Int.reduceEq, Int.reduceNe, Int.reduceAdd, Int.reduceSub, Int.reduceMul, Int.reduceNeg, ne_eq, not_false_eq_true, not_true_eq_false, false_or, or_false, zor_inl, zor_inr, Bool.false_eq_true, false_and, and_false, zk1, zk2, zk3, zk4, zk5, zk6, zk7, zk8, zk9, zk10, zk11, zk12, zk13, zk14, zk15, zk16, zk17, zk18, zk19, zk20, zk21, zk22, zk23, zk24, zk25, zk26, zk27, zk28, zk29, zk30, zk31, zk32, zk33, zk34, zk35, zk36, zk37, zk38, zk39, zk40, zk41, zk42, zk43, zk44, zk45, zk46, zk47, zk48, zk49, zk50, zk51, zk52, zk53, zk54, zk55, zk56, zk57, zk58, zk59, zk60, zk61, zk62, zk63, zk64, zk65, zk66, zk67, zk68, zk69, zk70, zk71, zk72, zk73, zk74, zk75, zk76, zk77, zk78, zk79, zk80, zk81, zk82, zk83, zk84, zk85, zk86, zk87, zk88, zk89, zk90, zr2_0, zr2_1, zr2_2, zr2_3, zr2_4, zr2_6, zr2_7, zr2_10, zr2_11, zr2_12, zr1_0, zr1_1, zr14_0, zr14_1, zr14_2, zr14_3, zr14_4, zr14_6, zr14_7, zr14_10, zr14_11, zr14_12, zr13_0, zr25_0, zr25_1, zr25_2, zr25_3, zr25_4, zr25_6, zr25_7, zr25_10, zr25_11, zr25_12, zr13_1, zr1_2, zr37_0, zr1_3, zr39_0, zr39_1, zr39_2, zr39_5, zr39_7, zr39_8, zr1_4, zr46_1, zr46_2, zr46_3, zr46_4, zr46_0, zr1_5, zr51_2, zr51_10, zr51_0, zr51_1, zr54_1, zr54_2, zr54_3, zr1_6, zr58_1, zr58_2, zr58_3, zr58_0, zr1_7, zr62_2, zr62_3, zr62_0, zr62_1, zr1_8, zr1_9, zr1_10, zr1_15, zr68_2, zr68_3, zr68_4, zr68_5, zr68_7, zr68_8, zr68_9, zr68_12, zr68_13, zr68_14, zr68_22, zr68_23, zr68_24, zr68_26, zr68_35, zr68_36, zr68_37, zr68_38, zr68_39, zr68_40, zr68_41, zr68_42, h70, c]
    rw [← hQ]
    exact ⟨rfl, rfl, hB, fun _ _ _ => rfl, fun _ _ _ _ => rfl⟩
  · rw [if_neg (by omega)]
    obtain ⟨K, V, S, N, hT, hY, hA, hok, hD⟩ := h (A 187) (by omega) c187.2
    obtain ⟨z1, z2, z3, z4⟩ := zTxt_1 hT hok
    have N4 := hT.1
    have w1 : ∀ u : Int, u = i - A p → w32 u = i - A p := fun u hu => by rw [w32_in (by omega) (by omega)]; omega
    have w2 : ∀ u : Int, u = p → w32 (64 + u) = 64 + p := fun u hu => by rw [w32_in (by omega) (by omega)]; omega
    have w3 : ∀ u : Int, u = A 187 → w32 (400 * u) = 400 * A 187 := fun u hu => by rw [w32_in (by omega) (by omega)]; omega
    have w4 : ∀ u : Int, u = A 187 → w32 (188 + u) = 188 + A 187 := fun u hu => by rw [w32_in (by omega) (by omega)]; omega
    have w5 : ∀ u v : Int, u = 400 * A 187 → v = (N : Int) → w32 (u + v) = 400 * A 187 + (N : Int) := fun u v hu hv => by rw [w32_in (by omega) (by omega)]; omega
    have c1 : 0 ≤ 64 + p := by omega
    have c2 : 64 + p < 4994 := by omega
    have c3 : 0 ≤ 188 + A 187 := by omega
    have c4 : 188 + A 187 < 4994 := by omega
    have aN := hA.2.1
    have hw : zwok (zws i (A p) p (A (64 + p)) hr) := by
      intro k k0 k5
      unfold zws
      split
      · omega
      · split
        · omega
        · split
          · omega
          · split
            · omega
            · split <;> omega
    -- the state at the loop's head
    have b1 := zB_mup (r := 79) (i := 0) (v := i) hB (zokr_arr (by decide +kernel))
    have b2 := zB_mup (r := 79) (i := 1) (v := i - A p) b1 (zokr_arr (by decide +kernel))
    have b3 := zB_mup (r := 79) (i := 2) (v := p) b2 (zokr_arr (by decide +kernel))
    have b4 := zB_mup (r := 79) (i := 3) (v := A (64 + p)) b3 (zokr_arr (by decide +kernel))
    have b5 := zB_mup (r := 79) (i := 4) (v := A p) b4 (zokr_arr (by decide +kernel))
    have b6 := zB_mup (r := 79) (i := 5) (v := hr) b5 (zokr_arr (by decide +kernel))
    have b7 := zB_mup (r := 68) (i := 19) (v := 400 * A 187) b6 (by decide +kernel)
    have b8 := zB_mup (r := 68) (i := 20) (v := 400 * A 187 + (N : Int)) b7 (by decide +kernel)
    have rs1 := f_riseOf (A := A) (p := p) b1 (by show mup σ.1 79 0 i 70 = A; rw [mup_fun (by decide)]; exact h70) p0 p1
    have rs2 := f_riseOf (A := A) (p := p) b4 (by show mup (mup (mup (mup σ.1 79 0 i) 79 1 (i - A p)) 79 2 p) 79 3 (A (64 + p)) 70 = A; rw [mup_fun (by decide), mup_fun (by decide), mup_fun (by decide), mup_fun (by decide)]; exact h70) p0 p1
    have n1 : ¬ A 187 = -1 := c
    have h70k : ∀ k, σ.1 70 k = A k := fun k => by rw [h70]
    generalize hQ : (fun q : Int × mS => q.1 = D (A 187) (zws i (A p) p (A (64 + p)) hr) ∧ q.2.2 = σ.2 ∧ zB q.2 ∧ (∀ r, r ≠ 68 → r ≠ 79 → q.2.1 r = σ.1 r) ∧ ∀ j, j ≠ 19 → j ≠ 20 → j ≠ 21 → q.2.1 68 j = σ.1 68 j) = Q
    simp (maxSteps := 5000000) (disch := first | assumption | omega) only [wpo_bind, wpo_some, wpo_gf, wpo_gk, wpo_ld, wpo_pf, wpo_pz, wpo_sd, wpo_sr, wpo_ln, wpo_idv, wpo_irm, wpo_lrm, wpo_ldv, wpo_cpy, mlet, mnar_int, mup_same, mup_cell, mup_slot, ite_true, ite_false, true_and, and_true, eq_self, or_true, true_or, and_self, Int.reduceLT, Int.reduceLE, Int.reduceEq, Int.reduceNe, Int.reduceAdd, Int.reduceSub, Int.reduceMul, Int.reduceNeg, ne_eq, not_false_eq_true, not_true_eq_false, false_or, or_false, zor_inl, zor_inr, Bool.false_eq_true, false_and, and_false, zk1, zk2, zk3, zk4, zk5, zk6, zk7, zk8, zk9, zk10, zk11, zk12, zk13, zk14, zk15, zk16, zk17, zk18, zk19, zk20, zk21, zk22, zk23, zk24, zk25, zk26, zk27, zk28, zk29, zk30, zk31, zk32, zk33, zk34, zk35, zk36, zk37, zk38, zk39, zk40, zk41, zk42, zk43, zk44, zk45, zk46, zk47, zk48, zk49, zk50, zk51, zk52, zk53, zk54, zk55, zk56, zk57, zk58, zk59, zk60, zk61, zk62, zk63, zk64, zk65, zk66, zk67, zk68, zk69, zk70, zk71, zk72, zk73, zk74, zk75, zk76, zk77, zk78, zk79, zk80, zk81, zk82, zk83, zk84, zk85, zk86, zk87, zk88, zk89, zk90, zr2_0, zr2_1, zr2_2, zr2_3, zr2_4, zr2_6, zr2_7, zr2_10, zr2_11, zr2_12, zr1_0, zr1_1, zr14_0, zr14_1, zr14_2, zr14_3, zr14_4, zr14_6, zr14_7, zr14_10, zr14_11, zr14_12, zr13_0, zr25_0, zr25_1, zr25_2, zr25_3, zr25_4, zr25_6, zr25_7, zr25_10, zr25_11, zr25_12, zr13_1, zr1_2, zr37_0, zr1_3, zr39_0, zr39_1, zr39_2, zr39_5, zr39_7, zr39_8, zr1_4, zr46_1, zr46_2, zr46_3, zr46_4, zr46_0, zr1_5, zr51_2, zr51_10, zr51_0, zr51_1, zr54_1, zr54_2, zr54_3, zr1_6, zr58_1, zr58_2, zr58_3, zr58_0, zr1_7, zr62_2, zr62_3, zr62_0, zr62_1, zr1_8, zr1_9, zr1_10, zr1_15, zr68_2, zr68_3, zr68_4, zr68_5, zr68_7, zr68_8, zr68_9, zr68_12, zr68_13, zr68_14, zr68_22, zr68_23, zr68_24, zr68_26, zr68_35, zr68_36, zr68_37, zr68_38, zr68_39, zr68_40, zr68_41, zr68_42, h70k, n1, rs1, w1, w2, c1, c2, rs2, w3, w4, c3, c4, aN, w5]
    unfold M_Mo_warmthOf_73
    have fX : ∀ r, r ≠ 68 → r ≠ 79 → mup (mup (mup (mup (mup (mup (mup (mup σ.1 79 0 i) 79 1 (i - A p)) 79 2 p) 79 3 (A (64 + p))) 79 4 (A p)) 79 5 hr) 68 19 (400 * A 187)) 68 20 (400 * A 187 + (N : Int)) r = σ.1 r := by
      intro r x y
      rw [mup_fun x, mup_fun x, mup_fun y, mup_fun y, mup_fun y, mup_fun y, mup_fun y, mup_fun y]
    have f68 : ∀ j, j ≠ 19 → j ≠ 20 → mup (mup (mup (mup (mup (mup (mup (mup σ.1 79 0 i) 79 1 (i - A p)) 79 2 p) 79 3 (A (64 + p))) 79 4 (A p)) 79 5 hr) 68 19 (400 * A 187)) 68 20 (400 * A 187 + (N : Int)) 68 j = σ.1 68 j := by
      intro j x y
      rw [mup_slot y, mup_slot x, mup_cell (by decide), mup_cell (by decide), mup_cell (by decide), mup_cell (by decide), mup_cell (by decide), mup_cell (by decide)]
    have hE : zEv A N (A 187) (zws i (A p) p (A (64 + p)) hr) (mup (mup (mup (mup (mup (mup (mup (mup σ.1 79 0 i) 79 1 (i - A p)) 79 2 p) 79 3 (A (64 + p))) 79 4 (A p)) 79 5 hr) 68 19 (400 * A 187)) 68 20 (400 * A 187 + (N : Int)), σ.2) := by
      refine ⟨b8, ?_, ?_, ?_⟩
      · exact (fX 70 (by decide) (by decide)).trans h70
      · show mup (mup (mup (mup (mup (mup (mup (mup σ.1 79 0 i) 79 1 (i - A p)) 79 2 p) 79 3 (A (64 + p))) 79 4 (A p)) 79 5 hr) 68 19 (400 * A 187)) 68 20 (400 * A 187 + (N : Int)) 68 20 = _
        exact mup_same
      · intro k k0 k5
        show mup (mup (mup (mup (mup (mup (mup (mup σ.1 79 0 i) 79 1 (i - A p)) 79 2 p) 79 3 (A (64 + p))) 79 4 (A p)) 79 5 hr) 68 19 (400 * A 187)) 68 20 (400 * A 187 + (N : Int)) 79 k = _
        rw [mup_cell (by decide), mup_cell (by decide)]
        unfold zws
        have : k = 0 ∨ k = 1 ∨ k = 2 ∨ k = 3 ∨ k = 4 ∨ k = 5 := by omega
        rcases this with e | e | e | e | e | e <;> subst e <;> simp [mup]
    have ha : zAe (A 187) 0 (σ.1 68 21) (mup (mup (mup (mup (mup (mup (mup (mup σ.1 79 0 i) 79 1 (i - A p)) 79 2 p) 79 3 (A (64 + p))) 79 4 (A p)) 79 5 hr) 68 19 (400 * A 187)) 68 20 (400 * A 187 + (N : Int)), σ.2) := by
      refine ⟨?_, f68 21 (by decide) (by decide)⟩
      show mup (mup (mup (mup (mup (mup (mup (mup σ.1 79 0 i) 79 1 (i - A p)) 79 2 p) 79 3 (A (64 + p))) 79 4 (A p)) 79 5 hr) 68 19 (400 * A 187)) 68 20 (400 * A 187 + (N : Int)) 68 19 = _
      rw [mup_slot (by decide), mup_same]
      omega
    generalize eX : ((mup (mup (mup (mup (mup (mup (mup (mup σ.1 79 0 i) 79 1 (i - A p)) 79 2 p) 79 3 (A (64 + p))) 79 4 (A p)) 79 5 hr) 68 19 (400 * A 187)) 68 20 (400 * A 187 + (N : Int)), σ.2) : mS) = X at *
    have key := v_law hT hY hA hw 401 mN 0 0 0 (fun _ => 10) 10 (σ.1 68 21) X X (by rw [mN_eq]; decide) (by omega) z1 z2 z3 (by omega) (by omega) hE ha (zFe.rfl' hE.1) rfl
    refine wpo_mono key ?_
    intro q ⟨q1, q2⟩
    rw [← hQ]
    have eX2 : X.2 = σ.2 := by rw [← eX]
    have eXr : ∀ r, r ≠ 68 → r ≠ 79 → X.1 r = σ.1 r := fun r x y => by rw [← eX]; exact fX r x y
    have eX6 : ∀ j, j ≠ 19 → j ≠ 20 → X.1 68 j = σ.1 68 j := fun j x y => by rw [← eX]; exact f68 j x y
    refine ⟨?_, q1.1.trans eX2, q1.2.1, fun r x y => (q1.2.2.1 r x).trans (eXr r x y), fun j x y z => (q1.2.2.2 j x z).trans (eX6 j x y)⟩
    rw [q2, hD, z4]
