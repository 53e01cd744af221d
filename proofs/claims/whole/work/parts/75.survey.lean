noncomputable section
theorem s_fill {σ : mS} {r v n : Int} (hk : σ.2.1 r = (100, n)) (hr : 0 < r) (hn : 0 ≤ n ∧ n ≤ 90000) : wpo (M_JA_fill r v σ) (fun q => q.2.2 = σ.2 ∧ (∀ u, u ≠ r → q.2.1 u = σ.1 u) ∧ ∀ i, 0 ≤ i → i < n → q.2.1 r i = v) := by
  unfold M_JA_fill
  have l0 : (100 : Int) ≤ 100 := by decide
  simp only [wpo_bind, wpo_ln, hk, Int.le_refl, true_and, Int.reduceLT]
  unfold M_JA_fill_5
  refine miter_mN (fun m y => (m : Int) = n - y.1 ∧ 0 ≤ y.1 ∧ y.1 ≤ n ∧ y.2.2 = σ.2 ∧ (∀ u, u ≠ r → y.2.1 u = σ.1 u) ∧ ∀ i, 0 ≤ i → i < y.1 → y.2.1 r i = v) ?_ n.toNat _ (by omega) ?_
  · intro m y ⟨h1, h2, h3, h4, h5, h6⟩
    obtain ⟨i, σ'⟩ := y
    simp only at h1 h2 h3 h4 h5 h6
    have k' : σ'.2.1 r = (100, n) := by rw [h4]; exact hk
    show wpo (B_JA_fill_5 r v i n σ') _
    unfold B_JA_fill_5
    by_cases c : i < n
    · have w : w32 (i + 1) = i + 1 := w32_in (by omega) (by omega)
      simp only [c, if_true, wpo_bind, wpo_sd, k', true_and, hr, h2, wpo_some, zor_inl, mnar_int, w]
      refine ⟨m - 1, by omega, by omega, by omega, by omega, h4, ?_, ?_⟩
      · intro u hu; rw [mup_fun hu]; exact h5 u hu
      · intro j j0 j1
        rw [mup_if]
        by_cases cj : j = i
        · rw [if_pos cj]
        · rw [if_neg cj]; exact h6 j j0 (by omega)
    · have : i = n := by omega
      subst this
      simp only [c, if_false, wpo_some, zor_inr]
      exact ⟨h4, h5, h6⟩
  · exact ⟨by show ((n.toNat : Nat) : Int) = n - 0; omega, Int.le_refl 0, hn.1, rfl, fun _ _ => rfl, fun i a b => by simp only at b; omega⟩
/-- the eye goes past all things; the survey's rows are empty -/
theorem t_begin {D : Int → (Int → Int) → Int} {A : Int → Int} {hr pa : Int} {σ : mS} (h : zQT D A hr pa σ) : wpo (M_Survey_begin 62 σ) (fun q => zQT D A hr 1 q.2 ∧ zKc σ q.2 ∧ ∀ i, 0 ≤ i → i < 64 → q.2.1 63 i = 0 ∧ q.2.1 64 i = 0) := by
  have hB := h.q.1.1
  have e1 : zQT D A hr 1 (mup σ.1 51 7 1, σ.2) ∧ zKc σ (mup σ.1 51 7 1, σ.2) := by
    obtain ⟨s, es, h1, h2, h3⟩ := h
    have e := h1.eye (i := 7) (v := 1) (by decide +kernel)
    refine ⟨⟨s, es, e.1, ?_, h3⟩, e.2.1⟩
    obtain ⟨b1, b2, b3, b4, b5, b6, b7, b8, b9⟩ := h2
    have hh1 := zAir_get h1.1.2.2.2.2 b1.1 b1.2 b2
    have lo1 := zHB_low hh1.1
    have f : ∀ r, r ≠ 51 → mup σ.1 51 7 1 r = σ.1 r := fun r hr => mup_fun hr
    have g : ∀ i, i ≠ 7 → mup σ.1 51 7 1 51 i = σ.1 51 i := fun i hi => mup_slot hi
    refine ⟨b1, ?_, ?_, ?_, ?_, ?_, ?_, ?_, (by show mup σ.1 51 7 1 51 7 = 1; exact mup_same)⟩
    · simp only [f 47 (by decide)]; exact b2
    · simp only [f 47 (by decide), g 5 (by decide)]; exact b3
    · simp only [f 47 (by decide), f 48 (by decide), f (σ.1 47 s + 3) (by omega)]; exact b4
    · simp only [g 6 (by decide)]; exact b5
    · simp only [g 3 (by decide)]; exact b6
    · simp only [g 4 (by decide)]; exact b7
    · simp only [g 8 (by decide)]; exact b8
  unfold M_Survey_begin
  (try simp (disch := first | assumption | omega) only [wpo_bind, wpo_some, wpo_gf, wpo_gk, wpo_ld, wpo_pf, wpo_pz, wpo_sd, wpo_sr, wpo_ln, wpo_idv, wpo_irm, wpo_lrm, wpo_ldv, wpo_cpy, mlet, mnar_int, mup_same, mup_cell, mup_slot, ite_true, ite_false, true_and, and_true, eq_self, or_true, true_or, and_self, Int.reduceLT, Int.reduceLE, Int.reduceEq, Int.reduceNe, Int.reduceAdd, Int.reduceSub, Int.reduceMul, Int.reduceNeg, ne_eq, not_false_eq_true, not_true_eq_false, false_or, or_false, zor_inl, zor_inr, Bool.false_eq_true, false_and, and_false, zk1, zk2, zk3, zk4, zk5, zk6, zk7, zk8, zk9, zk10, zk11, zk12, zk13, zk14, zk15, zk16, zk17, zk18, zk19, zk20, zk21, zk22, zk23, zk24, zk25, zk26, zk27, zk28, zk29, zk30, zk31, zk32, zk33, zk34, zk35, zk36, zk37, zk38, zk39, zk40, zk41, zk42, zk43, zk44, zk45, zk46, zk47, zk48, zk49, zk50, zk51, zk52, zk53, zk54, zk55, zk56, zk57, zk58, zk59, zk60, zk61, zk62, zk63, zk64, zk65, zk66, zk67, zk68, zk69, zk70, zk71, zk72, zk73, zk74, zk75, zk76, zk77, zk78, zk79, zk80, zk81, zk82, zk83, zk84, zk85, zk86, zk87, zk88, zk89, zk90, zr2_0, zr2_1, zr2_2, zr2_3, zr2_4, zr2_6, zr2_7, zr2_10, zr2_11, zr2_12, zr1_0, zr1_1, zr14_0, zr14_1, zr14_2, zr14_3, zr14_4, zr14_6, zr14_7, zr14_10, zr14_11, zr14_12, zr13_0, zr25_0, zr25_1, zr25_2, zr25_3, zr25_4, zr25_6, zr25_7, zr25_10, zr25_11, zr25_12, zr13_1, zr1_2, zr37_0, zr1_3, zr39_0, zr39_1, zr39_2, zr39_5, zr39_7, zr39_8, zr1_4, zr46_1, zr46_2, zr46_3, zr46_4, zr46_0, zr1_5, zr51_2, zr51_10, zr51_0, zr51_1, zr54_1, zr54_2, zr54_3, zr1_6, zr58_1, zr58_2, zr58_3, zr58_0, zr1_7, zr62_2, zr62_3, zr62_0, zr62_1, zr1_8, zr1_9, zr1_10, zr1_15, zr68_2, zr68_3, zr68_4, zr68_5, zr68_7, zr68_8, zr68_9, zr68_12, zr68_13, zr68_14, zr68_22, zr68_23, zr68_24, zr68_26, zr68_35, zr68_36, zr68_37, zr68_38, zr68_39, zr68_40, zr68_41, zr68_42])
  have hB1 := e1.1.q.1.1
  generalize eX : ((mup σ.1 51 7 1, σ.2) : mS) = X at e1 hB1
  refine wpo_mono (s_fill (n := 64) (zk63 hB1) (by decide) (by decide)) ?_
  intro q ⟨q1, q2, q3⟩
  have s1 := e1.1.survey q1 (fun r a _ => q2 r a)
  have hBq := s1.1.q.1.1
  (try simp (disch := first | assumption | omega) only [wpo_bind, wpo_some, wpo_gf, wpo_gk, wpo_ld, wpo_pf, wpo_pz, wpo_sd, wpo_sr, wpo_ln, wpo_idv, wpo_irm, wpo_lrm, wpo_ldv, wpo_cpy, mlet, mnar_int, mup_same, mup_cell, mup_slot, ite_true, ite_false, true_and, and_true, eq_self, or_true, true_or, and_self, Int.reduceLT, Int.reduceLE, Int.reduceEq, Int.reduceNe, Int.reduceAdd, Int.reduceSub, Int.reduceMul, Int.reduceNeg, ne_eq, not_false_eq_true, not_true_eq_false, false_or, or_false, zor_inl, zor_inr, Bool.false_eq_true, false_and, and_false, zk1, zk2, zk3, zk4, zk5, zk6, zk7, zk8, zk9, zk10, zk11, zk12, zk13, zk14, zk15, zk16, zk17, zk18, zk19, zk20, zk21, zk22, zk23, zk24, zk25, zk26, zk27, zk28, zk29, zk30, zk31, zk32, zk33, zk34, zk35, zk36, zk37, zk38, zk39, zk40, zk41, zk42, zk43, zk44, zk45, zk46, zk47, zk48, zk49, zk50, zk51, zk52, zk53, zk54, zk55, zk56, zk57, zk58, zk59, zk60, zk61, zk62, zk63, zk64, zk65, zk66, zk67, zk68, zk69, zk70, zk71, zk72, zk73, zk74, zk75, zk76, zk77, zk78, zk79, zk80, zk81, zk82, zk83, zk84, zk85, zk86, zk87, zk88, zk89, zk90, zr2_0, zr2_1, zr2_2, zr2_3, zr2_4, zr2_6, zr2_7, zr2_10, zr2_11, zr2_12, zr1_0, zr1_1, zr14_0, zr14_1, zr14_2, zr14_3, zr14_4, zr14_6, zr14_7, zr14_10, zr14_11, zr14_12, zr13_0, zr25_0, zr25_1, zr25_2, zr25_3, zr25_4, zr25_6, zr25_7, zr25_10, zr25_11, zr25_12, zr13_1, zr1_2, zr37_0, zr1_3, zr39_0, zr39_1, zr39_2, zr39_5, zr39_7, zr39_8, zr1_4, zr46_1, zr46_2, zr46_3, zr46_4, zr46_0, zr1_5, zr51_2, zr51_10, zr51_0, zr51_1, zr54_1, zr54_2, zr54_3, zr1_6, zr58_1, zr58_2, zr58_3, zr58_0, zr1_7, zr62_2, zr62_3, zr62_0, zr62_1, zr1_8, zr1_9, zr1_10, zr1_15, zr68_2, zr68_3, zr68_4, zr68_5, zr68_7, zr68_8, zr68_9, zr68_12, zr68_13, zr68_14, zr68_22, zr68_23, zr68_24, zr68_26, zr68_35, zr68_36, zr68_37, zr68_38, zr68_39, zr68_40, zr68_41, zr68_42])
  refine wpo_mono (s_fill (n := 64) (zk64 hBq) (by decide) (by decide)) ?_
  intro u ⟨u1, u2, u3⟩
  have s2 := s1.1.survey u1 (fun r _ a => u2 r a)
  refine ⟨s2.1, (e1.2.trans s1.2).trans s2.2, fun i i0 i1 => ⟨?_, u3 i i0 i1⟩⟩
  rw [u2 63 (by decide)]; exact q3 i i0 i1
/-- a ray past all things would end in a thing so tall there -/
def zHit (S : zSc) (p tall : Int) : Bool := decide (ze S ≤ p ∧ p ≤ zpl S ∧ 100 * zA S p ≤ zH S (p - ze S).toNat ∧ zH S (p - ze S).toNat < 3200 ∧ zH S (p - ze S).toNat < 100 * (zA S p + tall))
theorem e_wouldEndIn {D : Int → (Int → Int) → Int} {A : Int → Int} {S : zSc} {σ : mS} {p tall : Int} (hq : zCQ D A σ) (eA : zA S = A) (e3 : σ.1 51 3 = ze S) (hr : zRes S σ) (p0 : 0 ≤ p) (p1 : p < 64) (ht : 1 ≤ tall ∧ tall ≤ 31) : M_Survey_wouldEndIn 62 p tall σ = some (if zHit S p tall = true then 1 else 0, σ) := by
  have hB := hq.1
  have : wpo (M_Survey_wouldEndIn 62 p tall σ) (fun q => q = (if zHit S p tall = true then 1 else 0, σ)) := by
    have r3 : σ.1 3 p = A p := (hq.2.2.1.1 p p0 p1).1
    have wf := hq.2.1.1 p p0 p1
    have w1 : w32 (100 * A p) = 100 * A p := w32_in (by omega) (by omega)
    have w2 : w32 (100 * tall) = 100 * tall := w32_in (by omega) (by omega)
    have w3 : w32 (100 * A p + 100 * tall) = 100 * A p + 100 * tall := w32_in (by omega) (by omega)
    have e11 := hr.1
    have ec := e_comesTo (p := p) hB
    rw [e3, e11] at ec
    unfold M_Survey_wouldEndIn
    by_cases d : ze S ≤ p ∧ p ≤ zpl S
    · have ev : σ.1 53 p = zH S (p - ze S).toNat := zRes_at hr d.1 d.2
      by_cases d1 : zH S (p - ze S).toNat < 100 * A p
      · have z : zHit S p tall = false := by unfold zHit; rw [eA]; exact decide_eq_false (fun x => by have := x.2.2.1; omega)
        (try simp (disch := first | assumption | omega) only [wpo_bind, wpo_some, wpo_gf, wpo_gk, wpo_ld, wpo_pf, wpo_pz, wpo_sd, wpo_sr, wpo_ln, wpo_idv, wpo_irm, wpo_lrm, wpo_ldv, wpo_cpy, mlet, mnar_int, mup_same, mup_cell, mup_slot, ite_true, ite_false, true_and, and_true, eq_self, or_true, true_or, and_self, Int.reduceLT, Int.reduceLE, Int.reduceEq, Int.reduceNe, Int.reduceAdd, Int.reduceSub, Int.reduceMul, Int.reduceNeg, ne_eq, not_false_eq_true, not_true_eq_false, false_or, or_false, zor_inl, zor_inr, Bool.false_eq_true, false_and, and_false, zk1, zk2, zk3, zk4, zk5, zk6, zk7, zk8, zk9, zk10, zk11, zk12, zk13, zk14, zk15, zk16, zk17, zk18, zk19, zk20, zk21, zk22, zk23, zk24, zk25, zk26, zk27, zk28, zk29, zk30, zk31, zk32, zk33, zk34, zk35, zk36, zk37, zk38, zk39, zk40, zk41, zk42, zk43, zk44, zk45, zk46, zk47, zk48, zk49, zk50, zk51, zk52, zk53, zk54, zk55, zk56, zk57, zk58, zk59, zk60, zk61, zk62, zk63, zk64, zk65, zk66, zk67, zk68, zk69, zk70, zk71, zk72, zk73, zk74, zk75, zk76, zk77, zk78, zk79, zk80, zk81, zk82, zk83, zk84, zk85, zk86, zk87, zk88, zk89, zk90, zr2_0, zr2_1, zr2_2, zr2_3, zr2_4, zr2_6, zr2_7, zr2_10, zr2_11, zr2_12, zr1_0, zr1_1, zr14_0, zr14_1, zr14_2, zr14_3, zr14_4, zr14_6, zr14_7, zr14_10, zr14_11, zr14_12, zr13_0, zr25_0, zr25_1, zr25_2, zr25_3, zr25_4, zr25_6, zr25_7, zr25_10, zr25_11, zr25_12, zr13_1, zr1_2, zr37_0, zr1_3, zr39_0, zr39_1, zr39_2, zr39_5, zr39_7, zr39_8, zr1_4, zr46_1, zr46_2, zr46_3, zr46_4, zr46_0, zr1_5, zr51_2, zr51_10, zr51_0, zr51_1, zr54_1, zr54_2, zr54_3, zr1_6, zr58_1, zr58_2, zr58_3, zr58_0, zr1_7, zr62_2, zr62_3, zr62_0, zr62_1, zr1_8, zr1_9, zr1_10, zr1_15, zr68_2, zr68_3, zr68_4, zr68_5, zr68_7, zr68_8, zr68_9, zr68_12, zr68_13, zr68_14, zr68_22, zr68_23, zr68_24, zr68_26, zr68_35, zr68_36, zr68_37, zr68_38, zr68_39, zr68_40, zr68_41, zr68_42, p0, p1, r3, ec, d, ev, w1, d1, z])
      · by_cases d2 : zH S (p - ze S).toNat < 3200
        · by_cases d3 : zH S (p - ze S).toNat < 100 * A p + 100 * tall
          · have z : zHit S p tall = true := by unfold zHit; rw [eA]; exact decide_eq_true ⟨d.1, d.2, by omega, d2, by omega⟩
            (try simp (disch := first | assumption | omega) only [wpo_bind, wpo_some, wpo_gf, wpo_gk, wpo_ld, wpo_pf, wpo_pz, wpo_sd, wpo_sr, wpo_ln, wpo_idv, wpo_irm, wpo_lrm, wpo_ldv, wpo_cpy, mlet, mnar_int, mup_same, mup_cell, mup_slot, ite_true, ite_false, true_and, and_true, eq_self, or_true, true_or, and_self, Int.reduceLT, Int.reduceLE, Int.reduceEq, Int.reduceNe, Int.reduceAdd, Int.reduceSub, Int.reduceMul, Int.reduceNeg, ne_eq, not_false_eq_true, not_true_eq_false, false_or, or_false, zor_inl, zor_inr, Bool.false_eq_true, false_and, and_false, zk1, zk2, zk3, zk4, zk5, zk6, zk7, zk8, zk9, zk10, zk11, zk12, zk13, zk14, zk15, zk16, zk17, zk18, zk19, zk20, zk21, zk22, zk23, zk24, zk25, zk26, zk27, zk28, zk29, zk30, zk31, zk32, zk33, zk34, zk35, zk36, zk37, zk38, zk39, zk40, zk41, zk42, zk43, zk44, zk45, zk46, zk47, zk48, zk49, zk50, zk51, zk52, zk53, zk54, zk55, zk56, zk57, zk58, zk59, zk60, zk61, zk62, zk63, zk64, zk65, zk66, zk67, zk68, zk69, zk70, zk71, zk72, zk73, zk74, zk75, zk76, zk77, zk78, zk79, zk80, zk81, zk82, zk83, zk84, zk85, zk86, zk87, zk88, zk89, zk90, zr2_0, zr2_1, zr2_2, zr2_3, zr2_4, zr2_6, zr2_7, zr2_10, zr2_11, zr2_12, zr1_0, zr1_1, zr14_0, zr14_1, zr14_2, zr14_3, zr14_4, zr14_6, zr14_7, zr14_10, zr14_11, zr14_12, zr13_0, zr25_0, zr25_1, zr25_2, zr25_3, zr25_4, zr25_6, zr25_7, zr25_10, zr25_11, zr25_12, zr13_1, zr1_2, zr37_0, zr1_3, zr39_0, zr39_1, zr39_2, zr39_5, zr39_7, zr39_8, zr1_4, zr46_1, zr46_2, zr46_3, zr46_4, zr46_0, zr1_5, zr51_2, zr51_10, zr51_0, zr51_1, zr54_1, zr54_2, zr54_3, zr1_6, zr58_1, zr58_2, zr58_3, zr58_0, zr1_7, zr62_2, zr62_3, zr62_0, zr62_1, zr1_8, zr1_9, zr1_10, zr1_15, zr68_2, zr68_3, zr68_4, zr68_5, zr68_7, zr68_8, zr68_9, zr68_12, zr68_13, zr68_14, zr68_22, zr68_23, zr68_24, zr68_26, zr68_35, zr68_36, zr68_37, zr68_38, zr68_39, zr68_40, zr68_41, zr68_42, p0, p1, r3, ec, d, ev, w1, w2, w3, d1, d2, d3, z])
          · have z : zHit S p tall = false := by unfold zHit; rw [eA]; exact decide_eq_false (fun x => by have := x.2.2.2.2; omega)
            (try simp (disch := first | assumption | omega) only [wpo_bind, wpo_some, wpo_gf, wpo_gk, wpo_ld, wpo_pf, wpo_pz, wpo_sd, wpo_sr, wpo_ln, wpo_idv, wpo_irm, wpo_lrm, wpo_ldv, wpo_cpy, mlet, mnar_int, mup_same, mup_cell, mup_slot, ite_true, ite_false, true_and, and_true, eq_self, or_true, true_or, and_self, Int.reduceLT, Int.reduceLE, Int.reduceEq, Int.reduceNe, Int.reduceAdd, Int.reduceSub, Int.reduceMul, Int.reduceNeg, ne_eq, not_false_eq_true, not_true_eq_false, false_or, or_false, zor_inl, zor_inr, Bool.false_eq_true, false_and, and_false, zk1, zk2, zk3, zk4, zk5, zk6, zk7, zk8, zk9, zk10, zk11, zk12, zk13, zk14, zk15, zk16, zk17, zk18, zk19, zk20, zk21, zk22, zk23, zk24, zk25, zk26, zk27, zk28, zk29, zk30, zk31, zk32, zk33, zk34, zk35, zk36, zk37, zk38, zk39, zk40, zk41, zk42, zk43, zk44, zk45, zk46, zk47, zk48, zk49, zk50, zk51, zk52, zk53, zk54, zk55, zk56, zk57, zk58, zk59, zk60, zk61, zk62, zk63, zk64, zk65, zk66, zk67, zk68, zk69, zk70, zk71, zk72, zk73, zk74, zk75, zk76, zk77, zk78, zk79, zk80, zk81, zk82, zk83, zk84, zk85, zk86, zk87, zk88, zk89, zk90, zr2_0, zr2_1, zr2_2, zr2_3, zr2_4, zr2_6, zr2_7, zr2_10, zr2_11, zr2_12, zr1_0, zr1_1, zr14_0, zr14_1, zr14_2, zr14_3, zr14_4, zr14_6, zr14_7, zr14_10, zr14_11, zr14_12, zr13_0, zr25_0, zr25_1, zr25_2, zr25_3, zr25_4, zr25_6, zr25_7, zr25_10, zr25_11, zr25_12, zr13_1, zr1_2, zr37_0, zr1_3, zr39_0, zr39_1, zr39_2, zr39_5, zr39_7, zr39_8, zr1_4, zr46_1, zr46_2, zr46_3, zr46_4, zr46_0, zr1_5, zr51_2, zr51_10, zr51_0, zr51_1, zr54_1, zr54_2, zr54_3, zr1_6, zr58_1, zr58_2, zr58_3, zr58_0, zr1_7, zr62_2, zr62_3, zr62_0, zr62_1, zr1_8, zr1_9, zr1_10, zr1_15, zr68_2, zr68_3, zr68_4, zr68_5, zr68_7, zr68_8, zr68_9, zr68_12, zr68_13, zr68_14, zr68_22, zr68_23, zr68_24, zr68_26, zr68_35, zr68_36, zr68_37, zr68_38, zr68_39, zr68_40, zr68_41, zr68_42, p0, p1, r3, ec, d, ev, w1, w2, w3, d1, d2, d3, z])
        · have z : zHit S p tall = false := by unfold zHit; exact decide_eq_false (fun x => d2 x.2.2.2.1)
          (try simp (disch := first | assumption | omega) only [wpo_bind, wpo_some, wpo_gf, wpo_gk, wpo_ld, wpo_pf, wpo_pz, wpo_sd, wpo_sr, wpo_ln, wpo_idv, wpo_irm, wpo_lrm, wpo_ldv, wpo_cpy, mlet, mnar_int, mup_same, mup_cell, mup_slot, ite_true, ite_false, true_and, and_true, eq_self, or_true, true_or, and_self, Int.reduceLT, Int.reduceLE, Int.reduceEq, Int.reduceNe, Int.reduceAdd, Int.reduceSub, Int.reduceMul, Int.reduceNeg, ne_eq, not_false_eq_true, not_true_eq_false, false_or, or_false, zor_inl, zor_inr, Bool.false_eq_true, false_and, and_false, zk1, zk2, zk3, zk4, zk5, zk6, zk7, zk8, zk9, zk10, zk11, zk12, zk13, zk14, zk15, zk16, zk17, zk18, zk19, zk20, zk21, zk22, zk23, zk24, zk25, zk26, zk27, zk28, zk29, zk30, zk31, zk32, zk33, zk34, zk35, zk36, zk37, zk38, zk39, zk40, zk41, zk42, zk43, zk44, zk45, zk46, zk47, zk48, zk49, zk50, zk51, zk52, zk53, zk54, zk55, zk56, zk57, zk58, zk59, zk60, zk61, zk62, zk63, zk64, zk65, zk66, zk67, zk68, zk69, zk70, zk71, zk72, zk73, zk74, zk75, zk76, zk77, zk78, zk79, zk80, zk81, zk82, zk83, zk84, zk85, zk86, zk87, zk88, zk89, zk90, zr2_0, zr2_1, zr2_2, zr2_3, zr2_4, zr2_6, zr2_7, zr2_10, zr2_11, zr2_12, zr1_0, zr1_1, zr14_0, zr14_1, zr14_2, zr14_3, zr14_4, zr14_6, zr14_7, zr14_10, zr14_11, zr14_12, zr13_0, zr25_0, zr25_1, zr25_2, zr25_3, zr25_4, zr25_6, zr25_7, zr25_10, zr25_11, zr25_12, zr13_1, zr1_2, zr37_0, zr1_3, zr39_0, zr39_1, zr39_2, zr39_5, zr39_7, zr39_8, zr1_4, zr46_1, zr46_2, zr46_3, zr46_4, zr46_0, zr1_5, zr51_2, zr51_10, zr51_0, zr51_1, zr54_1, zr54_2, zr54_3, zr1_6, zr58_1, zr58_2, zr58_3, zr58_0, zr1_7, zr62_2, zr62_3, zr62_0, zr62_1, zr1_8, zr1_9, zr1_10, zr1_15, zr68_2, zr68_3, zr68_4, zr68_5, zr68_7, zr68_8, zr68_9, zr68_12, zr68_13, zr68_14, zr68_22, zr68_23, zr68_24, zr68_26, zr68_35, zr68_36, zr68_37, zr68_38, zr68_39, zr68_40, zr68_41, zr68_42, p0, p1, r3, ec, d, ev, w1, d1, d2, z])
    · have z : zHit S p tall = false := by unfold zHit; exact decide_eq_false (fun x => d ⟨x.1, x.2.1⟩)
      (try simp (disch := first | assumption | omega) only [wpo_bind, wpo_some, wpo_gf, wpo_gk, wpo_ld, wpo_pf, wpo_pz, wpo_sd, wpo_sr, wpo_ln, wpo_idv, wpo_irm, wpo_lrm, wpo_ldv, wpo_cpy, mlet, mnar_int, mup_same, mup_cell, mup_slot, ite_true, ite_false, true_and, and_true, eq_self, or_true, true_or, and_self, Int.reduceLT, Int.reduceLE, Int.reduceEq, Int.reduceNe, Int.reduceAdd, Int.reduceSub, Int.reduceMul, Int.reduceNeg, ne_eq, not_false_eq_true, not_true_eq_false, false_or, or_false, zor_inl, zor_inr, Bool.false_eq_true, false_and, and_false, zk1, zk2, zk3, zk4, zk5, zk6, zk7, zk8, zk9, zk10, zk11, zk12, zk13, zk14, zk15, zk16, zk17, zk18, zk19, zk20, zk21, zk22, zk23, zk24, zk25, zk26, zk27, zk28, zk29, zk30, zk31, zk32, zk33, zk34, zk35, zk36, zk37, zk38, zk39, zk40, zk41, zk42, zk43, zk44, zk45, zk46, zk47, zk48, zk49, zk50, zk51, zk52, zk53, zk54, zk55, zk56, zk57, zk58, zk59, zk60, zk61, zk62, zk63, zk64, zk65, zk66, zk67, zk68, zk69, zk70, zk71, zk72, zk73, zk74, zk75, zk76, zk77, zk78, zk79, zk80, zk81, zk82, zk83, zk84, zk85, zk86, zk87, zk88, zk89, zk90, zr2_0, zr2_1, zr2_2, zr2_3, zr2_4, zr2_6, zr2_7, zr2_10, zr2_11, zr2_12, zr1_0, zr1_1, zr14_0, zr14_1, zr14_2, zr14_3, zr14_4, zr14_6, zr14_7, zr14_10, zr14_11, zr14_12, zr13_0, zr25_0, zr25_1, zr25_2, zr25_3, zr25_4, zr25_6, zr25_7, zr25_10, zr25_11, zr25_12, zr13_1, zr1_2, zr37_0, zr1_3, zr39_0, zr39_1, zr39_2, zr39_5, zr39_7, zr39_8, zr1_4, zr46_1, zr46_2, zr46_3, zr46_4, zr46_0, zr1_5, zr51_2, zr51_10, zr51_0, zr51_1, zr54_1, zr54_2, zr54_3, zr1_6, zr58_1, zr58_2, zr58_3, zr58_0, zr1_7, zr62_2, zr62_3, zr62_0, zr62_1, zr1_8, zr1_9, zr1_10, zr1_15, zr68_2, zr68_3, zr68_4, zr68_5, zr68_7, zr68_8, zr68_9, zr68_12, zr68_13, zr68_14, zr68_22, zr68_23, zr68_24, zr68_26, zr68_35, zr68_36, zr68_37, zr68_38, zr68_39, zr68_40, zr68_41, zr68_42, p0, p1, r3, ec, d, z])
  obtain ⟨y, e, rfl⟩ := this
  exact e
/-- one ray's share of the survey of hours -/
theorem t_addHours_15 {D : Int → (Int → Int) → Int} {A : Int → Int} {hr tall bits l3 a : Int} {σ : mS} (h : zQT D A hr 1 σ) (hr' : zRes (zSn D A hr (A 181) (A 183) a 0 0 1) σ) (ha : -500 ≤ a ∧ a ≤ 500) (ht : 1 ≤ tall ∧ tall ≤ 31) (hl : -100 ≤ l3 ∧ l3 ≤ 100) :
    wpo (M_Survey_addHours_15 62 tall bits l3 (A 182 + 1) σ) (fun z => ∃ σ' : mS, z = .inl (l3 + 1, σ') ∧ σ'.2 = σ.2 ∧ (∀ r, r ≠ 63 → σ'.1 r = σ.1 r) ∧ ∀ p, A 182 < p → p < 64 → σ'.1 63 p = if zHit (zSn D A hr (A 181) (A 183) a 0 0 1) p tall = true then ior (σ.1 63 p) bits else σ.1 63 p) := by
  have hB := h.q.1.1
  have hS : zSok (zSn D A hr (A 181) (A 183) a 0 0 1) := by
    have q := h.q
    have tm := q.1.2.1.2.2.2.2.1
    exact ⟨q.1.2.1, fun p i => zWd_bd q.1.2.1 q.1.2.2.2.1 hr p i, tm.2.1, tm.2.2.1, tm.2.2.2, ha, (by show (0 : Int) ≤ 0 ∧ (0 : Int) ≤ 50; decide), (by show (0 : Int) ≤ 0 ∧ (0 : Int) ≤ 1000002; decide)⟩
  have kb := zK_bd hS
  have e0 : ze (zSn D A hr (A 181) (A 183) a 0 0 1) = A 182 := rfl
  rw [e0] at kb
  have we := h.q.1.2.1.2.2.2.2.1.2.2.1
  have e3 := h.light
  generalize eS : zSn D A hr (A 181) (A 183) a 0 0 1 = S at *
  have eA : zA S = A := by rw [← eS]; rfl
  have pl : zpl S = A 182 + (zK S : Int) := by rw [← eS]; rfl
  have w0 : w32 (l3 + 1) = l3 + 1 := w32_in (by omega) (by omega)
  unfold M_Survey_addHours_15
  refine miter_mN (fun n y => ∃ k : Nat, n = 100 - k ∧ k ≤ zK S ∧ y.1 = A 182 + 1 + (k : Int) ∧ y.2.2 = σ.2 ∧ (∀ r, r ≠ 63 → y.2.1 r = σ.1 r) ∧ (∀ p, A 182 < p → p < A 182 + 1 + (k : Int) → y.2.1 63 p = if zHit S p tall = true then ior (σ.1 63 p) bits else σ.1 63 p) ∧ (∀ p, A 182 + 1 + (k : Int) ≤ p → y.2.1 63 p = σ.1 63 p)) ?_ 100 _ (by decide) ?_
  · intro n y ⟨k, hn, hk, y1, y2, y3, y4, y5⟩
    obtain ⟨l4, σ'⟩ := y
    simp only at y1 y2 y3 y4 y5
    subst y1
    have s' := h.survey y2 (fun r x _ => y3 r x)
    have hB' := s'.1.q.1.1
    have f51 := y3 51 (by decide)
    have r' : zRes S σ' := by unfold zRes; rw [f51, y3 53 (by decide)]; exact hr'
    have e11 := r'.1
    rw [pl] at e11
    show wpo (B_Survey_addHours_15 62 tall bits l3 (A 182 + 1 + (k : Int)) σ') _
    unfold B_Survey_addHours_15
    by_cases c : A 182 + (zK S : Int) < A 182 + 1 + (k : Int)
    · (try simp (disch := first | assumption | omega) only [wpo_bind, wpo_some, wpo_gf, wpo_gk, wpo_ld, wpo_pf, wpo_pz, wpo_sd, wpo_sr, wpo_ln, wpo_idv, wpo_irm, wpo_lrm, wpo_ldv, wpo_cpy, mlet, mnar_int, mup_same, mup_cell, mup_slot, ite_true, ite_false, true_and, and_true, eq_self, or_true, true_or, and_self, Int.reduceLT, Int.reduceLE, Int.reduceEq, Int.reduceNe, Int.reduceAdd, Int.reduceSub, Int.reduceMul, Int.reduceNeg, ne_eq, not_false_eq_true, not_true_eq_false, false_or, or_false, zor_inl, zor_inr, Bool.false_eq_true, false_and, and_false, zk1, zk2, zk3, zk4, zk5, zk6, zk7, zk8, zk9, zk10, zk11, zk12, zk13, zk14, zk15, zk16, zk17, zk18, zk19, zk20, zk21, zk22, zk23, zk24, zk25, zk26, zk27, zk28, zk29, zk30, zk31, zk32, zk33, zk34, zk35, zk36, zk37, zk38, zk39, zk40, zk41, zk42, zk43, zk44, zk45, zk46, zk47, zk48, zk49, zk50, zk51, zk52, zk53, zk54, zk55, zk56, zk57, zk58, zk59, zk60, zk61, zk62, zk63, zk64, zk65, zk66, zk67, zk68, zk69, zk70, zk71, zk72, zk73, zk74, zk75, zk76, zk77, zk78, zk79, zk80, zk81, zk82, zk83, zk84, zk85, zk86, zk87, zk88, zk89, zk90, zr2_0, zr2_1, zr2_2, zr2_3, zr2_4, zr2_6, zr2_7, zr2_10, zr2_11, zr2_12, zr1_0, zr1_1, zr14_0, zr14_1, zr14_2, zr14_3, zr14_4, zr14_6, zr14_7, zr14_10, zr14_11, zr14_12, zr13_0, zr25_0, zr25_1, zr25_2, zr25_3, zr25_4, zr25_6, zr25_7, zr25_10, zr25_11, zr25_12, zr13_1, zr1_2, zr37_0, zr1_3, zr39_0, zr39_1, zr39_2, zr39_5, zr39_7, zr39_8, zr1_4, zr46_1, zr46_2, zr46_3, zr46_4, zr46_0, zr1_5, zr51_2, zr51_10, zr51_0, zr51_1, zr54_1, zr54_2, zr54_3, zr1_6, zr58_1, zr58_2, zr58_3, zr58_0, zr1_7, zr62_2, zr62_3, zr62_0, zr62_1, zr1_8, zr1_9, zr1_10, zr1_15, zr68_2, zr68_3, zr68_4, zr68_5, zr68_7, zr68_8, zr68_9, zr68_12, zr68_13, zr68_14, zr68_22, zr68_23, zr68_24, zr68_26, zr68_35, zr68_36, zr68_37, zr68_38, zr68_39, zr68_40, zr68_41, zr68_42, e11, c, w0])
      refine ⟨σ', rfl, y2, y3, ?_⟩
      intro p p0 p1
      by_cases d : p < A 182 + 1 + (k : Int)
      · exact y4 p p0 d
      · rw [y5 p (by omega)]
        have z : ¬ zHit S p tall = true := by
          unfold zHit
          rw [decide_eq_true_eq]
          intro x
          have := x.2.1
          omega
        rw [if_neg z]
    · have p0 : 0 ≤ A 182 + 1 + (k : Int) := by omega
      have p1 : A 182 + 1 + (k : Int) < 64 := by omega
      have w : w32 (A 182 + 1 + (k : Int) + 1) = A 182 + 1 + ((k + 1 : Nat) : Int) := by rw [w32_in (by omega) (by omega)]; omega
      have ew := e_wouldEndIn (S := S) (p := A 182 + 1 + (k : Int)) (tall := tall) s'.1.q.1 eA (by rw [f51, e3]; exact e0.symm) r' p0 p1 ht
      by_cases d : zHit S (A 182 + 1 + (k : Int)) tall = true
      · (try simp (disch := first | assumption | omega) only [wpo_bind, wpo_some, wpo_gf, wpo_gk, wpo_ld, wpo_pf, wpo_pz, wpo_sd, wpo_sr, wpo_ln, wpo_idv, wpo_irm, wpo_lrm, wpo_ldv, wpo_cpy, mlet, mnar_int, mup_same, mup_cell, mup_slot, ite_true, ite_false, true_and, and_true, eq_self, or_true, true_or, and_self, Int.reduceLT, Int.reduceLE, Int.reduceEq, Int.reduceNe, Int.reduceAdd, Int.reduceSub, Int.reduceMul, Int.reduceNeg, ne_eq, not_false_eq_true, not_true_eq_false, false_or, or_false, zor_inl, zor_inr, Bool.false_eq_true, false_and, and_false, zk1, zk2, zk3, zk4, zk5, zk6, zk7, zk8, zk9, zk10, zk11, zk12, zk13, zk14, zk15, zk16, zk17, zk18, zk19, zk20, zk21, zk22, zk23, zk24, zk25, zk26, zk27, zk28, zk29, zk30, zk31, zk32, zk33, zk34, zk35, zk36, zk37, zk38, zk39, zk40, zk41, zk42, zk43, zk44, zk45, zk46, zk47, zk48, zk49, zk50, zk51, zk52, zk53, zk54, zk55, zk56, zk57, zk58, zk59, zk60, zk61, zk62, zk63, zk64, zk65, zk66, zk67, zk68, zk69, zk70, zk71, zk72, zk73, zk74, zk75, zk76, zk77, zk78, zk79, zk80, zk81, zk82, zk83, zk84, zk85, zk86, zk87, zk88, zk89, zk90, zr2_0, zr2_1, zr2_2, zr2_3, zr2_4, zr2_6, zr2_7, zr2_10, zr2_11, zr2_12, zr1_0, zr1_1, zr14_0, zr14_1, zr14_2, zr14_3, zr14_4, zr14_6, zr14_7, zr14_10, zr14_11, zr14_12, zr13_0, zr25_0, zr25_1, zr25_2, zr25_3, zr25_4, zr25_6, zr25_7, zr25_10, zr25_11, zr25_12, zr13_1, zr1_2, zr37_0, zr1_3, zr39_0, zr39_1, zr39_2, zr39_5, zr39_7, zr39_8, zr1_4, zr46_1, zr46_2, zr46_3, zr46_4, zr46_0, zr1_5, zr51_2, zr51_10, zr51_0, zr51_1, zr54_1, zr54_2, zr54_3, zr1_6, zr58_1, zr58_2, zr58_3, zr58_0, zr1_7, zr62_2, zr62_3, zr62_0, zr62_1, zr1_8, zr1_9, zr1_10, zr1_15, zr68_2, zr68_3, zr68_4, zr68_5, zr68_7, zr68_8, zr68_9, zr68_12, zr68_13, zr68_14, zr68_22, zr68_23, zr68_24, zr68_26, zr68_35, zr68_36, zr68_37, zr68_38, zr68_39, zr68_40, zr68_41, zr68_42, e11, c, ew, d, p0, p1, w])
        refine ⟨100 - (k + 1), by omega, k + 1, rfl, by omega, by omega, y2, ?_, ?_, ?_⟩
        · intro r hr; rw [mup_fun hr]; exact y3 r hr
        · intro p q0 q1
          rw [mup_if]
          by_cases dp : p = A 182 + 1 + (k : Int)
          · rw [if_pos dp, dp, if_pos d, y5 _ (Int.le_refl _)]
          · rw [if_neg dp]; exact y4 p q0 (by omega)
        · intro p q0
          rw [mup_slot (by omega)]; exact y5 p (by omega)
      · (try simp (disch := first | assumption | omega) only [wpo_bind, wpo_some, wpo_gf, wpo_gk, wpo_ld, wpo_pf, wpo_pz, wpo_sd, wpo_sr, wpo_ln, wpo_idv, wpo_irm, wpo_lrm, wpo_ldv, wpo_cpy, mlet, mnar_int, mup_same, mup_cell, mup_slot, ite_true, ite_false, true_and, and_true, eq_self, or_true, true_or, and_self, Int.reduceLT, Int.reduceLE, Int.reduceEq, Int.reduceNe, Int.reduceAdd, Int.reduceSub, Int.reduceMul, Int.reduceNeg, ne_eq, not_false_eq_true, not_true_eq_false, false_or, or_false, zor_inl, zor_inr, Bool.false_eq_true, false_and, and_false, zk1, zk2, zk3, zk4, zk5, zk6, zk7, zk8, zk9, zk10, zk11, zk12, zk13, zk14, zk15, zk16, zk17, zk18, zk19, zk20, zk21, zk22, zk23, zk24, zk25, zk26, zk27, zk28, zk29, zk30, zk31, zk32, zk33, zk34, zk35, zk36, zk37, zk38, zk39, zk40, zk41, zk42, zk43, zk44, zk45, zk46, zk47, zk48, zk49, zk50, zk51, zk52, zk53, zk54, zk55, zk56, zk57, zk58, zk59, zk60, zk61, zk62, zk63, zk64, zk65, zk66, zk67, zk68, zk69, zk70, zk71, zk72, zk73, zk74, zk75, zk76, zk77, zk78, zk79, zk80, zk81, zk82, zk83, zk84, zk85, zk86, zk87, zk88, zk89, zk90, zr2_0, zr2_1, zr2_2, zr2_3, zr2_4, zr2_6, zr2_7, zr2_10, zr2_11, zr2_12, zr1_0, zr1_1, zr14_0, zr14_1, zr14_2, zr14_3, zr14_4, zr14_6, zr14_7, zr14_10, zr14_11, zr14_12, zr13_0, zr25_0, zr25_1, zr25_2, zr25_3, zr25_4, zr25_6, zr25_7, zr25_10, zr25_11, zr25_12, zr13_1, zr1_2, zr37_0, zr1_3, zr39_0, zr39_1, zr39_2, zr39_5, zr39_7, zr39_8, zr1_4, zr46_1, zr46_2, zr46_3, zr46_4, zr46_0, zr1_5, zr51_2, zr51_10, zr51_0, zr51_1, zr54_1, zr54_2, zr54_3, zr1_6, zr58_1, zr58_2, zr58_3, zr58_0, zr1_7, zr62_2, zr62_3, zr62_0, zr62_1, zr1_8, zr1_9, zr1_10, zr1_15, zr68_2, zr68_3, zr68_4, zr68_5, zr68_7, zr68_8, zr68_9, zr68_12, zr68_13, zr68_14, zr68_22, zr68_23, zr68_24, zr68_26, zr68_35, zr68_36, zr68_37, zr68_38, zr68_39, zr68_40, zr68_41, zr68_42, e11, c, ew, d, p0, p1, w])
        refine ⟨100 - (k + 1), by omega, k + 1, rfl, by omega, by omega, y2, y3, ?_, ?_⟩
        · intro p q0 q1
          by_cases dp : p = A 182 + 1 + (k : Int)
          · rw [dp, if_neg d, y5 _ (Int.le_refl _)]
          · exact y4 p q0 (by omega)
        · intro p q0; exact y5 p (by omega)
  · exact ⟨0, rfl, Nat.zero_le _, by show A 182 + 1 = A 182 + 1 + ((0 : Nat) : Int); omega, rfl, fun _ _ => rfl, fun p a b => by omega, fun _ _ => rfl⟩
/-- the survey of one hour -/
def zAhG (D : Int → (Int → Int) → Int) (A : Int → Int) (hr tall bits p : Int) : Nat → Int → Int := fun j x => if zHit (zSn D A hr (A 181) (A 183) ((j : Int) - 100) 0 0 1) p tall = true then ior x bits else x
theorem t_addHours {D : Int → (Int → Int) → Int} {A : Int → Int} {hr tall bits : Int} {σ : mS} (h : zQT D A hr 1 σ) (ht : 1 ≤ tall ∧ tall ≤ 31) :
    wpo (M_Survey_addHours 62 tall bits σ) (fun q => zQT D A hr 1 q.2 ∧ zKc σ q.2 ∧ ∀ p, A 182 < p → p < 64 → q.2.1 63 p = zit (zAhG D A hr tall bits p) (σ.1 63 p) 201) := by
  have hB := h.q.1.1
  have we := h.q.1.2.1.2.2.2.2.1.2.2.1
  unfold M_Survey_addHours M_Survey_addHours_2
  refine miter_mN (fun n y => ∃ k : Nat, n = 201 - k ∧ k ≤ 201 ∧ y.1 = (k : Int) - 100 ∧ zQT D A hr 1 y.2 ∧ zKc σ y.2 ∧ ∀ p, A 182 < p → p < 64 → y.2.1 63 p = zit (zAhG D A hr tall bits p) (σ.1 63 p) k) ?_ 201 _ (by decide) ?_
  · intro n y ⟨k, hn, hk, y1, y2, y3, y4⟩
    obtain ⟨l3, σ'⟩ := y
    simp only at y1 y2 y3 y4
    subst y1
    have hB' := y2.q.1.1
    show wpo (B_Survey_addHours_2 62 tall bits ((k : Int) - 100) σ') _
    unfold B_Survey_addHours_2
    by_cases c : k < 201
    · have c' : ¬ 100 < (k : Int) - 100 := by omega
      (try simp (disch := first | assumption | omega) only [wpo_bind, wpo_some, wpo_gf, wpo_gk, wpo_ld, wpo_pf, wpo_pz, wpo_sd, wpo_sr, wpo_ln, wpo_idv, wpo_irm, wpo_lrm, wpo_ldv, wpo_cpy, mlet, mnar_int, mup_same, mup_cell, mup_slot, ite_true, ite_false, true_and, and_true, eq_self, or_true, true_or, and_self, Int.reduceLT, Int.reduceLE, Int.reduceEq, Int.reduceNe, Int.reduceAdd, Int.reduceSub, Int.reduceMul, Int.reduceNeg, ne_eq, not_false_eq_true, not_true_eq_false, false_or, or_false, zor_inl, zor_inr, Bool.false_eq_true, false_and, and_false, zk1, zk2, zk3, zk4, zk5, zk6, zk7, zk8, zk9, zk10, zk11, zk12, zk13, zk14, zk15, zk16, zk17, zk18, zk19, zk20, zk21, zk22, zk23, zk24, zk25, zk26, zk27, zk28, zk29, zk30, zk31, zk32, zk33, zk34, zk35, zk36, zk37, zk38, zk39, zk40, zk41, zk42, zk43, zk44, zk45, zk46, zk47, zk48, zk49, zk50, zk51, zk52, zk53, zk54, zk55, zk56, zk57, zk58, zk59, zk60, zk61, zk62, zk63, zk64, zk65, zk66, zk67, zk68, zk69, zk70, zk71, zk72, zk73, zk74, zk75, zk76, zk77, zk78, zk79, zk80, zk81, zk82, zk83, zk84, zk85, zk86, zk87, zk88, zk89, zk90, zr2_0, zr2_1, zr2_2, zr2_3, zr2_4, zr2_6, zr2_7, zr2_10, zr2_11, zr2_12, zr1_0, zr1_1, zr14_0, zr14_1, zr14_2, zr14_3, zr14_4, zr14_6, zr14_7, zr14_10, zr14_11, zr14_12, zr13_0, zr25_0, zr25_1, zr25_2, zr25_3, zr25_4, zr25_6, zr25_7, zr25_10, zr25_11, zr25_12, zr13_1, zr1_2, zr37_0, zr1_3, zr39_0, zr39_1, zr39_2, zr39_5, zr39_7, zr39_8, zr1_4, zr46_1, zr46_2, zr46_3, zr46_4, zr46_0, zr1_5, zr51_2, zr51_10, zr51_0, zr51_1, zr54_1, zr54_2, zr54_3, zr1_6, zr58_1, zr58_2, zr58_3, zr58_0, zr1_7, zr62_2, zr62_3, zr62_0, zr62_1, zr1_8, zr1_9, zr1_10, zr1_15, zr68_2, zr68_3, zr68_4, zr68_5, zr68_7, zr68_8, zr68_9, zr68_12, zr68_13, zr68_14, zr68_22, zr68_23, zr68_24, zr68_26, zr68_35, zr68_36, zr68_37, zr68_38, zr68_39, zr68_40, zr68_41, zr68_42, c'])
      refine wpo_mono (t_send y2 (a := (k : Int) - 100) (by omega)) ?_
      intro q ⟨q1, qk, qr, qq, e3⟩
      have hBq := qq.1.1
      have w : w32 (A 182 + 1) = A 182 + 1 := w32_in (by omega) (by omega)
      (try simp (disch := first | assumption | omega) only [wpo_bind, wpo_some, wpo_gf, wpo_gk, wpo_ld, wpo_pf, wpo_pz, wpo_sd, wpo_sr, wpo_ln, wpo_idv, wpo_irm, wpo_lrm, wpo_ldv, wpo_cpy, mlet, mnar_int, mup_same, mup_cell, mup_slot, ite_true, ite_false, true_and, and_true, eq_self, or_true, true_or, and_self, Int.reduceLT, Int.reduceLE, Int.reduceEq, Int.reduceNe, Int.reduceAdd, Int.reduceSub, Int.reduceMul, Int.reduceNeg, ne_eq, not_false_eq_true, not_true_eq_false, false_or, or_false, zor_inl, zor_inr, Bool.false_eq_true, false_and, and_false, zk1, zk2, zk3, zk4, zk5, zk6, zk7, zk8, zk9, zk10, zk11, zk12, zk13, zk14, zk15, zk16, zk17, zk18, zk19, zk20, zk21, zk22, zk23, zk24, zk25, zk26, zk27, zk28, zk29, zk30, zk31, zk32, zk33, zk34, zk35, zk36, zk37, zk38, zk39, zk40, zk41, zk42, zk43, zk44, zk45, zk46, zk47, zk48, zk49, zk50, zk51, zk52, zk53, zk54, zk55, zk56, zk57, zk58, zk59, zk60, zk61, zk62, zk63, zk64, zk65, zk66, zk67, zk68, zk69, zk70, zk71, zk72, zk73, zk74, zk75, zk76, zk77, zk78, zk79, zk80, zk81, zk82, zk83, zk84, zk85, zk86, zk87, zk88, zk89, zk90, zr2_0, zr2_1, zr2_2, zr2_3, zr2_4, zr2_6, zr2_7, zr2_10, zr2_11, zr2_12, zr1_0, zr1_1, zr14_0, zr14_1, zr14_2, zr14_3, zr14_4, zr14_6, zr14_7, zr14_10, zr14_11, zr14_12, zr13_0, zr25_0, zr25_1, zr25_2, zr25_3, zr25_4, zr25_6, zr25_7, zr25_10, zr25_11, zr25_12, zr13_1, zr1_2, zr37_0, zr1_3, zr39_0, zr39_1, zr39_2, zr39_5, zr39_7, zr39_8, zr1_4, zr46_1, zr46_2, zr46_3, zr46_4, zr46_0, zr1_5, zr51_2, zr51_10, zr51_0, zr51_1, zr54_1, zr54_2, zr54_3, zr1_6, zr58_1, zr58_2, zr58_3, zr58_0, zr1_7, zr62_2, zr62_3, zr62_0, zr62_1, zr1_8, zr1_9, zr1_10, zr1_15, zr68_2, zr68_3, zr68_4, zr68_5, zr68_7, zr68_8, zr68_9, zr68_12, zr68_13, zr68_14, zr68_22, zr68_23, zr68_24, zr68_26, zr68_35, zr68_36, zr68_37, zr68_38, zr68_39, zr68_40, zr68_41, zr68_42, e3, w])
      refine wpo_mono (t_addHours_15 q1 qr (by omega) ht (by omega)) ?_
      intro z ⟨σ2, z1, z2, z3, z4⟩
      subst z1
      have s2 := q1.survey z2 (fun r x _ => z3 r x)
      refine ⟨201 - (k + 1), by omega, k + 1, rfl, by omega, by show (k : Int) - 100 + 1 = ((k + 1 : Nat) : Int) - 100; omega, s2.1, (y3.trans qk.1).trans s2.2, ?_⟩
      intro p p0 p1
      rw [z4 p p0 p1, qk.2 63 (by decide) (by decide), y4 p p0 p1]
      rfl
    · have : k = 201 := by omega
      subst this
      show wpo (if 100 < (((201 : Nat) : Int) - 100) then _ else _) _
      rw [if_pos (by decide)]
      exact wpo_some.mpr ⟨y2, y3, y4⟩
  · exact ⟨0, rfl, Nat.zero_le _, rfl, h, zKc.rfl' hB, fun _ _ _ => rfl⟩
end
