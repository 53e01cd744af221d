noncomputable section
theorem f_wouldSee {A : Int → Int} {S : zSc} {σ : mS} {p tall : Int} (hB : zB σ) (hA : σ.1 70 = A) (hw : zWF A) (eA : zA S = A) (e1 : ze S = A 182) (hr : zRm S (-1) σ) (p0 : 0 ≤ p) (p1 : p < 64) (ht : 1 ≤ tall ∧ tall ≤ 31) : M_Mo_wouldSee 68 p tall σ = some (if zHit S p tall = true then 1 else 0, σ) := by
  have : wpo (M_Mo_wouldSee 68 p tall σ) (fun q => q = (if zHit S p tall = true then 1 else 0, σ)) := by
    have er := f_riseOf hB hA p0 p1
    have wf := hw.1 p p0 p1
    have e28 := hr.2.1
    have w3 : w32 (100 * (A p + tall)) = 100 * (A p + tall) := w32_in (by omega) (by omega)
    have w1 : w32 (100 * A p) = 100 * A p := w32_in (by omega) (by omega)
    have w2 : w32 (A p + tall) = A p + tall := w32_in (by omega) (by omega)
    unfold M_Mo_wouldSee
    by_cases d : A 182 ≤ p ∧ p ≤ zpl S
    · have ev : σ.1 82 p = zH S (p - A 182).toNat := by
        have := zRm_at hr (p := p) (by rw [e1]; exact d.1) d.2
        rw [e1] at this; exact this
      by_cases d1 : 100 * A p ≤ zH S (p - A 182).toNat ∧ zH S (p - A 182).toNat ≤ 3199
      · by_cases d3 : zH S (p - A 182).toNat < 100 * (A p + tall)
        · have z : zHit S p tall = true := by unfold zHit; rw [eA, e1]; exact decide_eq_true ⟨d.1, d.2, d1.1, by omega, d3⟩
          (try simp (disch := first | assumption | omega) only [wpo_bind, wpo_some, wpo_gf, wpo_gk, wpo_ld, wpo_pf, wpo_pz, wpo_sd, wpo_sr, wpo_ln, wpo_idv, wpo_irm, wpo_lrm, wpo_ldv, wpo_cpy, mlet, mnar_int, mup_same, mup_cell, mup_slot, ite_true, ite_false, true_and, and_true, eq_self, or_true, true_or, and_self, Int.reduceLT, Int.reduceLE, Int.reduceEq, Int.reduceNe, Int.reduceAdd, Int.reduceSub, Int.reduceMul, Int.reduceNeg, ne_eq, not_false_eq_true, not_true_eq_false, false_or, or_false, zor_inl, zor_inr, Bool.false_eq_true, false_and, and_false, zk1, zk2, zk3, zk4, zk5, zk6, zk7, zk8, zk9, zk10, zk11, zk12, zk13, zk14, zk15, zk16, zk17, zk18, zk19, zk20, zk21, zk22, zk23, zk24, zk25, zk26, zk27, zk28, zk29, zk30, zk31, zk32, zk33, zk34, zk35, zk36, zk37, zk38, zk39, zk40, zk41, zk42, zk43, zk44, zk45, zk46, zk47, zk48, zk49, zk50, zk51, zk52, zk53, zk54, zk55, zk56, zk57, zk58, zk59, zk60, zk61, zk62, zk63, zk64, zk65, zk66, zk67, zk68, zk69, zk70, zk71, zk72, zk73, zk74, zk75, zk76, zk77, zk78, zk79, zk80, zk81, zk82, zk83, zk84, zk85, zk86, zk87, zk88, zk89, zk90, zr2_0, zr2_1, zr2_2, zr2_3, zr2_4, zr2_6, zr2_7, zr2_10, zr2_11, zr2_12, zr1_0, zr1_1, zr14_0, zr14_1, zr14_2, zr14_3, zr14_4, zr14_6, zr14_7, zr14_10, zr14_11, zr14_12, zr13_0, zr25_0, zr25_1, zr25_2, zr25_3, zr25_4, zr25_6, zr25_7, zr25_10, zr25_11, zr25_12, zr13_1, zr1_2, zr37_0, zr1_3, zr39_0, zr39_1, zr39_2, zr39_5, zr39_7, zr39_8, zr1_4, zr46_1, zr46_2, zr46_3, zr46_4, zr46_0, zr1_5, zr51_2, zr51_10, zr51_0, zr51_1, zr54_1, zr54_2, zr54_3, zr1_6, zr58_1, zr58_2, zr58_3, zr58_0, zr1_7, zr62_2, zr62_3, zr62_0, zr62_1, zr1_8, zr1_9, zr1_10, zr1_15, zr68_2, zr68_3, zr68_4, zr68_5, zr68_7, zr68_8, zr68_9, zr68_12, zr68_13, zr68_14, zr68_22, zr68_23, zr68_24, zr68_26, zr68_35, zr68_36, zr68_37, zr68_38, zr68_39, zr68_40, zr68_41, zr68_42, hA, e28, e_lies, d, p0, p1, ev, er, w1, d1, w2, w3, d3, z])
        · have z : zHit S p tall = false := by unfold zHit; rw [eA, e1]; exact decide_eq_false (fun x => d3 x.2.2.2.2)
          (try simp (disch := first | assumption | omega) only [wpo_bind, wpo_some, wpo_gf, wpo_gk, wpo_ld, wpo_pf, wpo_pz, wpo_sd, wpo_sr, wpo_ln, wpo_idv, wpo_irm, wpo_lrm, wpo_ldv, wpo_cpy, mlet, mnar_int, mup_same, mup_cell, mup_slot, ite_true, ite_false, true_and, and_true, eq_self, or_true, true_or, and_self, Int.reduceLT, Int.reduceLE, Int.reduceEq, Int.reduceNe, Int.reduceAdd, Int.reduceSub, Int.reduceMul, Int.reduceNeg, ne_eq, not_false_eq_true, not_true_eq_false, false_or, or_false, zor_inl, zor_inr, Bool.false_eq_true, false_and, and_false, zk1, zk2, zk3, zk4, zk5, zk6, zk7, zk8, zk9, zk10, zk11, zk12, zk13, zk14, zk15, zk16, zk17, zk18, zk19, zk20, zk21, zk22, zk23, zk24, zk25, zk26, zk27, zk28, zk29, zk30, zk31, zk32, zk33, zk34, zk35, zk36, zk37, zk38, zk39, zk40, zk41, zk42, zk43, zk44, zk45, zk46, zk47, zk48, zk49, zk50, zk51, zk52, zk53, zk54, zk55, zk56, zk57, zk58, zk59, zk60, zk61, zk62, zk63, zk64, zk65, zk66, zk67, zk68, zk69, zk70, zk71, zk72, zk73, zk74, zk75, zk76, zk77, zk78, zk79, zk80, zk81, zk82, zk83, zk84, zk85, zk86, zk87, zk88, zk89, zk90, zr2_0, zr2_1, zr2_2, zr2_3, zr2_4, zr2_6, zr2_7, zr2_10, zr2_11, zr2_12, zr1_0, zr1_1, zr14_0, zr14_1, zr14_2, zr14_3, zr14_4, zr14_6, zr14_7, zr14_10, zr14_11, zr14_12, zr13_0, zr25_0, zr25_1, zr25_2, zr25_3, zr25_4, zr25_6, zr25_7, zr25_10, zr25_11, zr25_12, zr13_1, zr1_2, zr37_0, zr1_3, zr39_0, zr39_1, zr39_2, zr39_5, zr39_7, zr39_8, zr1_4, zr46_1, zr46_2, zr46_3, zr46_4, zr46_0, zr1_5, zr51_2, zr51_10, zr51_0, zr51_1, zr54_1, zr54_2, zr54_3, zr1_6, zr58_1, zr58_2, zr58_3, zr58_0, zr1_7, zr62_2, zr62_3, zr62_0, zr62_1, zr1_8, zr1_9, zr1_10, zr1_15, zr68_2, zr68_3, zr68_4, zr68_5, zr68_7, zr68_8, zr68_9, zr68_12, zr68_13, zr68_14, zr68_22, zr68_23, zr68_24, zr68_26, zr68_35, zr68_36, zr68_37, zr68_38, zr68_39, zr68_40, zr68_41, zr68_42, hA, e28, e_lies, d, p0, p1, ev, er, w1, d1, w2, w3, d3, z])
      · have z : zHit S p tall = false := by unfold zHit; rw [eA, e1]; exact decide_eq_false (fun x => d1 ⟨x.2.2.1, by have := x.2.2.2.1; omega⟩)
        (try simp (disch := first | assumption | omega) only [wpo_bind, wpo_some, wpo_gf, wpo_gk, wpo_ld, wpo_pf, wpo_pz, wpo_sd, wpo_sr, wpo_ln, wpo_idv, wpo_irm, wpo_lrm, wpo_ldv, wpo_cpy, mlet, mnar_int, mup_same, mup_cell, mup_slot, ite_true, ite_false, true_and, and_true, eq_self, or_true, true_or, and_self, Int.reduceLT, Int.reduceLE, Int.reduceEq, Int.reduceNe, Int.reduceAdd, Int.reduceSub, Int.reduceMul, Int.reduceNeg, ne_eq, not_false_eq_true, not_true_eq_false, false_or, or_false, zor_inl, zor_inr, Bool.false_eq_true, false_and, and_false, zk1, zk2, zk3, zk4, zk5, zk6, zk7, zk8, zk9, zk10, zk11, zk12, zk13, zk14, zk15, zk16, zk17, zk18, zk19, zk20, zk21, zk22, zk23, zk24, zk25, zk26, zk27, zk28, zk29, zk30, zk31, zk32, zk33, zk34, zk35, zk36, zk37, zk38, zk39, zk40, zk41, zk42, zk43, zk44, zk45, zk46, zk47, zk48, zk49, zk50, zk51, zk52, zk53, zk54, zk55, zk56, zk57, zk58, zk59, zk60, zk61, zk62, zk63, zk64, zk65, zk66, zk67, zk68, zk69, zk70, zk71, zk72, zk73, zk74, zk75, zk76, zk77, zk78, zk79, zk80, zk81, zk82, zk83, zk84, zk85, zk86, zk87, zk88, zk89, zk90, zr2_0, zr2_1, zr2_2, zr2_3, zr2_4, zr2_6, zr2_7, zr2_10, zr2_11, zr2_12, zr1_0, zr1_1, zr14_0, zr14_1, zr14_2, zr14_3, zr14_4, zr14_6, zr14_7, zr14_10, zr14_11, zr14_12, zr13_0, zr25_0, zr25_1, zr25_2, zr25_3, zr25_4, zr25_6, zr25_7, zr25_10, zr25_11, zr25_12, zr13_1, zr1_2, zr37_0, zr1_3, zr39_0, zr39_1, zr39_2, zr39_5, zr39_7, zr39_8, zr1_4, zr46_1, zr46_2, zr46_3, zr46_4, zr46_0, zr1_5, zr51_2, zr51_10, zr51_0, zr51_1, zr54_1, zr54_2, zr54_3, zr1_6, zr58_1, zr58_2, zr58_3, zr58_0, zr1_7, zr62_2, zr62_3, zr62_0, zr62_1, zr1_8, zr1_9, zr1_10, zr1_15, zr68_2, zr68_3, zr68_4, zr68_5, zr68_7, zr68_8, zr68_9, zr68_12, zr68_13, zr68_14, zr68_22, zr68_23, zr68_24, zr68_26, zr68_35, zr68_36, zr68_37, zr68_38, zr68_39, zr68_40, zr68_41, zr68_42, hA, e28, e_lies, d, p0, p1, ev, er, w1, d1, z])
    · have z : zHit S p tall = false := by unfold zHit; rw [eA, e1]; exact decide_eq_false (fun x => d ⟨x.1, x.2.1⟩)
      (try simp (disch := first | assumption | omega) only [wpo_bind, wpo_some, wpo_gf, wpo_gk, wpo_ld, wpo_pf, wpo_pz, wpo_sd, wpo_sr, wpo_ln, wpo_idv, wpo_irm, wpo_lrm, wpo_ldv, wpo_cpy, mlet, mnar_int, mup_same, mup_cell, mup_slot, ite_true, ite_false, true_and, and_true, eq_self, or_true, true_or, and_self, Int.reduceLT, Int.reduceLE, Int.reduceEq, Int.reduceNe, Int.reduceAdd, Int.reduceSub, Int.reduceMul, Int.reduceNeg, ne_eq, not_false_eq_true, not_true_eq_false, false_or, or_false, zor_inl, zor_inr, Bool.false_eq_true, false_and, and_false, zk1, zk2, zk3, zk4, zk5, zk6, zk7, zk8, zk9, zk10, zk11, zk12, zk13, zk14, zk15, zk16, zk17, zk18, zk19, zk20, zk21, zk22, zk23, zk24, zk25, zk26, zk27, zk28, zk29, zk30, zk31, zk32, zk33, zk34, zk35, zk36, zk37, zk38, zk39, zk40, zk41, zk42, zk43, zk44, zk45, zk46, zk47, zk48, zk49, zk50, zk51, zk52, zk53, zk54, zk55, zk56, zk57, zk58, zk59, zk60, zk61, zk62, zk63, zk64, zk65, zk66, zk67, zk68, zk69, zk70, zk71, zk72, zk73, zk74, zk75, zk76, zk77, zk78, zk79, zk80, zk81, zk82, zk83, zk84, zk85, zk86, zk87, zk88, zk89, zk90, zr2_0, zr2_1, zr2_2, zr2_3, zr2_4, zr2_6, zr2_7, zr2_10, zr2_11, zr2_12, zr1_0, zr1_1, zr14_0, zr14_1, zr14_2, zr14_3, zr14_4, zr14_6, zr14_7, zr14_10, zr14_11, zr14_12, zr13_0, zr25_0, zr25_1, zr25_2, zr25_3, zr25_4, zr25_6, zr25_7, zr25_10, zr25_11, zr25_12, zr13_1, zr1_2, zr37_0, zr1_3, zr39_0, zr39_1, zr39_2, zr39_5, zr39_7, zr39_8, zr1_4, zr46_1, zr46_2, zr46_3, zr46_4, zr46_0, zr1_5, zr51_2, zr51_10, zr51_0, zr51_1, zr54_1, zr54_2, zr54_3, zr1_6, zr58_1, zr58_2, zr58_3, zr58_0, zr1_7, zr62_2, zr62_3, zr62_0, zr62_1, zr1_8, zr1_9, zr1_10, zr1_15, zr68_2, zr68_3, zr68_4, zr68_5, zr68_7, zr68_8, zr68_9, zr68_12, zr68_13, zr68_14, zr68_22, zr68_23, zr68_24, zr68_26, zr68_35, zr68_36, zr68_37, zr68_38, zr68_39, zr68_40, zr68_41, zr68_42, hA, e28, e_lies, d, z])
  obtain ⟨y, e, rfl⟩ := this
  exact e
/-- cells of the reference's survey alone are written -/
theorem zMQ.survey {D : Int → (Int → Int) → Int} {A : Int → Int} {σ σ' : mS} (h : zMQ D A σ) (e2 : σ'.2 = σ.2) (hf : ∀ r, r ≠ 86 → r ≠ 87 → r ≠ 88 → σ'.1 r = σ.1 r) : zMQ D A σ' ∧ zKm σ σ' := by
  obtain ⟨hB, hW, hb', hA, hM, hv, hc⟩ := h
  have hB' : zB σ' := zB_core hB (fun r _ => by rw [e2]) (fun r hr => hf r (fun e => by rw [e] at hr; exact absurd hr (by decide)) (fun e => by rw [e] at hr; exact absurd hr (by decide)) (fun e => by rw [e] at hr; exact absurd hr (by decide)))
  have f68 := hf 68 (by decide) (by decide) (by decide)
  exact ⟨⟨hB', hW, hb', by rw [hf 70 (by decide) (by decide) (by decide)]; exact hA, hM, by rw [f68]; exact hv, by rw [f68, hf 80 (by decide) (by decide) (by decide), hf 81 (by decide) (by decide) (by decide)]; exact hc⟩, e2, hB', fun r x => hf r (by omega) (by omega) (by omega), fun i _ => by rw [f68]⟩
theorem m_mark_55 {D : Int → (Int → Int) → Int} {A : Int → Int} {hr tall a l2 l3 l4 : Int} {σ : mS} (h : zMQ D A σ) (hr' : zRm (zSn D A hr (A 181) (A 183) a 0 0 1) (-1) σ) (ha : -500 ≤ a ∧ a ≤ 500) (ht : 1 ≤ tall ∧ tall ≤ 31) (hl : -100 ≤ l4 ∧ l4 ≤ 100) :
    wpo (M_Mo_mark_55 68 tall l2 l3 l4 (A 182 + 1) σ) (fun z => ∃ σ' : mS, z = .inl (l4 + 1, σ') ∧ σ'.2 = σ.2 ∧ (∀ r, r ≠ 86 → σ'.1 r = σ.1 r) ∧ ∀ p, A 182 < p → p < 64 → σ'.1 86 p = if zHit (zSn D A hr (A 181) (A 183) a 0 0 1) p tall = true then ior (σ.1 86 p) (ishl 1 l3) else σ.1 86 p) := by
  have hB := h.1
  have tm := h.2.1.2.2.2.2.1
  have we := tm.2.2.1
  have hS : zSok (zSn D A hr (A 181) (A 183) a 0 0 1) := h.sok tm.2.1 tm.2.2.2 ha (by decide) (by decide)
  have kb := zK_bd hS
  have e0 : ze (zSn D A hr (A 181) (A 183) a 0 0 1) = A 182 := rfl
  rw [e0] at kb
  generalize eS : zSn D A hr (A 181) (A 183) a 0 0 1 = S at *
  have eA : zA S = A := by rw [← eS]; rfl
  have pl : zpl S = A 182 + (zK S : Int) := by rw [← eS]; rfl
  have w0 : w32 (l4 + 1) = l4 + 1 := w32_in (by omega) (by omega)
  unfold M_Mo_mark_55
  refine miter_mN (fun n y => ∃ k : Nat, n = 100 - k ∧ k ≤ zK S ∧ y.1 = A 182 + 1 + (k : Int) ∧ y.2.2 = σ.2 ∧ (∀ r, r ≠ 86 → y.2.1 r = σ.1 r) ∧ (∀ p, A 182 < p → p < A 182 + 1 + (k : Int) → y.2.1 86 p = if zHit S p tall = true then ior (σ.1 86 p) (ishl 1 l3) else σ.1 86 p) ∧ (∀ p, A 182 + 1 + (k : Int) ≤ p → y.2.1 86 p = σ.1 86 p)) ?_ 100 _ (by decide) ?_
  · intro n y ⟨k, hn, hk, y1, y2, y3, y4, y5⟩
    obtain ⟨l5, σ'⟩ := y
    simp only at y1 y2 y3 y4 y5
    subst y1
    have s' := h.survey y2 (fun r x _ _ => y3 r x)
    have hB' := s'.1.1
    have hA' := s'.1.2.2.2.1
    have f68 := y3 68 (by decide)
    have r' : zRm S (-1) σ' := by unfold zRm; rw [f68, y3 82 (by decide)]; exact hr'
    have e28 := r'.2.1
    rw [pl] at e28
    show wpo (B_Mo_mark_55 68 tall l2 l3 l4 (A 182 + 1 + (k : Int)) σ') _
    unfold B_Mo_mark_55
    by_cases c : A 182 + (zK S : Int) < A 182 + 1 + (k : Int)
    · (try simp (disch := first | assumption | omega) only [wpo_bind, wpo_some, wpo_gf, wpo_gk, wpo_ld, wpo_pf, wpo_pz, wpo_sd, wpo_sr, wpo_ln, wpo_idv, wpo_irm, wpo_lrm, wpo_ldv, wpo_cpy, mlet, mnar_int, mup_same, mup_cell, mup_slot, ite_true, ite_false, true_and, and_true, eq_self, or_true, true_or, and_self, Int.reduceLT, Int.reduceLE, Int.reduceEq, Int.reduceNe, Int.reduceAdd, Int.reduceSub, Int.reduceMul, Int.reduceNeg, ne_eq, not_false_eq_true, not_true_eq_false, false_or, or_false, zor_inl, zor_inr, Bool.false_eq_true, false_and, and_false, zk1, zk2, zk3, zk4, zk5, zk6, zk7, zk8, zk9, zk10, zk11, zk12, zk13, zk14, zk15, zk16, zk17, zk18, zk19, zk20, zk21, zk22, zk23, zk24, zk25, zk26, zk27, zk28, zk29, zk30, zk31, zk32, zk33, zk34, zk35, zk36, zk37, zk38, zk39, zk40, zk41, zk42, zk43, zk44, zk45, zk46, zk47, zk48, zk49, zk50, zk51, zk52, zk53, zk54, zk55, zk56, zk57, zk58, zk59, zk60, zk61, zk62, zk63, zk64, zk65, zk66, zk67, zk68, zk69, zk70, zk71, zk72, zk73, zk74, zk75, zk76, zk77, zk78, zk79, zk80, zk81, zk82, zk83, zk84, zk85, zk86, zk87, zk88, zk89, zk90, zr2_0, zr2_1, zr2_2, zr2_3, zr2_4, zr2_6, zr2_7, zr2_10, zr2_11, zr2_12, zr1_0, zr1_1, zr14_0, zr14_1, zr14_2, zr14_3, zr14_4, zr14_6, zr14_7, zr14_10, zr14_11, zr14_12, zr13_0, zr25_0, zr25_1, zr25_2, zr25_3, zr25_4, zr25_6, zr25_7, zr25_10, zr25_11, zr25_12, zr13_1, zr1_2, zr37_0, zr1_3, zr39_0, zr39_1, zr39_2, zr39_5, zr39_7, zr39_8, zr1_4, zr46_1, zr46_2, zr46_3, zr46_4, zr46_0, zr1_5, zr51_2, zr51_10, zr51_0, zr51_1, zr54_1, zr54_2, zr54_3, zr1_6, zr58_1, zr58_2, zr58_3, zr58_0, zr1_7, zr62_2, zr62_3, zr62_0, zr62_1, zr1_8, zr1_9, zr1_10, zr1_15, zr68_2, zr68_3, zr68_4, zr68_5, zr68_7, zr68_8, zr68_9, zr68_12, zr68_13, zr68_14, zr68_22, zr68_23, zr68_24, zr68_26, zr68_35, zr68_36, zr68_37, zr68_38, zr68_39, zr68_40, zr68_41, zr68_42, e28, c, w0])
      refine ⟨σ', rfl, y2, y3, ?_⟩
      intro p p0 p1
      by_cases d : p < A 182 + 1 + (k : Int)
      · exact y4 p p0 d
      · rw [y5 p (by omega)]
        have z : ¬ zHit S p tall = true := by
          unfold zHit
          rw [decide_eq_true_eq]
          intro x
          have := x.2.1
          omega
        rw [if_neg z]
    · have p0 : 0 ≤ A 182 + 1 + (k : Int) := by omega
      have p1 : A 182 + 1 + (k : Int) < 64 := by omega
      have w : w32 (A 182 + 1 + (k : Int) + 1) = A 182 + 1 + ((k + 1 : Nat) : Int) := by rw [w32_in (by omega) (by omega)]; omega
      have ew := f_wouldSee (S := S) (p := A 182 + 1 + (k : Int)) (tall := tall) hB' hA' h.2.1 eA e0 r' p0 p1 ht
      by_cases d : zHit S (A 182 + 1 + (k : Int)) tall = true
      · (try simp (disch := first | assumption | omega) only [wpo_bind, wpo_some, wpo_gf, wpo_gk, wpo_ld, wpo_pf, wpo_pz, wpo_sd, wpo_sr, wpo_ln, wpo_idv, wpo_irm, wpo_lrm, wpo_ldv, wpo_cpy, mlet, mnar_int, mup_same, mup_cell, mup_slot, ite_true, ite_false, true_and, and_true, eq_self, or_true, true_or, and_self, Int.reduceLT, Int.reduceLE, Int.reduceEq, Int.reduceNe, Int.reduceAdd, Int.reduceSub, Int.reduceMul, Int.reduceNeg, ne_eq, not_false_eq_true, not_true_eq_false, false_or, or_false, zor_inl, zor_inr, Bool.false_eq_true, false_and, and_false, zk1, zk2, zk3, zk4, zk5, zk6, zk7, zk8, zk9, zk10, zk11, zk12, zk13, zk14, zk15, zk16, zk17, zk18, zk19, zk20, zk21, zk22, zk23, zk24, zk25, zk26, zk27, zk28, zk29, zk30, zk31, zk32, zk33, zk34, zk35, zk36, zk37, zk38, zk39, zk40, zk41, zk42, zk43, zk44, zk45, zk46, zk47, zk48, zk49, zk50, zk51, zk52, zk53, zk54, zk55, zk56, zk57, zk58, zk59, zk60, zk61, zk62, zk63, zk64, zk65, zk66, zk67, zk68, zk69, zk70, zk71, zk72, zk73, zk74, zk75, zk76, zk77, zk78, zk79, zk80, zk81, zk82, zk83, zk84, zk85, zk86, zk87, zk88, zk89, zk90, zr2_0, zr2_1, zr2_2, zr2_3, zr2_4, zr2_6, zr2_7, zr2_10, zr2_11, zr2_12, zr1_0, zr1_1, zr14_0, zr14_1, zr14_2, zr14_3, zr14_4, zr14_6, zr14_7, zr14_10, zr14_11, zr14_12, zr13_0, zr25_0, zr25_1, zr25_2, zr25_3, zr25_4, zr25_6, zr25_7, zr25_10, zr25_11, zr25_12, zr13_1, zr1_2, zr37_0, zr1_3, zr39_0, zr39_1, zr39_2, zr39_5, zr39_7, zr39_8, zr1_4, zr46_1, zr46_2, zr46_3, zr46_4, zr46_0, zr1_5, zr51_2, zr51_10, zr51_0, zr51_1, zr54_1, zr54_2, zr54_3, zr1_6, zr58_1, zr58_2, zr58_3, zr58_0, zr1_7, zr62_2, zr62_3, zr62_0, zr62_1, zr1_8, zr1_9, zr1_10, zr1_15, zr68_2, zr68_3, zr68_4, zr68_5, zr68_7, zr68_8, zr68_9, zr68_12, zr68_13, zr68_14, zr68_22, zr68_23, zr68_24, zr68_26, zr68_35, zr68_36, zr68_37, zr68_38, zr68_39, zr68_40, zr68_41, zr68_42, e28, c, ew, d, p0, p1, w])
        refine ⟨100 - (k + 1), by omega, k + 1, rfl, by omega, by omega, y2, ?_, ?_, ?_⟩
        · intro r hr; rw [mup_fun hr]; exact y3 r hr
        · intro p q0 q1
          rw [mup_if]
          by_cases dp : p = A 182 + 1 + (k : Int)
          · rw [if_pos dp, dp, if_pos d, y5 _ (Int.le_refl _)]
          · rw [if_neg dp]; exact y4 p q0 (by omega)
        · intro p q0
          rw [mup_slot (by omega)]; exact y5 p (by omega)
      · (try simp (disch := first | assumption | omega) only [wpo_bind, wpo_some, wpo_gf, wpo_gk, wpo_ld, wpo_pf, wpo_pz, wpo_sd, wpo_sr, wpo_ln, wpo_idv, wpo_irm, wpo_lrm, wpo_ldv, wpo_cpy, mlet, mnar_int, mup_same, mup_cell, mup_slot, ite_true, ite_false, true_and, and_true, eq_self, or_true, true_or, and_self, Int.reduceLT, Int.reduceLE, Int.reduceEq, Int.reduceNe, Int.reduceAdd, Int.reduceSub, Int.reduceMul, Int.reduceNeg, ne_eq, not_false_eq_true, not_true_eq_false, false_or, or_false, zor_inl, zor_inr, Bool.false_eq_true, false_and, and_false, zk1, zk2, zk3, zk4, zk5, zk6, zk7, zk8, zk9, zk10, zk11, zk12, zk13, zk14, zk15, zk16, zk17, zk18, zk19, zk20, zk21, zk22, zk23, zk24, zk25, zk26, zk27, zk28, zk29, zk30, zk31, zk32, zk33, zk34, zk35, zk36, zk37, zk38, zk39, zk40, zk41, zk42, zk43, zk44, zk45, zk46, zk47, zk48, zk49, zk50, zk51, zk52, zk53, zk54, zk55, zk56, zk57, zk58, zk59, zk60, zk61, zk62, zk63, zk64, zk65, zk66, zk67, zk68, zk69, zk70, zk71, zk72, zk73, zk74, zk75, zk76, zk77, zk78, zk79, zk80, zk81, zk82, zk83, zk84, zk85, zk86, zk87, zk88, zk89, zk90, zr2_0, zr2_1, zr2_2, zr2_3, zr2_4, zr2_6, zr2_7, zr2_10, zr2_11, zr2_12, zr1_0, zr1_1, zr14_0, zr14_1, zr14_2, zr14_3, zr14_4, zr14_6, zr14_7, zr14_10, zr14_11, zr14_12, zr13_0, zr25_0, zr25_1, zr25_2, zr25_3, zr25_4, zr25_6, zr25_7, zr25_10, zr25_11, zr25_12, zr13_1, zr1_2, zr37_0, zr1_3, zr39_0, zr39_1, zr39_2, zr39_5, zr39_7, zr39_8, zr1_4, zr46_1, zr46_2, zr46_3, zr46_4, zr46_0, zr1_5, zr51_2, zr51_10, zr51_0, zr51_1, zr54_1, zr54_2, zr54_3, zr1_6, zr58_1, zr58_2, zr58_3, zr58_0, zr1_7, zr62_2, zr62_3, zr62_0, zr62_1, zr1_8, zr1_9, zr1_10, zr1_15, zr68_2, zr68_3, zr68_4, zr68_5, zr68_7, zr68_8, zr68_9, zr68_12, zr68_13, zr68_14, zr68_22, zr68_23, zr68_24, zr68_26, zr68_35, zr68_36, zr68_37, zr68_38, zr68_39, zr68_40, zr68_41, zr68_42, e28, c, ew, d, p0, p1, w])
        refine ⟨100 - (k + 1), by omega, k + 1, rfl, by omega, by omega, y2, y3, ?_, ?_⟩
        · intro p q0 q1
          by_cases dp : p = A 182 + 1 + (k : Int)
          · rw [dp, if_neg d, y5 _ (Int.le_refl _)]
          · exact y4 p q0 (by omega)
        · intro p q0; exact y5 p (by omega)
  · exact ⟨0, rfl, Nat.zero_le _, by show A 182 + 1 = A 182 + 1 + ((0 : Nat) : Int); omega, rfl, fun _ _ => rfl, fun p a b => by omega, fun _ _ => rfl⟩
theorem m_mark_31 {D : Int → (Int → Int) → Int} {A : Int → Int} {hr tall l2 : Int} {σ : mS} (h : zMQ D A σ) (h0 : 0 ≤ hr) (h1 : hr < 24) (ht : 1 ≤ tall ∧ tall ≤ 31) :
    wpo (M_Mo_mark_31 68 tall l2 hr (-100) σ) (fun z => ∃ σ' : mS, z = .inl (hr + 1, σ') ∧ zMQ D A σ' ∧ zKm σ σ' ∧ ∀ p, A 182 < p → p < 64 → σ'.1 86 p = zit (zAhG D A hr tall (ishl 1 hr) p) (σ.1 86 p) 201) := by
  have hB := h.1
  have tm := h.2.1.2.2.2.2.1
  have we := tm.2.2.1
  have w0 : w32 (hr + 1) = hr + 1 := w32_in (by omega) (by omega)
  unfold M_Mo_mark_31
  refine miter_mN (fun n y => ∃ k : Nat, n = 201 - k ∧ k ≤ 201 ∧ y.1 = (k : Int) - 100 ∧ zMQ D A y.2 ∧ zKm σ y.2 ∧ ∀ p, A 182 < p → p < 64 → y.2.1 86 p = zit (zAhG D A hr tall (ishl 1 hr) p) (σ.1 86 p) k) ?_ 201 _ (by decide) ?_
  · intro n y ⟨k, hn, hk, y1, y2, y3, y4⟩
    obtain ⟨l4, σ'⟩ := y
    simp only at y1 y2 y3 y4
    subst y1
    have hB' := y2.1
    have hA' := y2.2.2.2.1
    show wpo (B_Mo_mark_31 68 tall l2 hr ((k : Int) - 100) σ') _
    unfold B_Mo_mark_31
    by_cases c : k < 201
    · have c' : ¬ 100 < (k : Int) - 100 := by omega
      (try simp (disch := first | assumption | omega) only [wpo_bind, wpo_some, wpo_gf, wpo_gk, wpo_ld, wpo_pf, wpo_pz, wpo_sd, wpo_sr, wpo_ln, wpo_idv, wpo_irm, wpo_lrm, wpo_ldv, wpo_cpy, mlet, mnar_int, mup_same, mup_cell, mup_slot, ite_true, ite_false, true_and, and_true, eq_self, or_true, true_or, and_self, Int.reduceLT, Int.reduceLE, Int.reduceEq, Int.reduceNe, Int.reduceAdd, Int.reduceSub, Int.reduceMul, Int.reduceNeg, ne_eq, not_false_eq_true, not_true_eq_false, false_or, or_false, zor_inl, zor_inr, Bool.false_eq_true, false_and, and_false, zk1, zk2, zk3, zk4, zk5, zk6, zk7, zk8, zk9, zk10, zk11, zk12, zk13, zk14, zk15, zk16, zk17, zk18, zk19, zk20, zk21, zk22, zk23, zk24, zk25, zk26, zk27, zk28, zk29, zk30, zk31, zk32, zk33, zk34, zk35, zk36, zk37, zk38, zk39, zk40, zk41, zk42, zk43, zk44, zk45, zk46, zk47, zk48, zk49, zk50, zk51, zk52, zk53, zk54, zk55, zk56, zk57, zk58, zk59, zk60, zk61, zk62, zk63, zk64, zk65, zk66, zk67, zk68, zk69, zk70, zk71, zk72, zk73, zk74, zk75, zk76, zk77, zk78, zk79, zk80, zk81, zk82, zk83, zk84, zk85, zk86, zk87, zk88, zk89, zk90, zr2_0, zr2_1, zr2_2, zr2_3, zr2_4, zr2_6, zr2_7, zr2_10, zr2_11, zr2_12, zr1_0, zr1_1, zr14_0, zr14_1, zr14_2, zr14_3, zr14_4, zr14_6, zr14_7, zr14_10, zr14_11, zr14_12, zr13_0, zr25_0, zr25_1, zr25_2, zr25_3, zr25_4, zr25_6, zr25_7, zr25_10, zr25_11, zr25_12, zr13_1, zr1_2, zr37_0, zr1_3, zr39_0, zr39_1, zr39_2, zr39_5, zr39_7, zr39_8, zr1_4, zr46_1, zr46_2, zr46_3, zr46_4, zr46_0, zr1_5, zr51_2, zr51_10, zr51_0, zr51_1, zr54_1, zr54_2, zr54_3, zr1_6, zr58_1, zr58_2, zr58_3, zr58_0, zr1_7, zr62_2, zr62_3, zr62_0, zr62_1, zr1_8, zr1_9, zr1_10, zr1_15, zr68_2, zr68_3, zr68_4, zr68_5, zr68_7, zr68_8, zr68_9, zr68_12, zr68_13, zr68_14, zr68_22, zr68_23, zr68_24, zr68_26, zr68_35, zr68_36, zr68_37, zr68_38, zr68_39, zr68_40, zr68_41, zr68_42, c', hA'])
      refine wpo_mono (m_goPast y2 h0 h1 tm.2.1 tm.2.2.2 (a := (k : Int) - 100) (by omega)) ?_
      intro q ⟨q1, qk, qr⟩
      have hBq := q1.1
      have hAq := q1.2.2.2.1
      have w : w32 (A 182 + 1) = A 182 + 1 := w32_in (by omega) (by omega)
      (try simp (disch := first | assumption | omega) only [wpo_bind, wpo_some, wpo_gf, wpo_gk, wpo_ld, wpo_pf, wpo_pz, wpo_sd, wpo_sr, wpo_ln, wpo_idv, wpo_irm, wpo_lrm, wpo_ldv, wpo_cpy, mlet, mnar_int, mup_same, mup_cell, mup_slot, ite_true, ite_false, true_and, and_true, eq_self, or_true, true_or, and_self, Int.reduceLT, Int.reduceLE, Int.reduceEq, Int.reduceNe, Int.reduceAdd, Int.reduceSub, Int.reduceMul, Int.reduceNeg, ne_eq, not_false_eq_true, not_true_eq_false, false_or, or_false, zor_inl, zor_inr, Bool.false_eq_true, false_and, and_false, zk1, zk2, zk3, zk4, zk5, zk6, zk7, zk8, zk9, zk10, zk11, zk12, zk13, zk14, zk15, zk16, zk17, zk18, zk19, zk20, zk21, zk22, zk23, zk24, zk25, zk26, zk27, zk28, zk29, zk30, zk31, zk32, zk33, zk34, zk35, zk36, zk37, zk38, zk39, zk40, zk41, zk42, zk43, zk44, zk45, zk46, zk47, zk48, zk49, zk50, zk51, zk52, zk53, zk54, zk55, zk56, zk57, zk58, zk59, zk60, zk61, zk62, zk63, zk64, zk65, zk66, zk67, zk68, zk69, zk70, zk71, zk72, zk73, zk74, zk75, zk76, zk77, zk78, zk79, zk80, zk81, zk82, zk83, zk84, zk85, zk86, zk87, zk88, zk89, zk90, zr2_0, zr2_1, zr2_2, zr2_3, zr2_4, zr2_6, zr2_7, zr2_10, zr2_11, zr2_12, zr1_0, zr1_1, zr14_0, zr14_1, zr14_2, zr14_3, zr14_4, zr14_6, zr14_7, zr14_10, zr14_11, zr14_12, zr13_0, zr25_0, zr25_1, zr25_2, zr25_3, zr25_4, zr25_6, zr25_7, zr25_10, zr25_11, zr25_12, zr13_1, zr1_2, zr37_0, zr1_3, zr39_0, zr39_1, zr39_2, zr39_5, zr39_7, zr39_8, zr1_4, zr46_1, zr46_2, zr46_3, zr46_4, zr46_0, zr1_5, zr51_2, zr51_10, zr51_0, zr51_1, zr54_1, zr54_2, zr54_3, zr1_6, zr58_1, zr58_2, zr58_3, zr58_0, zr1_7, zr62_2, zr62_3, zr62_0, zr62_1, zr1_8, zr1_9, zr1_10, zr1_15, zr68_2, zr68_3, zr68_4, zr68_5, zr68_7, zr68_8, zr68_9, zr68_12, zr68_13, zr68_14, zr68_22, zr68_23, zr68_24, zr68_26, zr68_35, zr68_36, zr68_37, zr68_38, zr68_39, zr68_40, zr68_41, zr68_42, hAq, w])
      refine wpo_mono (m_mark_55 q1 qr (by omega) ht (by omega)) ?_
      intro z ⟨σ2, z1, z2, z3, z4⟩
      subst z1
      have s2 := q1.survey z2 (fun r x _ _ => z3 r x)
      refine ⟨201 - (k + 1), by omega, k + 1, rfl, by omega, by show (k : Int) - 100 + 1 = ((k + 1 : Nat) : Int) - 100; omega, s2.1, (y3.trans qk.1).trans s2.2, ?_⟩
      intro p p0 p1
      rw [z4 p p0 p1, qk.2 86 (by decide) (by decide) (by decide) (by decide) (by decide), y4 p p0 p1]
      rfl
    · have : k = 201 := by omega
      subst this
      show wpo (if 100 < (((201 : Nat) : Int) - 100) then _ else _) _
      rw [if_pos (by decide), w0]
      exact wpo_some.mpr ⟨σ', rfl, y2, y3, y4⟩
  · exact ⟨0, rfl, Nat.zero_le _, rfl, h, zKm.rfl' hB, fun _ _ _ => rfl⟩
end
