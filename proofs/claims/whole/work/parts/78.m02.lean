noncomputable section
/-- what warming writes -/
def zFw (hr : Int) (σ σ' : mS) : Prop := σ'.2 = σ.2 ∧ zB σ' ∧ (∀ r, r ≠ 68 → r ≠ 79 → r ≠ 80 → σ'.1 r = σ.1 r) ∧ (∀ j, j ≠ 19 → j ≠ 20 → j ≠ 21 → σ'.1 68 j = σ.1 68 j) ∧ ∀ m, ¬ (2048 * hr ≤ m ∧ m < 2048 * hr + 2048) → σ'.1 80 m = σ.1 80 m
def zfil (D : Int → (Int → Int) → Int) (A : Int → Int) (hr n : Int) (σ : mS) : Prop := ∀ m, 0 ≤ m → m < n → σ.1 80 (2048 * hr + m) = zWd D A hr (m / 32) (m % 32)
set_option maxHeartbeats 4000000 in
theorem m_warms_34 {D : Int → (Int → Int) → Int} {A : Int → Int} {σ : mS} {hr : Int} (hB : zB σ) (hA : σ.1 70 = A) (hM : zML D A) (h0 : 0 ≤ hr) (h1 : hr < 24) : wpo (M_Mo_warms_34 68 hr 0 σ) (fun q => zFw hr σ q.2 ∧ zfil D A hr 2048 q.2) := by
  unfold M_Mo_warms_34
  refine miter_mN (fun n y => (n : Int) = 64 - y.1 ∧ 0 ≤ y.1 ∧ y.1 ≤ 64 ∧ zFw hr σ y.2 ∧ zfil D A hr (y.1 * 32) y.2) ?_ 64 _ (by decide) ?_
  · intro n y ⟨hn, y0, y1, y2, y3⟩
    obtain ⟨p, σ'⟩ := y
    simp only at hn y0 y1 y2 y3
    show wpo (B_Mo_warms_34 68 hr p σ') _
    unfold B_Mo_warms_34
    by_cases c : p < 64
    · rw [if_pos c]
      unfold M_Mo_warms_39
      refine miter_mN (fun m z => (m : Int) = 32 - z.1 ∧ 0 ≤ z.1 ∧ z.1 ≤ 32 ∧ zFw hr σ z.2 ∧ zfil D A hr (p * 32 + z.1) z.2) ?_ 32 _ (by decide) ?_
      · intro m z ⟨zm, z0, z1, z2, z3⟩
        obtain ⟨i, σ2⟩ := z
        simp only at zm z0 z1 z2 z3
        have hB2 := z2.2.1
        have hA2 : σ2.1 70 = A := by rw [z2.2.2.1 70 (by decide) (by decide) (by decide)]; exact hA
        show wpo (B_Mo_warms_39 68 hr p i σ2) _
        unfold B_Mo_warms_39
        by_cases ci : i < 32
        · have w1 : w32 (64 * hr) = 64 * hr := w32_in (by omega) (by omega)
          have w2 : w32 (64 * hr + p) = 64 * hr + p := w32_in (by omega) (by omega)
          have w3 : w32 ((64 * hr + p) * 32) = (64 * hr + p) * 32 := w32_in (by omega) (by omega)
          have w4 : w32 ((64 * hr + p) * 32 + i) = (64 * hr + p) * 32 + i := w32_in (by omega) (by omega)
          have w5 : w32 (i + 1) = i + 1 := w32_in (by omega) (by omega)
          have x0 : 0 ≤ (64 * hr + p) * 32 + i := by omega
          have x1 : (64 * hr + p) * 32 + i < 49152 := by omega
          (try simp (disch := first | assumption | omega) only [wpo_bind, wpo_some, wpo_gf, wpo_gk, wpo_ld, wpo_pf, wpo_pz, wpo_sd, wpo_sr, wpo_ln, wpo_idv, wpo_irm, wpo_lrm, wpo_ldv, wpo_cpy, mlet, mnar_int, mup_same, mup_cell, mup_slot, ite_true, ite_false, true_and, and_true, eq_self, or_true, true_or, and_self, Int.reduceLT, Int.reduceLE, Int.reduceEq, Int.reduceNe, Int.reduceAdd, Int.reduceSub, Int.reduceMul, Int.reduceNeg, ne_eq, not_false_eq_true, not_true_eq_false, false_or, or_false, zor_inl, zor_inr, Bool.false_eq_true, false_and, and_false, zk1, zk2, zk3, zk4, zk5, zk6, zk7, zk8, zk9, zk10, zk11, zk12, zk13, zk14, zk15, zk16, zk17, zk18, zk19, zk20, zk21, zk22, zk23, zk24, zk25, zk26, zk27, zk28, zk29, zk30, zk31, zk32, zk33, zk34, zk35, zk36, zk37, zk38, zk39, zk40, zk41, zk42, zk43, zk44, zk45, zk46, zk47, zk48, zk49, zk50, zk51, zk52, zk53, zk54, zk55, zk56, zk57, zk58, zk59, zk60, zk61, zk62, zk63, zk64, zk65, zk66, zk67, zk68, zk69, zk70, zk71, zk72, zk73, zk74, zk75, zk76, zk77, zk78, zk79, zk80, zk81, zk82, zk83, zk84, zk85, zk86, zk87, zk88, zk89, zk90, zr2_0, zr2_1, zr2_2, zr2_3, zr2_4, zr2_6, zr2_7, zr2_10, zr2_11, zr2_12, zr1_0, zr1_1, zr14_0, zr14_1, zr14_2, zr14_3, zr14_4, zr14_6, zr14_7, zr14_10, zr14_11, zr14_12, zr13_0, zr25_0, zr25_1, zr25_2, zr25_3, zr25_4, zr25_6, zr25_7, zr25_10, zr25_11, zr25_12, zr13_1, zr1_2, zr37_0, zr1_3, zr39_0, zr39_1, zr39_2, zr39_5, zr39_7, zr39_8, zr1_4, zr46_1, zr46_2, zr46_3, zr46_4, zr46_0, zr1_5, zr51_2, zr51_10, zr51_0, zr51_1, zr54_1, zr54_2, zr54_3, zr1_6, zr58_1, zr58_2, zr58_3, zr58_0, zr1_7, zr62_2, zr62_3, zr62_0, zr62_1, zr1_8, zr1_9, zr1_10, zr1_15, zr68_2, zr68_3, zr68_4, zr68_5, zr68_7, zr68_8, zr68_9, zr68_12, zr68_13, zr68_14, zr68_22, zr68_23, zr68_24, zr68_26, zr68_35, zr68_36, zr68_37, zr68_38, zr68_39, zr68_40, zr68_41, zr68_42, ci, w1, w2, w3, w4, w5])
          refine wpo_mono (hM σ2 hB2 hA2 p i hr y0 c z0 ci h0 h1) ?_
          intro q ⟨q1, q2, q3, q4, q5⟩
          have hBq := q3
          (try simp (disch := first | assumption | omega) only [wpo_bind, wpo_some, wpo_gf, wpo_gk, wpo_ld, wpo_pf, wpo_pz, wpo_sd, wpo_sr, wpo_ln, wpo_idv, wpo_irm, wpo_lrm, wpo_ldv, wpo_cpy, mlet, mnar_int, mup_same, mup_cell, mup_slot, ite_true, ite_false, true_and, and_true, eq_self, or_true, true_or, and_self, Int.reduceLT, Int.reduceLE, Int.reduceEq, Int.reduceNe, Int.reduceAdd, Int.reduceSub, Int.reduceMul, Int.reduceNeg, ne_eq, not_false_eq_true, not_true_eq_false, false_or, or_false, zor_inl, zor_inr, Bool.false_eq_true, false_and, and_false, zk1, zk2, zk3, zk4, zk5, zk6, zk7, zk8, zk9, zk10, zk11, zk12, zk13, zk14, zk15, zk16, zk17, zk18, zk19, zk20, zk21, zk22, zk23, zk24, zk25, zk26, zk27, zk28, zk29, zk30, zk31, zk32, zk33, zk34, zk35, zk36, zk37, zk38, zk39, zk40, zk41, zk42, zk43, zk44, zk45, zk46, zk47, zk48, zk49, zk50, zk51, zk52, zk53, zk54, zk55, zk56, zk57, zk58, zk59, zk60, zk61, zk62, zk63, zk64, zk65, zk66, zk67, zk68, zk69, zk70, zk71, zk72, zk73, zk74, zk75, zk76, zk77, zk78, zk79, zk80, zk81, zk82, zk83, zk84, zk85, zk86, zk87, zk88, zk89, zk90, zr2_0, zr2_1, zr2_2, zr2_3, zr2_4, zr2_6, zr2_7, zr2_10, zr2_11, zr2_12, zr1_0, zr1_1, zr14_0, zr14_1, zr14_2, zr14_3, zr14_4, zr14_6, zr14_7, zr14_10, zr14_11, zr14_12, zr13_0, zr25_0, zr25_1, zr25_2, zr25_3, zr25_4, zr25_6, zr25_7, zr25_10, zr25_11, zr25_12, zr13_1, zr1_2, zr37_0, zr1_3, zr39_0, zr39_1, zr39_2, zr39_5, zr39_7, zr39_8, zr1_4, zr46_1, zr46_2, zr46_3, zr46_4, zr46_0, zr1_5, zr51_2, zr51_10, zr51_0, zr51_1, zr54_1, zr54_2, zr54_3, zr1_6, zr58_1, zr58_2, zr58_3, zr58_0, zr1_7, zr62_2, zr62_3, zr62_0, zr62_1, zr1_8, zr1_9, zr1_10, zr1_15, zr68_2, zr68_3, zr68_4, zr68_5, zr68_7, zr68_8, zr68_9, zr68_12, zr68_13, zr68_14, zr68_22, zr68_23, zr68_24, zr68_26, zr68_35, zr68_36, zr68_37, zr68_38, zr68_39, zr68_40, zr68_41, zr68_42, x0, x1])
          have f : zFw hr σ2 (mup q.2.1 80 ((64 * hr + p) * 32 + i) q.1, q.2.2) := by
            refine ⟨q2, zB_mup q3 (zokr_arr (by decide +kernel)), ?_, ?_, ?_⟩
            · intro r a1 a2 a3; show mup _ _ _ _ r = _; rw [mup_fun a3]; exact q4 r a1 a2
            · intro j a1 a2 a3; show mup q.2.1 80 ((64 * hr + p) * 32 + i) q.1 68 j = _; rw [mup_cell (by decide)]; exact q5 j a1 a2 a3
            · intro u hu
              show mup q.2.1 80 ((64 * hr + p) * 32 + i) q.1 80 u = _
              rw [mup_slot (by omega), q4 80 (by decide) (by decide)]
          refine ⟨m - 1, by omega, by omega, by omega, by omega, ?_, ?_⟩
          · exact ⟨f.1.trans z2.1, f.2.1, fun r a b d => (f.2.2.1 r a b d).trans (z2.2.2.1 r a b d), fun j a b d => (f.2.2.2.1 j a b d).trans (z2.2.2.2.1 j a b d), fun u hu => (f.2.2.2.2 u hu).trans (z2.2.2.2.2 u hu)⟩
          · intro u u0 u1
            show mup q.2.1 80 ((64 * hr + p) * 32 + i) q.1 80 (2048 * hr + u) = _
            rw [mup_if]
            by_cases cu : 2048 * hr + u = (64 * hr + p) * 32 + i
            · rw [if_pos cu, q1]
              have e1 : u / 32 = p := by omega
              have e2 : u % 32 = i := by omega
              rw [e1, e2]
            · rw [if_neg cu, q4 80 (by decide) (by decide)]
              exact z3 u u0 (by omega)
        · have : i = 32 := by omega
          subst this
          have w5 : w32 (p + 1) = p + 1 := w32_in (by omega) (by omega)
          (try simp (disch := first | assumption | omega) only [wpo_bind, wpo_some, wpo_gf, wpo_gk, wpo_ld, wpo_pf, wpo_pz, wpo_sd, wpo_sr, wpo_ln, wpo_idv, wpo_irm, wpo_lrm, wpo_ldv, wpo_cpy, mlet, mnar_int, mup_same, mup_cell, mup_slot, ite_true, ite_false, true_and, and_true, eq_self, or_true, true_or, and_self, Int.reduceLT, Int.reduceLE, Int.reduceEq, Int.reduceNe, Int.reduceAdd, Int.reduceSub, Int.reduceMul, Int.reduceNeg, ne_eq, not_false_eq_true, not_true_eq_false, false_or, or_false, zor_inl, zor_inr, Bool.false_eq_true, false_and, and_false, zk1, zk2, zk3, zk4, zk5, zk6, zk7, zk8, zk9, zk10, zk11, zk12, zk13, zk14, zk15, zk16, zk17, zk18, zk19, zk20, zk21, zk22, zk23, zk24, zk25, zk26, zk27, zk28, zk29, zk30, zk31, zk32, zk33, zk34, zk35, zk36, zk37, zk38, zk39, zk40, zk41, zk42, zk43, zk44, zk45, zk46, zk47, zk48, zk49, zk50, zk51, zk52, zk53, zk54, zk55, zk56, zk57, zk58, zk59, zk60, zk61, zk62, zk63, zk64, zk65, zk66, zk67, zk68, zk69, zk70, zk71, zk72, zk73, zk74, zk75, zk76, zk77, zk78, zk79, zk80, zk81, zk82, zk83, zk84, zk85, zk86, zk87, zk88, zk89, zk90, zr2_0, zr2_1, zr2_2, zr2_3, zr2_4, zr2_6, zr2_7, zr2_10, zr2_11, zr2_12, zr1_0, zr1_1, zr14_0, zr14_1, zr14_2, zr14_3, zr14_4, zr14_6, zr14_7, zr14_10, zr14_11, zr14_12, zr13_0, zr25_0, zr25_1, zr25_2, zr25_3, zr25_4, zr25_6, zr25_7, zr25_10, zr25_11, zr25_12, zr13_1, zr1_2, zr37_0, zr1_3, zr39_0, zr39_1, zr39_2, zr39_5, zr39_7, zr39_8, zr1_4, zr46_1, zr46_2, zr46_3, zr46_4, zr46_0, zr1_5, zr51_2, zr51_10, zr51_0, zr51_1, zr54_1, zr54_2, zr54_3, zr1_6, zr58_1, zr58_2, zr58_3, zr58_0, zr1_7, zr62_2, zr62_3, zr62_0, zr62_1, zr1_8, zr1_9, zr1_10, zr1_15, zr68_2, zr68_3, zr68_4, zr68_5, zr68_7, zr68_8, zr68_9, zr68_12, zr68_13, zr68_14, zr68_22, zr68_23, zr68_24, zr68_26, zr68_35, zr68_36, zr68_37, zr68_38, zr68_39, zr68_40, zr68_41, zr68_42, ci, w5])
          refine ⟨n - 1, by omega, by omega, by omega, by omega, z2, ?_⟩
          have e : (p + 1) * 32 = p * 32 + 32 := by omega
          rw [e]; exact z3
      · exact ⟨rfl, Int.le_refl 0, (by show (0 : Int) ≤ 32; decide), y2, by show zfil D A hr (p * 32 + 0) σ'; rw [Int.add_zero]; exact y3⟩
    · have : p = 64 := by omega
      subst this
      rw [if_neg c]
      exact wpo_some.mpr ⟨y2, y3⟩
  · exact ⟨rfl, Int.le_refl 0, (by show (0 : Int) ≤ 64; decide), ⟨rfl, hB, fun _ _ _ _ => rfl, fun _ _ _ _ => rfl, fun _ _ => rfl⟩, fun m a b => by simp only at b; omega⟩
/-- warmed -/
def zWarm (D : Int → (Int → Int) → Int) (A : Int → Int) (hr : Int) (σ : mS) : Prop := ∀ p i, 0 ≤ p → p < 64 → 0 ≤ i → i < 32 → σ.1 80 ((64 * hr + p) * 32 + i) = zWd D A hr p i
def zFv (σ σ' : mS) : Prop := zKm σ σ' ∧ (∀ r, r ≠ 68 → r ≠ 79 → r ≠ 80 → r ≠ 81 → σ'.1 r = σ.1 r) ∧ ∀ j, j ≠ 19 → j ≠ 20 → j ≠ 21 → j ≠ 25 → σ'.1 68 j = σ.1 68 j
set_option maxHeartbeats 4000000 in
theorem m_warms_15 {D : Int → (Int → Int) → Int} {A : Int → Int} {σ : mS} {hr : Int} (hB : zB σ) (hW : zWF A) (hb : ∀ s p i, -50 ≤ zWd D A s p i ∧ zWd D A s p i ≤ 99) (hA : σ.1 70 = A) (hM : zML D A) (hv : 0 ≤ σ.1 68 1 ∧ σ.1 68 1 ≤ 100000) (h0 : 0 ≤ hr) (h1 : hr < 24)
    (hc : ∀ s, 0 ≤ s → s < 24 → σ.1 81 s ≤ σ.1 68 1 ∧ (σ.1 81 s = σ.1 68 1 → ∀ p i, 0 ≤ p → p < 64 → 0 ≤ i → i < 32 → σ.1 80 ((64 * s + p) * 32 + i) = zWd D A s p i)) :
    wpo (M_Mo_warms_15 68 hr σ) (fun q => zMQ D A q.2 ∧ zFv σ q.2 ∧ zWarm D A hr q.2) := by
  have hB1 : zB (mup σ.1 68 25 1, σ.2) := zB_mup hB (by decide +kernel)
  unfold M_Mo_warms_15
  by_cases c : σ.1 81 hr = σ.1 68 1
  · (try simp (disch := first | assumption | omega) only [wpo_bind, wpo_some, wpo_gf, wpo_gk, wpo_ld, wpo_pf, wpo_pz, wpo_sd, wpo_sr, wpo_ln, wpo_idv, wpo_irm, wpo_lrm, wpo_ldv, wpo_cpy, mlet, mnar_int, mup_same, mup_cell, mup_slot, ite_true, ite_false, true_and, and_true, eq_self, or_true, true_or, and_self, Int.reduceLT, Int.reduceLE, Int.reduceEq, Int.reduceNe, Int.reduceAdd, Int.reduceSub, Int.reduceMul, Int.reduceNeg, ne_eq, not_false_eq_true, not_true_eq_false, false_or, or_false, zor_inl, zor_inr, Bool.false_eq_true, false_and, and_false, zk1, zk2, zk3, zk4, zk5, zk6, zk7, zk8, zk9, zk10, zk11, zk12, zk13, zk14, zk15, zk16, zk17, zk18, zk19, zk20, zk21, zk22, zk23, zk24, zk25, zk26, zk27, zk28, zk29, zk30, zk31, zk32, zk33, zk34, zk35, zk36, zk37, zk38, zk39, zk40, zk41, zk42, zk43, zk44, zk45, zk46, zk47, zk48, zk49, zk50, zk51, zk52, zk53, zk54, zk55, zk56, zk57, zk58, zk59, zk60, zk61, zk62, zk63, zk64, zk65, zk66, zk67, zk68, zk69, zk70, zk71, zk72, zk73, zk74, zk75, zk76, zk77, zk78, zk79, zk80, zk81, zk82, zk83, zk84, zk85, zk86, zk87, zk88, zk89, zk90, zr2_0, zr2_1, zr2_2, zr2_3, zr2_4, zr2_6, zr2_7, zr2_10, zr2_11, zr2_12, zr1_0, zr1_1, zr14_0, zr14_1, zr14_2, zr14_3, zr14_4, zr14_6, zr14_7, zr14_10, zr14_11, zr14_12, zr13_0, zr25_0, zr25_1, zr25_2, zr25_3, zr25_4, zr25_6, zr25_7, zr25_10, zr25_11, zr25_12, zr13_1, zr1_2, zr37_0, zr1_3, zr39_0, zr39_1, zr39_2, zr39_5, zr39_7, zr39_8, zr1_4, zr46_1, zr46_2, zr46_3, zr46_4, zr46_0, zr1_5, zr51_2, zr51_10, zr51_0, zr51_1, zr54_1, zr54_2, zr54_3, zr1_6, zr58_1, zr58_2, zr58_3, zr58_0, zr1_7, zr62_2, zr62_3, zr62_0, zr62_1, zr1_8, zr1_9, zr1_10, zr1_15, zr68_2, zr68_3, zr68_4, zr68_5, zr68_7, zr68_8, zr68_9, zr68_12, zr68_13, zr68_14, zr68_22, zr68_23, zr68_24, zr68_26, zr68_35, zr68_36, zr68_37, zr68_38, zr68_39, zr68_40, zr68_41, zr68_42, h0, h1, c])
    have k : zKm σ (mup σ.1 68 25 1, σ.2) := ⟨rfl, hB1, fun r x => mup_fun (by omega), fun i x => by show mup σ.1 68 25 1 68 i = σ.1 68 i; exact mup_slot (by omega)⟩
    refine ⟨⟨hB1, hW, hb, ?_, hM, ?_, ?_⟩, ⟨k, fun r a _ _ _ => mup_fun a, fun j _ _ _ a => by show mup σ.1 68 25 1 68 j = σ.1 68 j; exact mup_slot a⟩, ?_⟩
    · show mup σ.1 68 25 1 70 = A; rw [mup_fun (by decide)]; exact hA
    · show 0 ≤ mup σ.1 68 25 1 68 1 ∧ mup σ.1 68 25 1 68 1 ≤ 100000; rw [mup_slot (by decide)]; exact hv
    · refine Or.inr ⟨by show mup σ.1 68 25 1 68 25 = 1; exact mup_same, ?_⟩
      show ∀ s, 0 ≤ s → s < 24 → mup σ.1 68 25 1 81 s ≤ mup σ.1 68 25 1 68 1 ∧ (mup σ.1 68 25 1 81 s = mup σ.1 68 25 1 68 1 → ∀ p i, 0 ≤ p → p < 64 → 0 ≤ i → i < 32 → mup σ.1 68 25 1 80 ((64 * s + p) * 32 + i) = zWd D A s p i)
      rw [mup_fun (show (81 : Int) ≠ 68 by decide), mup_fun (show (80 : Int) ≠ 68 by decide), mup_slot (show (1 : Int) ≠ 25 by decide)]
      exact hc
    · intro p i p0 p1 i0 i1
      show mup σ.1 68 25 1 80 _ = _
      rw [mup_cell (by decide)]
      exact (hc hr h0 h1).2 c p i p0 p1 i0 i1
  · (try simp (disch := first | assumption | omega) only [wpo_bind, wpo_some, wpo_gf, wpo_gk, wpo_ld, wpo_pf, wpo_pz, wpo_sd, wpo_sr, wpo_ln, wpo_idv, wpo_irm, wpo_lrm, wpo_ldv, wpo_cpy, mlet, mnar_int, mup_same, mup_cell, mup_slot, ite_true, ite_false, true_and, and_true, eq_self, or_true, true_or, and_self, Int.reduceLT, Int.reduceLE, Int.reduceEq, Int.reduceNe, Int.reduceAdd, Int.reduceSub, Int.reduceMul, Int.reduceNeg, ne_eq, not_false_eq_true, not_true_eq_false, false_or, or_false, zor_inl, zor_inr, Bool.false_eq_true, false_and, and_false, zk1, zk2, zk3, zk4, zk5, zk6, zk7, zk8, zk9, zk10, zk11, zk12, zk13, zk14, zk15, zk16, zk17, zk18, zk19, zk20, zk21, zk22, zk23, zk24, zk25, zk26, zk27, zk28, zk29, zk30, zk31, zk32, zk33, zk34, zk35, zk36, zk37, zk38, zk39, zk40, zk41, zk42, zk43, zk44, zk45, zk46, zk47, zk48, zk49, zk50, zk51, zk52, zk53, zk54, zk55, zk56, zk57, zk58, zk59, zk60, zk61, zk62, zk63, zk64, zk65, zk66, zk67, zk68, zk69, zk70, zk71, zk72, zk73, zk74, zk75, zk76, zk77, zk78, zk79, zk80, zk81, zk82, zk83, zk84, zk85, zk86, zk87, zk88, zk89, zk90, zr2_0, zr2_1, zr2_2, zr2_3, zr2_4, zr2_6, zr2_7, zr2_10, zr2_11, zr2_12, zr1_0, zr1_1, zr14_0, zr14_1, zr14_2, zr14_3, zr14_4, zr14_6, zr14_7, zr14_10, zr14_11, zr14_12, zr13_0, zr25_0, zr25_1, zr25_2, zr25_3, zr25_4, zr25_6, zr25_7, zr25_10, zr25_11, zr25_12, zr13_1, zr1_2, zr37_0, zr1_3, zr39_0, zr39_1, zr39_2, zr39_5, zr39_7, zr39_8, zr1_4, zr46_1, zr46_2, zr46_3, zr46_4, zr46_0, zr1_5, zr51_2, zr51_10, zr51_0, zr51_1, zr54_1, zr54_2, zr54_3, zr1_6, zr58_1, zr58_2, zr58_3, zr58_0, zr1_7, zr62_2, zr62_3, zr62_0, zr62_1, zr1_8, zr1_9, zr1_10, zr1_15, zr68_2, zr68_3, zr68_4, zr68_5, zr68_7, zr68_8, zr68_9, zr68_12, zr68_13, zr68_14, zr68_22, zr68_23, zr68_24, zr68_26, zr68_35, zr68_36, zr68_37, zr68_38, zr68_39, zr68_40, zr68_41, zr68_42, h0, h1, c])
    have hB2 : zB (mup (mup σ.1 68 25 1) 81 hr (σ.1 68 1), σ.2) := zB_mup hB1 (zokr_arr (by decide +kernel))
    generalize eX : ((mup (mup σ.1 68 25 1) 81 hr (σ.1 68 1), σ.2) : mS) = X at hB2
    have fX : ∀ r, r ≠ 68 → r ≠ 81 → X.1 r = σ.1 r := by intro r a b; rw [← eX]; show mup _ _ _ _ r = _; rw [mup_fun b, mup_fun a]
    have gX : ∀ j, j ≠ 25 → X.1 68 j = σ.1 68 j := by intro j a; rw [← eX]; show mup (mup σ.1 68 25 1) 81 hr (σ.1 68 1) 68 j = _; rw [mup_cell (by decide), mup_slot a]
    have g25 : X.1 68 25 = 1 := by rw [← eX]; show mup (mup σ.1 68 25 1) 81 hr (σ.1 68 1) 68 25 = _; rw [mup_cell (by decide), mup_same]
    have g81 : ∀ s, X.1 81 s = if s = hr then σ.1 68 1 else σ.1 81 s := by intro s; rw [← eX]; show mup (mup σ.1 68 25 1) 81 hr (σ.1 68 1) 81 s = _; rw [mup_if, mup_cell (by decide)]
    have eX2 : X.2 = σ.2 := by rw [← eX]
    refine wpo_mono (m_warms_34 hB2 (by rw [fX 70 (by decide) (by decide)]; exact hA) hM h0 h1) ?_
    intro q ⟨f, fl⟩
    have v1 : q.2.1 68 1 = σ.1 68 1 := by rw [f.2.2.2.1 1 (by decide) (by decide) (by decide), gX 1 (by decide)]
    have v25 : q.2.1 68 25 = 1 := by rw [f.2.2.2.1 25 (by decide) (by decide) (by decide)]; exact g25
    have v81 : q.2.1 81 = X.1 81 := f.2.2.1 81 (by decide) (by decide) (by decide)
    have wm : zWarm D A hr q.2 := by
      intro p i p0 p1 i0 i1
      have := fl (p * 32 + i) (by omega) (by omega)
      have e0 : 2048 * hr + (p * 32 + i) = (64 * hr + p) * 32 + i := by omega
      have e1 : (p * 32 + i) / 32 = p := by omega
      have e2 : (p * 32 + i) % 32 = i := by omega
      rw [e0, e1, e2] at this
      exact this
    refine ⟨⟨f.2.1, hW, hb, ?_, hM, by rw [v1]; exact hv, Or.inr ⟨v25, ?_⟩⟩, ⟨⟨f.1.trans eX2, f.2.1, ?_, ?_⟩, ?_, ?_⟩, wm⟩
    · rw [f.2.2.1 70 (by decide) (by decide) (by decide), fX 70 (by decide) (by decide)]; exact hA
    · intro s s0 s1
      rw [v1, v81, g81 s]
      by_cases cs : s = hr
      · rw [if_pos cs]
        refine ⟨Int.le_refl _, fun _ p i p0 p1 i0 i1 => ?_⟩
        rw [cs]; exact wm p i p0 p1 i0 i1
      · rw [if_neg cs]
        refine ⟨(hc s s0 s1).1, fun e p i p0 p1 i0 i1 => ?_⟩
        rw [f.2.2.2.2 _ (by omega), fX 80 (by decide) (by decide)]
        exact (hc s s0 s1).2 e p i p0 p1 i0 i1
    · intro r x; rw [f.2.2.1 r (by omega) (by omega) (by omega)]; exact fX r (by omega) (by omega)
    · intro i x; rw [f.2.2.2.1 i (by omega) (by omega) (by omega)]; exact gX i (by omega)
    · intro r a1 a2 a3 a4; rw [f.2.2.1 r a1 a2 a3]; exact fX r a1 a4
    · intro j a1 a2 a3 a4; rw [f.2.2.2.1 j a1 a2 a3]; exact gX j a4
set_option maxHeartbeats 4000000 in
theorem m_warms {D : Int → (Int → Int) → Int} {A : Int → Int} {σ : mS} {hr : Int} (h : zMQ D A σ) (h0 : 0 ≤ hr) (h1 : hr < 24) : wpo (M_Mo_warms 68 hr σ) (fun q => zMQ D A q.2 ∧ zFv σ q.2 ∧ zWarm D A hr q.2) := by
  obtain ⟨hB, hW, hb, hA, hM, hv, hc⟩ := h
  unfold M_Mo_warms
  rcases hc with c | ⟨c, hc⟩
  · (try simp (disch := first | assumption | omega) only [wpo_bind, wpo_some, wpo_gf, wpo_gk, wpo_ld, wpo_pf, wpo_pz, wpo_sd, wpo_sr, wpo_ln, wpo_idv, wpo_irm, wpo_lrm, wpo_ldv, wpo_cpy, mlet, mnar_int, mup_same, mup_cell, mup_slot, ite_true, ite_false, true_and, and_true, eq_self, or_true, true_or, and_self, Int.reduceLT, Int.reduceLE, Int.reduceEq, Int.reduceNe, Int.reduceAdd, Int.reduceSub, Int.reduceMul, Int.reduceNeg, ne_eq, not_false_eq_true, not_true_eq_false, false_or, or_false, zor_inl, zor_inr, Bool.false_eq_true, false_and, and_false, zk1, zk2, zk3, zk4, zk5, zk6, zk7, zk8, zk9, zk10, zk11, zk12, zk13, zk14, zk15, zk16, zk17, zk18, zk19, zk20, zk21, zk22, zk23, zk24, zk25, zk26, zk27, zk28, zk29, zk30, zk31, zk32, zk33, zk34, zk35, zk36, zk37, zk38, zk39, zk40, zk41, zk42, zk43, zk44, zk45, zk46, zk47, zk48, zk49, zk50, zk51, zk52, zk53, zk54, zk55, zk56, zk57, zk58, zk59, zk60, zk61, zk62, zk63, zk64, zk65, zk66, zk67, zk68, zk69, zk70, zk71, zk72, zk73, zk74, zk75, zk76, zk77, zk78, zk79, zk80, zk81, zk82, zk83, zk84, zk85, zk86, zk87, zk88, zk89, zk90, zr2_0, zr2_1, zr2_2, zr2_3, zr2_4, zr2_6, zr2_7, zr2_10, zr2_11, zr2_12, zr1_0, zr1_1, zr14_0, zr14_1, zr14_2, zr14_3, zr14_4, zr14_6, zr14_7, zr14_10, zr14_11, zr14_12, zr13_0, zr25_0, zr25_1, zr25_2, zr25_3, zr25_4, zr25_6, zr25_7, zr25_10, zr25_11, zr25_12, zr13_1, zr1_2, zr37_0, zr1_3, zr39_0, zr39_1, zr39_2, zr39_5, zr39_7, zr39_8, zr1_4, zr46_1, zr46_2, zr46_3, zr46_4, zr46_0, zr1_5, zr51_2, zr51_10, zr51_0, zr51_1, zr54_1, zr54_2, zr54_3, zr1_6, zr58_1, zr58_2, zr58_3, zr58_0, zr1_7, zr62_2, zr62_3, zr62_0, zr62_1, zr1_8, zr1_9, zr1_10, zr1_15, zr68_2, zr68_3, zr68_4, zr68_5, zr68_7, zr68_8, zr68_9, zr68_12, zr68_13, zr68_14, zr68_22, zr68_23, zr68_24, zr68_26, zr68_35, zr68_36, zr68_37, zr68_38, zr68_39, zr68_40, zr68_41, zr68_42, c])
    unfold M_Mo_warms_5
    refine miter_mN (fun n y => (n : Int) = 24 - y.1 ∧ 0 ≤ y.1 ∧ y.1 ≤ 24 ∧ y.2.2 = σ.2 ∧ (∀ r, r ≠ 81 → y.2.1 r = σ.1 r) ∧ ∀ s, 0 ≤ s → s < y.1 → y.2.1 81 s = -1) ?_ 24 _ (by decide) ?_
    · intro n y ⟨hn, y0, y1, y2, y3, y4⟩
      obtain ⟨s, σ'⟩ := y
      simp only at hn y0 y1 y2 y3 y4
      have hB' : zB σ' := zB_core hB (fun r _ => by rw [y2]) (fun r hr => y3 r (fun e => by rw [e] at hr; exact absurd hr (by decide)))
      show wpo (B_Mo_warms_5 68 hr s σ') _
      unfold B_Mo_warms_5
      by_cases cs : s < 24
      · have w : w32 (s + 1) = s + 1 := w32_in (by omega) (by omega)
        (try simp (disch := first | assumption | omega) only [wpo_bind, wpo_some, wpo_gf, wpo_gk, wpo_ld, wpo_pf, wpo_pz, wpo_sd, wpo_sr, wpo_ln, wpo_idv, wpo_irm, wpo_lrm, wpo_ldv, wpo_cpy, mlet, mnar_int, mup_same, mup_cell, mup_slot, ite_true, ite_false, true_and, and_true, eq_self, or_true, true_or, and_self, Int.reduceLT, Int.reduceLE, Int.reduceEq, Int.reduceNe, Int.reduceAdd, Int.reduceSub, Int.reduceMul, Int.reduceNeg, ne_eq, not_false_eq_true, not_true_eq_false, false_or, or_false, zor_inl, zor_inr, Bool.false_eq_true, false_and, and_false, zk1, zk2, zk3, zk4, zk5, zk6, zk7, zk8, zk9, zk10, zk11, zk12, zk13, zk14, zk15, zk16, zk17, zk18, zk19, zk20, zk21, zk22, zk23, zk24, zk25, zk26, zk27, zk28, zk29, zk30, zk31, zk32, zk33, zk34, zk35, zk36, zk37, zk38, zk39, zk40, zk41, zk42, zk43, zk44, zk45, zk46, zk47, zk48, zk49, zk50, zk51, zk52, zk53, zk54, zk55, zk56, zk57, zk58, zk59, zk60, zk61, zk62, zk63, zk64, zk65, zk66, zk67, zk68, zk69, zk70, zk71, zk72, zk73, zk74, zk75, zk76, zk77, zk78, zk79, zk80, zk81, zk82, zk83, zk84, zk85, zk86, zk87, zk88, zk89, zk90, zr2_0, zr2_1, zr2_2, zr2_3, zr2_4, zr2_6, zr2_7, zr2_10, zr2_11, zr2_12, zr1_0, zr1_1, zr14_0, zr14_1, zr14_2, zr14_3, zr14_4, zr14_6, zr14_7, zr14_10, zr14_11, zr14_12, zr13_0, zr25_0, zr25_1, zr25_2, zr25_3, zr25_4, zr25_6, zr25_7, zr25_10, zr25_11, zr25_12, zr13_1, zr1_2, zr37_0, zr1_3, zr39_0, zr39_1, zr39_2, zr39_5, zr39_7, zr39_8, zr1_4, zr46_1, zr46_2, zr46_3, zr46_4, zr46_0, zr1_5, zr51_2, zr51_10, zr51_0, zr51_1, zr54_1, zr54_2, zr54_3, zr1_6, zr58_1, zr58_2, zr58_3, zr58_0, zr1_7, zr62_2, zr62_3, zr62_0, zr62_1, zr1_8, zr1_9, zr1_10, zr1_15, zr68_2, zr68_3, zr68_4, zr68_5, zr68_7, zr68_8, zr68_9, zr68_12, zr68_13, zr68_14, zr68_22, zr68_23, zr68_24, zr68_26, zr68_35, zr68_36, zr68_37, zr68_38, zr68_39, zr68_40, zr68_41, zr68_42, cs, y0, w])
        refine ⟨n - 1, by omega, by omega, by omega, by omega, y2, fun r a => ?_, fun u u0 u1 => ?_⟩
        · rw [mup_fun a]; exact y3 r a
        · rw [mup_if]
          by_cases cu : u = s
          · rw [if_pos cu]
          · rw [if_neg cu]; exact y4 u u0 (by omega)
      · have : s = 24 := by omega
        subst this
        rw [if_neg cs]
        have f68 := y3 68 (by decide)
        refine wpo_call (m_warms_15 (D := D) (A := A) hB' hW hb (by rw [y3 70 (by decide)]; exact hA) hM (by rw [f68]; exact hv) h0 h1 ?_) ?_
        · intro u u0 u1
          rw [y4 u u0 u1, f68]
          exact ⟨by omega, fun e => by omega⟩
        · intro q ⟨q1, q2, q3⟩
          refine wpo_some.mpr ⟨q1, ⟨⟨q2.1.1.trans y2, q2.1.2.1, ?_, ?_⟩, ?_, ?_⟩, q3⟩
          · intro r x; rw [q2.1.2.2.1 r x]; exact y3 r (by omega)
          · intro i x; rw [q2.1.2.2.2 i x, f68]
          · intro r a1 a2 a3 a4; rw [q2.2.1 r a1 a2 a3 a4]; exact y3 r a4
          · intro j a1 a2 a3 a4; rw [q2.2.2 j a1 a2 a3 a4, f68]
    · exact ⟨rfl, Int.le_refl 0, (by show (0 : Int) ≤ 24; decide), rfl, fun _ _ => rfl, fun s a b => by simp only at b; omega⟩
  · have c' : ¬ σ.1 68 25 = 0 := by omega
    (try simp (disch := first | assumption | omega) only [wpo_bind, wpo_some, wpo_gf, wpo_gk, wpo_ld, wpo_pf, wpo_pz, wpo_sd, wpo_sr, wpo_ln, wpo_idv, wpo_irm, wpo_lrm, wpo_ldv, wpo_cpy, mlet, mnar_int, mup_same, mup_cell, mup_slot, ite_true, ite_false, true_and, and_true, eq_self, or_true, true_or, and_self, Int.reduceLT, Int.reduceLE, Int.reduceEq, Int.reduceNe, Int.reduceAdd, Int.reduceSub, Int.reduceMul, Int.reduceNeg, ne_eq, not_false_eq_true, not_true_eq_false, false_or, or_false, zor_inl, zor_inr, Bool.false_eq_true, false_and, and_false, zk1, zk2, zk3, zk4, zk5, zk6, zk7, zk8, zk9, zk10, zk11, zk12, zk13, zk14, zk15, zk16, zk17, zk18, zk19, zk20, zk21, zk22, zk23, zk24, zk25, zk26, zk27, zk28, zk29, zk30, zk31, zk32, zk33, zk34, zk35, zk36, zk37, zk38, zk39, zk40, zk41, zk42, zk43, zk44, zk45, zk46, zk47, zk48, zk49, zk50, zk51, zk52, zk53, zk54, zk55, zk56, zk57, zk58, zk59, zk60, zk61, zk62, zk63, zk64, zk65, zk66, zk67, zk68, zk69, zk70, zk71, zk72, zk73, zk74, zk75, zk76, zk77, zk78, zk79, zk80, zk81, zk82, zk83, zk84, zk85, zk86, zk87, zk88, zk89, zk90, zr2_0, zr2_1, zr2_2, zr2_3, zr2_4, zr2_6, zr2_7, zr2_10, zr2_11, zr2_12, zr1_0, zr1_1, zr14_0, zr14_1, zr14_2, zr14_3, zr14_4, zr14_6, zr14_7, zr14_10, zr14_11, zr14_12, zr13_0, zr25_0, zr25_1, zr25_2, zr25_3, zr25_4, zr25_6, zr25_7, zr25_10, zr25_11, zr25_12, zr13_1, zr1_2, zr37_0, zr1_3, zr39_0, zr39_1, zr39_2, zr39_5, zr39_7, zr39_8, zr1_4, zr46_1, zr46_2, zr46_3, zr46_4, zr46_0, zr1_5, zr51_2, zr51_10, zr51_0, zr51_1, zr54_1, zr54_2, zr54_3, zr1_6, zr58_1, zr58_2, zr58_3, zr58_0, zr1_7, zr62_2, zr62_3, zr62_0, zr62_1, zr1_8, zr1_9, zr1_10, zr1_15, zr68_2, zr68_3, zr68_4, zr68_5, zr68_7, zr68_8, zr68_9, zr68_12, zr68_13, zr68_14, zr68_22, zr68_23, zr68_24, zr68_26, zr68_35, zr68_36, zr68_37, zr68_38, zr68_39, zr68_40, zr68_41, zr68_42, c])
    exact m_warms_15 hB hW hb hA hM hv h0 h1 hc
end
