/-- up to date -/
def zfresh (σ : mS) (b : Int) : Prop := ∀ p, 0 ≤ p → p < 64 → σ.1 (b + 3) p = σ.1 48 p
set_option maxHeartbeats 4000000 in
theorem s_ofHour_26 {D : Int → (Int → Int) → Int} {A : Int → Int} {σ : mS} {s : Int} (hq : zCQ D A σ) (s0 : 0 ≤ s) (s1 : s < 24) (hn : σ.1 47 s ≠ 0) :
    wpo (M_Air_ofHour_26 46 (σ.1 47 s) 0 σ) (fun q => q.1 = σ.1 47 s ∧ zCQ D A q.2 ∧ zFo σ q.2 ∧ zfresh q.2 (σ.1 47 s)) := by
  have hh := zAir_get hq.2.2.2.2 s0 s1 hn
  have lo := zHB_low hh.1
  have hB := hq.1
  unfold M_Air_ofHour_26
  refine miter_mN (fun n y => (n : Int) = 64 - y.1 ∧ 0 ≤ y.1 ∧ y.1 ≤ 64 ∧ zCQ D A y.2 ∧ y.2.2 = σ.2 ∧ zFo σ y.2 ∧ y.2.1 47 = σ.1 47 ∧ y.2.1 48 = σ.1 48 ∧ (∀ p, 0 ≤ p → p < y.1 → y.2.1 (σ.1 47 s + 3) p = σ.1 48 p)) ?_ 64 _ (by decide) ?_
  · intro n y ⟨hn', y0, y1, yq, ye, yf, y47, y48, yp⟩
    obtain ⟨p, σ'⟩ := y
    simp only at hn' y0 y1 yq ye yf y47 y48 yp
    have hB' := yq.1
    have hA' := yq.2.2.2.2
    have hn2 : σ'.1 47 s ≠ 0 := by rw [y47]; exact hn
    have hh' := zAir_get hA' s0 s1 hn2
    rw [y47] at hh'
    have kb := hh'.1.2.2.1
    have k3 := hh'.1.2.2.2.2.2.1
    have r3 := hh'.1.2.2.2.2.2.2.2.2
    show wpo (B_Air_ofHour_26 46 (σ.1 47 s) p σ') _
    unfold B_Air_ofHour_26
    by_cases c : p < 64
    · have w : w32 (p + 1) = p + 1 := w32_in (by omega) (by omega)
      by_cases c2 : σ'.1 (σ.1 47 s + 3) p = σ'.1 48 p
      · simp (disch := first | assumption | omega) only [wpo_bind, wpo_some, wpo_gf, wpo_gk, wpo_ld, wpo_pf, wpo_pz, wpo_sd, wpo_sr, wpo_ln, wpo_idv, wpo_irm, wpo_lrm, wpo_ldv, wpo_cpy, mlet, mnar_int, mup_same, mup_cell, mup_slot, ite_true, ite_false, true_and, and_true, eq_self, or_true, true_or, and_self, Int.reduceLT, Int.reduceLE, Int.reduceEq, Int.reduceNe, Int.reduceAdd, Int.reduceSub, Int.reduceMul, Int.reduceNeg, ne_eq, not_false_eq_true, not_true_eq_false, false_or, or_false, zor_inl, zor_inr, false_and, and_false, zk1, zk2, zk3, zk4, zk5, zk6, zk7, zk8, zk9, zk10, zk11, zk12, zk13, zk14, zk15, zk16, zk17, zk18, zk19, zk20, zk21, zk22, zk23, zk24, zk25, zk26, zk27, zk28, zk29, zk30, zk31, zk32, zk33, zk34, zk35, zk36, zk37, zk38, zk39, zk40, zk41, zk42, zk43, zk44, zk45, zk46, zk47, zk48, zk49, zk50, zk51, zk52, zk53, zk54, zk55, zk56, zk57, zk58, zk59, zk60, zk61, zk62, zk63, zk64, zk65, zk66, zk67, zk68, zk69, zk70, zk71, zk72, zk73, zk74, zk75, zk76, zk77, zk78, zk79, zk80, zk81, zk82, zk83, zk84, zk85, zk86, zk87, zk88, zk89, zk90, zr2_0, zr2_1, zr2_2, zr2_3, zr2_4, zr2_6, zr2_7, zr2_10, zr2_11, zr2_12, zr1_0, zr1_1, zr14_0, zr14_1, zr14_2, zr14_3, zr14_4, zr14_6, zr14_7, zr14_10, zr14_11, zr14_12, zr13_0, zr25_0, zr25_1, zr25_2, zr25_3, zr25_4, zr25_6, zr25_7, zr25_10, zr25_11, zr25_12, zr13_1, zr1_2, zr37_0, zr1_3, zr39_0, zr39_1, zr39_2, zr39_5, zr39_7, zr39_8, zr1_4, zr46_1, zr46_2, zr46_3, zr46_4, zr46_0, zr1_5, zr51_2, zr51_10, zr51_0, zr51_1, zr54_1, zr54_2, zr54_3, zr1_6, zr58_1, zr58_2, zr58_3, zr58_0, zr1_7, zr62_2, zr62_3, zr62_0, zr62_1, zr1_8, zr1_9, zr1_10, zr1_15, zr68_2, zr68_3, zr68_4, zr68_5, zr68_7, zr68_8, zr68_9, zr68_12, zr68_13, zr68_14, zr68_22, zr68_23, zr68_24, zr68_26, zr68_35, zr68_36, zr68_37, zr68_38, zr68_39, zr68_40, zr68_41, zr68_42, c, kb, k3, r3, y0, c2, w]
        refine ⟨n - 1, by omega, by omega, by omega, by omega, yq, ye, yf, y47, y48, ?_⟩
        intro u u0 u1
        by_cases cu : u = p
        · rw [cu, c2, y48]
        · exact yp u u0 (by omega)
      · simp (disch := first | assumption | omega) only [wpo_bind, wpo_some, wpo_gf, wpo_gk, wpo_ld, wpo_pf, wpo_pz, wpo_sd, wpo_sr, wpo_ln, wpo_idv, wpo_irm, wpo_lrm, wpo_ldv, wpo_cpy, mlet, mnar_int, mup_same, mup_cell, mup_slot, ite_true, ite_false, true_and, and_true, eq_self, or_true, true_or, and_self, Int.reduceLT, Int.reduceLE, Int.reduceEq, Int.reduceNe, Int.reduceAdd, Int.reduceSub, Int.reduceMul, Int.reduceNeg, ne_eq, not_false_eq_true, not_true_eq_false, false_or, or_false, zor_inl, zor_inr, false_and, and_false, zk1, zk2, zk3, zk4, zk5, zk6, zk7, zk8, zk9, zk10, zk11, zk12, zk13, zk14, zk15, zk16, zk17, zk18, zk19, zk20, zk21, zk22, zk23, zk24, zk25, zk26, zk27, zk28, zk29, zk30, zk31, zk32, zk33, zk34, zk35, zk36, zk37, zk38, zk39, zk40, zk41, zk42, zk43, zk44, zk45, zk46, zk47, zk48, zk49, zk50, zk51, zk52, zk53, zk54, zk55, zk56, zk57, zk58, zk59, zk60, zk61, zk62, zk63, zk64, zk65, zk66, zk67, zk68, zk69, zk70, zk71, zk72, zk73, zk74, zk75, zk76, zk77, zk78, zk79, zk80, zk81, zk82, zk83, zk84, zk85, zk86, zk87, zk88, zk89, zk90, zr2_0, zr2_1, zr2_2, zr2_3, zr2_4, zr2_6, zr2_7, zr2_10, zr2_11, zr2_12, zr1_0, zr1_1, zr14_0, zr14_1, zr14_2, zr14_3, zr14_4, zr14_6, zr14_7, zr14_10, zr14_11, zr14_12, zr13_0, zr25_0, zr25_1, zr25_2, zr25_3, zr25_4, zr25_6, zr25_7, zr25_10, zr25_11, zr25_12, zr13_1, zr1_2, zr37_0, zr1_3, zr39_0, zr39_1, zr39_2, zr39_5, zr39_7, zr39_8, zr1_4, zr46_1, zr46_2, zr46_3, zr46_4, zr46_0, zr1_5, zr51_2, zr51_10, zr51_0, zr51_1, zr54_1, zr54_2, zr54_3, zr1_6, zr58_1, zr58_2, zr58_3, zr58_0, zr1_7, zr62_2, zr62_3, zr62_0, zr62_1, zr1_8, zr1_9, zr1_10, zr1_15, zr68_2, zr68_3, zr68_4, zr68_5, zr68_7, zr68_8, zr68_9, zr68_12, zr68_13, zr68_14, zr68_22, zr68_23, zr68_24, zr68_26, zr68_35, zr68_36, zr68_37, zr68_38, zr68_39, zr68_40, zr68_41, zr68_42, c, kb, k3, r3, y0, c2, w]
        refine wpo_mono (s_clear hB' hh'.1 y0 c) ?_
        intro q ⟨q1, q2, q3, q4, q5, q6⟩
        have g47 : q.2.1 47 = σ'.1 47 := q2 47 (by omega) (by omega) (by omega)
        have g48 : q.2.1 48 = σ'.1 48 := q2 48 (by omega) (by omega) (by omega)
        have fo := zFo.of_air hh'.1 hB' q1 q2
        have ha : zAir (zWd D A) q.2 := by
          refine ⟨by rw [g48]; exact hA'.1, ?_⟩
          intro u u0 u1
          rw [g47]
          by_cases un : σ'.1 47 u = 0
          · exact Or.inl un
          · refine Or.inr ?_
            have hu := zAir_get hA' u0 u1 un
            have lu := zHB_low hu.1
            by_cases cu : σ'.1 47 u = σ.1 47 s
            · have us : u = s := by
                have a1 := hu.2.1
                have a2 := hh'.2.1
                rw [cu] at a1
                omega
              rw [cu, us]
              have gb : q.2.1 (σ.1 47 s) = σ'.1 (σ.1 47 s) := q2 _ (by omega) (by omega) (by omega)
              refine ⟨?_, by rw [gb]; exact hh'.2.1, ?_⟩
              · have := hh'.1
                unfold zHB at this ⊢
                rw [q1, gb]; exact this
              · intro v v0 v1
                rw [g48]
                by_cases cv : v = p
                · rw [cv, q5]
                  refine ⟨Int.le_refl _, fun _ i i0 i1 => ?_⟩
                  have := q3 (p * 32 + i) (by omega) (by omega)
                  exact ⟨Or.inl this.1, Or.inl this.2⟩
                · rw [q6 v cv]
                  refine ⟨(hh'.2.2 v v0 v1).1, fun e i i0 i1 => ?_⟩
                  have := q4 (v * 32 + i) (by omega)
                  rw [this.1, this.2]
                  exact (hh'.2.2 v v0 v1).2 e i i0 i1
            · have ap : ∀ j j', 0 ≤ j → j ≤ 3 → 0 ≤ j' → j' ≤ 3 → σ'.1 47 u + j ≠ σ.1 47 s + j' := by
                intro j j' a1 a2 a3 a4 e
                exact cu (zHB_apart hu.1 hh'.1 e a1 a2 a3 a4)
              have z0 : q.2.1 (σ'.1 47 u) = σ'.1 (σ'.1 47 u) := by
                have a1 := ap 0 1 (by decide) (by decide) (by decide) (by decide)
                have a2 := ap 0 2 (by decide) (by decide) (by decide) (by decide)
                have a3 := ap 0 3 (by decide) (by decide) (by decide) (by decide)
                exact q2 _ (by omega) (by omega) (by omega)
              have zj : ∀ j, 1 ≤ j → j ≤ 3 → q.2.1 (σ'.1 47 u + j) = σ'.1 (σ'.1 47 u + j) := by
                intro j a1 a2
                exact q2 _ (ap j 1 (by omega) a2 (by decide) (by decide)) (ap j 2 (by omega) a2 (by decide) (by decide)) (ap j 3 (by omega) a2 (by decide) (by decide))
              refine ⟨?_, by rw [z0]; exact hu.2.1, ?_⟩
              · have := hu.1
                unfold zHB at this ⊢
                rw [q1, z0]; exact this
              · intro v v0 v1
                rw [g48, zj 3 (by decide) (by decide)]
                refine ⟨(hu.2.2 v v0 v1).1, fun e i i0 i1 => ?_⟩
                rw [zj 1 (by decide) (by decide), zj 2 (by decide) (by decide)]
                exact (hu.2.2 v v0 v1).2 e i i0 i1
        refine ⟨n - 1, by omega, by omega, by omega, by omega, zCQ_fo yq fo ha, q1.trans ye, yf.trans fo, g47.trans y47, g48.trans y48, ?_⟩
        intro u u0 u1
        by_cases cu : u = p
        · rw [cu, q5, y48]
        · rw [q6 u cu]; exact yp u u0 (by omega)
    · simp (disch := first | assumption | omega) only [wpo_bind, wpo_some, wpo_gf, wpo_gk, wpo_ld, wpo_pf, wpo_pz, wpo_sd, wpo_sr, wpo_ln, wpo_idv, wpo_irm, wpo_lrm, wpo_ldv, wpo_cpy, mlet, mnar_int, mup_same, mup_cell, mup_slot, ite_true, ite_false, true_and, and_true, eq_self, or_true, true_or, and_self, Int.reduceLT, Int.reduceLE, Int.reduceEq, Int.reduceNe, Int.reduceAdd, Int.reduceSub, Int.reduceMul, Int.reduceNeg, ne_eq, not_false_eq_true, not_true_eq_false, false_or, or_false, zor_inl, zor_inr, false_and, and_false, zk1, zk2, zk3, zk4, zk5, zk6, zk7, zk8, zk9, zk10, zk11, zk12, zk13, zk14, zk15, zk16, zk17, zk18, zk19, zk20, zk21, zk22, zk23, zk24, zk25, zk26, zk27, zk28, zk29, zk30, zk31, zk32, zk33, zk34, zk35, zk36, zk37, zk38, zk39, zk40, zk41, zk42, zk43, zk44, zk45, zk46, zk47, zk48, zk49, zk50, zk51, zk52, zk53, zk54, zk55, zk56, zk57, zk58, zk59, zk60, zk61, zk62, zk63, zk64, zk65, zk66, zk67, zk68, zk69, zk70, zk71, zk72, zk73, zk74, zk75, zk76, zk77, zk78, zk79, zk80, zk81, zk82, zk83, zk84, zk85, zk86, zk87, zk88, zk89, zk90, zr2_0, zr2_1, zr2_2, zr2_3, zr2_4, zr2_6, zr2_7, zr2_10, zr2_11, zr2_12, zr1_0, zr1_1, zr14_0, zr14_1, zr14_2, zr14_3, zr14_4, zr14_6, zr14_7, zr14_10, zr14_11, zr14_12, zr13_0, zr25_0, zr25_1, zr25_2, zr25_3, zr25_4, zr25_6, zr25_7, zr25_10, zr25_11, zr25_12, zr13_1, zr1_2, zr37_0, zr1_3, zr39_0, zr39_1, zr39_2, zr39_5, zr39_7, zr39_8, zr1_4, zr46_1, zr46_2, zr46_3, zr46_4, zr46_0, zr1_5, zr51_2, zr51_10, zr51_0, zr51_1, zr54_1, zr54_2, zr54_3, zr1_6, zr58_1, zr58_2, zr58_3, zr58_0, zr1_7, zr62_2, zr62_3, zr62_0, zr62_1, zr1_8, zr1_9, zr1_10, zr1_15, zr68_2, zr68_3, zr68_4, zr68_5, zr68_7, zr68_8, zr68_9, zr68_12, zr68_13, zr68_14, zr68_22, zr68_23, zr68_24, zr68_26, zr68_35, zr68_36, zr68_37, zr68_38, zr68_39, zr68_40, zr68_41, zr68_42, c]
      refine ⟨yq, yf, ?_⟩
      intro u u0 u1
      rw [y48]; exact yp u u0 (by omega)
  · exact ⟨rfl, Int.le_refl 0, (by show (0 : Int) ≤ 64; decide), hq, rfl, zFo.rfl' hB, rfl, rfl, fun p a b => by simp only at b; omega⟩
def zdif (A : Int → Int) (σ : mS) : Int := if A 187 < 0 then 0 else σ.1 (σ.1 9 (A 187)) 3
theorem s_differs {D : Int → (Int → Int) → Int} {A : Int → Int} {σ : mS} (hq : zCQ D A σ) : M_Air_differsByHour 46 σ = some (zdif A σ, σ) ∧ (zdif A σ = 0 ∨ zdif A σ = 1) ∧ (zdif A σ = 0 → ∀ s u p i, zWd D A s p i = zWd D A u p i) := by
  obtain ⟨hB, hW, hR, hL, hA⟩ := hq
  have e9 : σ.1 2 9 = A 187 := hR.2.2.2.2.2.1
  have hf := hW.2.2.2.2.2.2.2.2
  have hf6 := hW.2.2.2.2.2.2.2.1
  have eL := e_lawInForce hB (by omega)
  by_cases c : A 187 < 0
  · have z0 : zdif A σ = 0 := by unfold zdif; rw [if_pos c]
    rw [z0]
    refine ⟨?_, Or.inl rfl, fun _ s u p i => by unfold zWd; rw [if_pos c, if_pos c]⟩
    have : wpo (M_Air_differsByHour 46 σ) (fun q => q = (0, σ)) := by
      unfold M_Air_differsByHour
      have c' : σ.1 2 9 < 0 := by omega
      simp (disch := first | assumption | omega) only [wpo_bind, wpo_some, wpo_gf, wpo_gk, wpo_ld, wpo_pf, wpo_pz, wpo_sd, wpo_sr, wpo_ln, wpo_idv, wpo_irm, wpo_lrm, wpo_ldv, wpo_cpy, mlet, mnar_int, mup_same, mup_cell, mup_slot, ite_true, ite_false, true_and, and_true, eq_self, or_true, true_or, and_self, Int.reduceLT, Int.reduceLE, Int.reduceEq, Int.reduceNe, Int.reduceAdd, Int.reduceSub, Int.reduceMul, Int.reduceNeg, ne_eq, not_false_eq_true, not_true_eq_false, false_or, or_false, zor_inl, zor_inr, false_and, and_false, zk1, zk2, zk3, zk4, zk5, zk6, zk7, zk8, zk9, zk10, zk11, zk12, zk13, zk14, zk15, zk16, zk17, zk18, zk19, zk20, zk21, zk22, zk23, zk24, zk25, zk26, zk27, zk28, zk29, zk30, zk31, zk32, zk33, zk34, zk35, zk36, zk37, zk38, zk39, zk40, zk41, zk42, zk43, zk44, zk45, zk46, zk47, zk48, zk49, zk50, zk51, zk52, zk53, zk54, zk55, zk56, zk57, zk58, zk59, zk60, zk61, zk62, zk63, zk64, zk65, zk66, zk67, zk68, zk69, zk70, zk71, zk72, zk73, zk74, zk75, zk76, zk77, zk78, zk79, zk80, zk81, zk82, zk83, zk84, zk85, zk86, zk87, zk88, zk89, zk90, zr2_0, zr2_1, zr2_2, zr2_3, zr2_4, zr2_6, zr2_7, zr2_10, zr2_11, zr2_12, zr1_0, zr1_1, zr14_0, zr14_1, zr14_2, zr14_3, zr14_4, zr14_6, zr14_7, zr14_10, zr14_11, zr14_12, zr13_0, zr25_0, zr25_1, zr25_2, zr25_3, zr25_4, zr25_6, zr25_7, zr25_10, zr25_11, zr25_12, zr13_1, zr1_2, zr37_0, zr1_3, zr39_0, zr39_1, zr39_2, zr39_5, zr39_7, zr39_8, zr1_4, zr46_1, zr46_2, zr46_3, zr46_4, zr46_0, zr1_5, zr51_2, zr51_10, zr51_0, zr51_1, zr54_1, zr54_2, zr54_3, zr1_6, zr58_1, zr58_2, zr58_3, zr58_0, zr1_7, zr62_2, zr62_3, zr62_0, zr62_1, zr1_8, zr1_9, zr1_10, zr1_15, zr68_2, zr68_3, zr68_4, zr68_5, zr68_7, zr68_8, zr68_9, zr68_12, zr68_13, zr68_14, zr68_22, zr68_23, zr68_24, zr68_26, zr68_35, zr68_36, zr68_37, zr68_38, zr68_39, zr68_40, zr68_41, zr68_42, eL, c']
    obtain ⟨y, e, rfl⟩ := this
    exact e
  · have hl := hL (A 187) (by omega) (by omega)
    have e97 : σ.1 (2 + 7) (A 187) = σ.1 9 (A 187) := rfl
    rw [e97] at hl
    have z0 : zdif A σ = σ.1 (σ.1 9 (A 187)) 3 := by unfold zdif; rw [if_neg c]
    have kl := hl.1.2.2.2.1
    have lp : ¬ σ.1 9 (A 187) = 0 := by have := hl.1.1; omega
    have l01 := hl.1.2.2.2.2
    refine ⟨?_, by rw [z0]; exact l01, ?_⟩
    · have : wpo (M_Air_differsByHour 46 σ) (fun q => q = (zdif A σ, σ)) := by
        rw [z0]
        unfold M_Air_differsByHour
        have c' : ¬ σ.1 2 9 < 0 := by omega
        by_cases cc : σ.1 (σ.1 9 (A 187)) 3 = 0
        · simp (disch := first | assumption | omega) only [wpo_bind, wpo_some, wpo_gf, wpo_gk, wpo_ld, wpo_pf, wpo_pz, wpo_sd, wpo_sr, wpo_ln, wpo_idv, wpo_irm, wpo_lrm, wpo_ldv, wpo_cpy, mlet, mnar_int, mup_same, mup_cell, mup_slot, ite_true, ite_false, true_and, and_true, eq_self, or_true, true_or, and_self, Int.reduceLT, Int.reduceLE, Int.reduceEq, Int.reduceNe, Int.reduceAdd, Int.reduceSub, Int.reduceMul, Int.reduceNeg, ne_eq, not_false_eq_true, not_true_eq_false, false_or, or_false, zor_inl, zor_inr, false_and, and_false, zk1, zk2, zk3, zk4, zk5, zk6, zk7, zk8, zk9, zk10, zk11, zk12, zk13, zk14, zk15, zk16, zk17, zk18, zk19, zk20, zk21, zk22, zk23, zk24, zk25, zk26, zk27, zk28, zk29, zk30, zk31, zk32, zk33, zk34, zk35, zk36, zk37, zk38, zk39, zk40, zk41, zk42, zk43, zk44, zk45, zk46, zk47, zk48, zk49, zk50, zk51, zk52, zk53, zk54, zk55, zk56, zk57, zk58, zk59, zk60, zk61, zk62, zk63, zk64, zk65, zk66, zk67, zk68, zk69, zk70, zk71, zk72, zk73, zk74, zk75, zk76, zk77, zk78, zk79, zk80, zk81, zk82, zk83, zk84, zk85, zk86, zk87, zk88, zk89, zk90, zr2_0, zr2_1, zr2_2, zr2_3, zr2_4, zr2_6, zr2_7, zr2_10, zr2_11, zr2_12, zr1_0, zr1_1, zr14_0, zr14_1, zr14_2, zr14_3, zr14_4, zr14_6, zr14_7, zr14_10, zr14_11, zr14_12, zr13_0, zr25_0, zr25_1, zr25_2, zr25_3, zr25_4, zr25_6, zr25_7, zr25_10, zr25_11, zr25_12, zr13_1, zr1_2, zr37_0, zr1_3, zr39_0, zr39_1, zr39_2, zr39_5, zr39_7, zr39_8, zr1_4, zr46_1, zr46_2, zr46_3, zr46_4, zr46_0, zr1_5, zr51_2, zr51_10, zr51_0, zr51_1, zr54_1, zr54_2, zr54_3, zr1_6, zr58_1, zr58_2, zr58_3, zr58_0, zr1_7, zr62_2, zr62_3, zr62_0, zr62_1, zr1_8, zr1_9, zr1_10, zr1_15, zr68_2, zr68_3, zr68_4, zr68_5, zr68_7, zr68_8, zr68_9, zr68_12, zr68_13, zr68_14, zr68_22, zr68_23, zr68_24, zr68_26, zr68_35, zr68_36, zr68_37, zr68_38, zr68_39, zr68_40, zr68_41, zr68_42, eL, c', e9, kl, lp, cc, c]
        · have c1 : σ.1 (σ.1 9 (A 187)) 3 = 1 := by omega
          simp (disch := first | assumption | omega) only [wpo_bind, wpo_some, wpo_gf, wpo_gk, wpo_ld, wpo_pf, wpo_pz, wpo_sd, wpo_sr, wpo_ln, wpo_idv, wpo_irm, wpo_lrm, wpo_ldv, wpo_cpy, mlet, mnar_int, mup_same, mup_cell, mup_slot, ite_true, ite_false, true_and, and_true, eq_self, or_true, true_or, and_self, Int.reduceLT, Int.reduceLE, Int.reduceEq, Int.reduceNe, Int.reduceAdd, Int.reduceSub, Int.reduceMul, Int.reduceNeg, ne_eq, not_false_eq_true, not_true_eq_false, false_or, or_false, zor_inl, zor_inr, false_and, and_false, zk1, zk2, zk3, zk4, zk5, zk6, zk7, zk8, zk9, zk10, zk11, zk12, zk13, zk14, zk15, zk16, zk17, zk18, zk19, zk20, zk21, zk22, zk23, zk24, zk25, zk26, zk27, zk28, zk29, zk30, zk31, zk32, zk33, zk34, zk35, zk36, zk37, zk38, zk39, zk40, zk41, zk42, zk43, zk44, zk45, zk46, zk47, zk48, zk49, zk50, zk51, zk52, zk53, zk54, zk55, zk56, zk57, zk58, zk59, zk60, zk61, zk62, zk63, zk64, zk65, zk66, zk67, zk68, zk69, zk70, zk71, zk72, zk73, zk74, zk75, zk76, zk77, zk78, zk79, zk80, zk81, zk82, zk83, zk84, zk85, zk86, zk87, zk88, zk89, zk90, zr2_0, zr2_1, zr2_2, zr2_3, zr2_4, zr2_6, zr2_7, zr2_10, zr2_11, zr2_12, zr1_0, zr1_1, zr14_0, zr14_1, zr14_2, zr14_3, zr14_4, zr14_6, zr14_7, zr14_10, zr14_11, zr14_12, zr13_0, zr25_0, zr25_1, zr25_2, zr25_3, zr25_4, zr25_6, zr25_7, zr25_10, zr25_11, zr25_12, zr13_1, zr1_2, zr37_0, zr1_3, zr39_0, zr39_1, zr39_2, zr39_5, zr39_7, zr39_8, zr1_4, zr46_1, zr46_2, zr46_3, zr46_4, zr46_0, zr1_5, zr51_2, zr51_10, zr51_0, zr51_1, zr54_1, zr54_2, zr54_3, zr1_6, zr58_1, zr58_2, zr58_3, zr58_0, zr1_7, zr62_2, zr62_3, zr62_0, zr62_1, zr1_8, zr1_9, zr1_10, zr1_15, zr68_2, zr68_3, zr68_4, zr68_5, zr68_7, zr68_8, zr68_9, zr68_12, zr68_13, zr68_14, zr68_22, zr68_23, zr68_24, zr68_26, zr68_35, zr68_36, zr68_37, zr68_38, zr68_39, zr68_40, zr68_41, zr68_42, eL, c', e9, kl, lp, c1, c]
      obtain ⟨y, e, rfl⟩ := this
      exact e
    · intro h0 s u p i
      unfold zWd
      rw [if_neg c, if_neg c]
      refine hl.2.2.1 (by rw [← z0]; exact h0) _ _ ?_
      intro k k0 k5
      unfold zws
      split
      · rfl
      · split
        · rfl
        · split
          · rfl
          · split
            · rfl
            · rw [if_pos (by omega), if_pos (by omega)]
