theorem zRoad_frame {b : Int} {A : Int → Int} {h h' : Int → Int → Int} (H : zRoad b A h) (hc : ∀ r, b ≤ r → r ≤ b + 10 → h' r = h r) : zRoad b A h' := by
  unfold zRoad at H ⊢
  rw [hc b (by omega) (by omega), hc (b + 1) (by omega) (by omega), hc (b + 2) (by omega) (by omega), hc (b + 3) (by omega) (by omega), hc (b + 4) (by omega) (by omega), hc (b + 5) (by omega) (by omega), hc (b + 6) (by omega) (by omega), hc (b + 8) (by omega) (by omega), hc (b + 9) (by omega) (by omega), hc (b + 10) (by omega) (by omega)]
  exact H
theorem zCQ_wr {D : Int → (Int → Int) → Int} {A : Int → Int} {σ σ' : mS} {b : Int} (h : zCQ D A σ) (hb : zHB σ b) (hw : zWr b σ σ') (ha : zAir (zWd D A) σ') : zCQ D A σ' := by
  obtain ⟨hB, hW, hR, hL, hA⟩ := h
  have lo := zHB_low hb
  refine ⟨hw.2.1, hW, zRoad_frame hR ?_, zLaws_wr hL (by decide) hb hw, ha⟩
  intro r r0 r1
  exact hw.2.2 r (by omega) (by omega) (by omega) (by omega)
set_option maxHeartbeats 4000000 in
theorem s_findPull {D : Int → (Int → Int) → Int} {A : Int → Int} {σ : mS} {s p i : Int} (hq : zCQ D A σ) (s0 : 0 ≤ s) (s1 : s < 24) (hn : σ.1 47 s ≠ 0) (ha : σ.1 (σ.1 47 s + 3) p = σ.1 48 p) (p0 : 0 ≤ p) (p1 : p < 64) (i0 : 0 ≤ i) (i1 : i < 32) :
    wpo (M_Air_findPull 46 (σ.1 47 s) p i σ) (fun q => q.1 = zpull (zWd D A s) p i ∧ zWr (σ.1 47 s) σ q.2 ∧ zAir (zWd D A) q.2) := by
  have hB := hq.1
  have hh := zAir_get hq.2.2.2.2 s0 s1 hn
  have lo := zHB_low hh.1
  have j1 : jmax (w32 (i - 1)) 0 = if i - 1 < 0 then 0 else i - 1 := by rw [w32_in (by omega) (by omega)]; rfl
  have j2 : jmin (w32 (i + 1)) 31 = if 31 < i + 1 then 31 else i + 1 := by rw [w32_in (by omega) (by omega)]; rfl
  have e0 : w32 (p * 32) = p * 32 := w32_in (by omega) (by omega)
  have e1 : w32 (w32 (p * 32) + i) = p * 32 + i := by rw [e0]; exact w32_in (by omega) (by omega)
  unfold M_Air_findPull
  simp only [e1, j1, j2]
  simp (disch := first | assumption | omega) only [wpo_bind, wpo_some, wpo_gf, wpo_gk, wpo_ld, wpo_pf, wpo_pz, wpo_sd, wpo_sr, wpo_ln, wpo_idv, wpo_irm, wpo_lrm, wpo_ldv, wpo_cpy, mlet, mnar_int, mup_same, mup_cell, mup_slot, ite_true, ite_false, true_and, and_true, eq_self, or_true, true_or, and_self, Int.reduceLT, Int.reduceLE, Int.reduceEq, Int.reduceNe, Int.reduceAdd, Int.reduceSub, Int.reduceMul, Int.reduceNeg, ne_eq, not_false_eq_true, not_true_eq_false, if_pos, if_neg, false_or, or_false, zor_inl, zor_inr, false_and, and_false, zk1, zk2, zk3, zk4, zk5, zk6, zk7, zk8, zk9, zk10, zk11, zk12, zk13, zk14, zk15, zk16, zk17, zk18, zk19, zk20, zk21, zk22, zk23, zk24, zk25, zk26, zk27, zk28, zk29, zk30, zk31, zk32, zk33, zk34, zk35, zk36, zk37, zk38, zk39, zk40, zk41, zk42, zk43, zk44, zk45, zk46, zk47, zk48, zk49, zk50, zk51, zk52, zk53, zk54, zk55, zk56, zk57, zk58, zk59, zk60, zk61, zk62, zk63, zk64, zk65, zk66, zk67, zk68, zk69, zk70, zk71, zk72, zk73, zk74, zk75, zk76, zk77, zk78, zk79, zk80, zk81, zk82, zk83, zk84, zk85, zk86, zk87, zk88, zk89, zk90, zr2_0, zr2_1, zr2_2, zr2_3, zr2_4, zr2_6, zr2_7, zr2_10, zr2_11, zr2_12, zr1_0, zr1_1, zr14_0, zr14_1, zr14_2, zr14_3, zr14_4, zr14_6, zr14_7, zr14_10, zr14_11, zr14_12, zr13_0, zr25_0, zr25_1, zr25_2, zr25_3, zr25_4, zr25_6, zr25_7, zr25_10, zr25_11, zr25_12, zr13_1, zr1_2, zr37_0, zr1_3, zr39_0, zr39_1, zr39_2, zr39_5, zr39_7, zr39_8, zr1_4, zr46_1, zr46_2, zr46_3, zr46_4, zr46_0, zr1_5, zr51_2, zr51_10, zr51_0, zr51_1, zr54_1, zr54_2, zr54_3, zr1_6, zr58_1, zr58_2, zr58_3, zr58_0, zr1_7, zr62_2, zr62_3, zr62_0, zr62_1, zr1_8, zr1_9, zr1_10, zr1_15, zr68_2, zr68_3, zr68_4, zr68_5, zr68_7, zr68_8, zr68_9, zr68_12, zr68_13, zr68_14, zr68_22, zr68_23, zr68_24, zr68_26, zr68_35, zr68_36, zr68_37, zr68_38, zr68_39, zr68_40, zr68_41, zr68_42]
  refine wpo_mono (s_warmth (i := if i - 1 < 0 then 0 else i - 1) hq s0 s1 hn ha p0 p1 (by split <;> omega) (by split <;> omega)) ?_
  intro q hq1
  obtain ⟨v1, w1, a1⟩ := hq1
  have f47 : q.2.1 47 = σ.1 47 := w1.2.2 47 (by decide) (by decide) (by omega) (by omega)
  have f48 : q.2.1 48 = σ.1 48 := w1.2.2 48 (by decide) (by decide) (by omega) (by omega)
  have f3 : q.2.1 (σ.1 47 s + 3) = σ.1 (σ.1 47 s + 3) := w1.2.2 _ (by omega) (by omega) (by omega) (by omega)
  have q2 := zCQ_wr hq hh.1 w1 a1
  have hB1 := q2.1
  simp (disch := first | assumption | omega) only [wpo_bind, wpo_some, wpo_gf, wpo_gk, wpo_ld, wpo_pf, wpo_pz, wpo_sd, wpo_sr, wpo_ln, wpo_idv, wpo_irm, wpo_lrm, wpo_ldv, wpo_cpy, mlet, mnar_int, mup_same, mup_cell, mup_slot, ite_true, ite_false, true_and, and_true, eq_self, or_true, true_or, and_self, Int.reduceLT, Int.reduceLE, Int.reduceEq, Int.reduceNe, Int.reduceAdd, Int.reduceSub, Int.reduceMul, Int.reduceNeg, ne_eq, not_false_eq_true, not_true_eq_false, if_pos, if_neg, false_or, or_false, zor_inl, zor_inr, false_and, and_false, zk1, zk2, zk3, zk4, zk5, zk6, zk7, zk8, zk9, zk10, zk11, zk12, zk13, zk14, zk15, zk16, zk17, zk18, zk19, zk20, zk21, zk22, zk23, zk24, zk25, zk26, zk27, zk28, zk29, zk30, zk31, zk32, zk33, zk34, zk35, zk36, zk37, zk38, zk39, zk40, zk41, zk42, zk43, zk44, zk45, zk46, zk47, zk48, zk49, zk50, zk51, zk52, zk53, zk54, zk55, zk56, zk57, zk58, zk59, zk60, zk61, zk62, zk63, zk64, zk65, zk66, zk67, zk68, zk69, zk70, zk71, zk72, zk73, zk74, zk75, zk76, zk77, zk78, zk79, zk80, zk81, zk82, zk83, zk84, zk85, zk86, zk87, zk88, zk89, zk90, zr2_0, zr2_1, zr2_2, zr2_3, zr2_4, zr2_6, zr2_7, zr2_10, zr2_11, zr2_12, zr1_0, zr1_1, zr14_0, zr14_1, zr14_2, zr14_3, zr14_4, zr14_6, zr14_7, zr14_10, zr14_11, zr14_12, zr13_0, zr25_0, zr25_1, zr25_2, zr25_3, zr25_4, zr25_6, zr25_7, zr25_10, zr25_11, zr25_12, zr13_1, zr1_2, zr37_0, zr1_3, zr39_0, zr39_1, zr39_2, zr39_5, zr39_7, zr39_8, zr1_4, zr46_1, zr46_2, zr46_3, zr46_4, zr46_0, zr1_5, zr51_2, zr51_10, zr51_0, zr51_1, zr54_1, zr54_2, zr54_3, zr1_6, zr58_1, zr58_2, zr58_3, zr58_0, zr1_7, zr62_2, zr62_3, zr62_0, zr62_1, zr1_8, zr1_9, zr1_10, zr1_15, zr68_2, zr68_3, zr68_4, zr68_5, zr68_7, zr68_8, zr68_9, zr68_12, zr68_13, zr68_14, zr68_22, zr68_23, zr68_24, zr68_26, zr68_35, zr68_36, zr68_37, zr68_38, zr68_39, zr68_40, zr68_41, zr68_42]
  have sp := s_warmth (s := s) (p := p) (i := if 31 < i + 1 then 31 else i + 1) q2 s0 s1 (by rw [f47]; exact hn) (by rw [f47, f3, f48]; exact ha) p0 p1 (by split <;> omega) (by split <;> omega)
  rw [f47] at sp
  refine wpo_mono sp ?_
  intro q' hq2
  obtain ⟨v2, w2, a2⟩ := hq2
  have w12 := w1.trans w2
  have fb : q'.2.1 (σ.1 47 s) = σ.1 (σ.1 47 s) := w12.2.2 _ (by omega) (by omega) (by omega) (by omega)
  have g47 : q'.2.1 47 = σ.1 47 := w12.2.2 47 (by decide) (by decide) (by omega) (by omega)
  have kb : q'.2.2.1 (σ.1 47 s) = (3, 4) := by rw [w12.1]; exact hh.1.2.2.1
  have kb2 : q'.2.2.1 (σ.1 47 s + 2) = (100, 2048) := by rw [w12.1]; exact hh.1.2.2.2.2.1
  have rb : q'.2.1 (σ.1 47 s) 2 = σ.1 47 s + 2 := by rw [fb]; exact hh.1.2.2.2.2.2.2.2.1
  have c0 : 0 ≤ p * 32 + i := by omega
  have c1 : p * 32 + i < 2048 := by omega
  have bp : 0 < σ.1 47 s + 2 := by omega
  have b1 := zWd_bd hq.2.1 hq.2.2.2.1 s p (if i - 1 < 0 then 0 else i - 1)
  have b2 := zWd_bd hq.2.1 hq.2.2.2.1 s p (if 31 < i + 1 then 31 else i + 1)
  have ev : w32 (q.1 - q'.1) = zpull (zWd D A s) p i := by rw [v1, v2]; exact w32_in (by omega) (by omega)
  simp only [ev]
  simp (disch := first | assumption | omega) only [wpo_bind, wpo_some, wpo_gf, wpo_gk, wpo_ld, wpo_pf, wpo_pz, wpo_sd, wpo_sr, wpo_ln, wpo_idv, wpo_irm, wpo_lrm, wpo_ldv, wpo_cpy, mlet, mnar_int, mup_same, mup_cell, mup_slot, ite_true, ite_false, true_and, and_true, eq_self, or_true, true_or, and_self, Int.reduceLT, Int.reduceLE, Int.reduceEq, Int.reduceNe, Int.reduceAdd, Int.reduceSub, Int.reduceMul, Int.reduceNeg, ne_eq, not_false_eq_true, not_true_eq_false, if_pos, if_neg, false_or, or_false, zor_inl, zor_inr, false_and, and_false, zk1, zk2, zk3, zk4, zk5, zk6, zk7, zk8, zk9, zk10, zk11, zk12, zk13, zk14, zk15, zk16, zk17, zk18, zk19, zk20, zk21, zk22, zk23, zk24, zk25, zk26, zk27, zk28, zk29, zk30, zk31, zk32, zk33, zk34, zk35, zk36, zk37, zk38, zk39, zk40, zk41, zk42, zk43, zk44, zk45, zk46, zk47, zk48, zk49, zk50, zk51, zk52, zk53, zk54, zk55, zk56, zk57, zk58, zk59, zk60, zk61, zk62, zk63, zk64, zk65, zk66, zk67, zk68, zk69, zk70, zk71, zk72, zk73, zk74, zk75, zk76, zk77, zk78, zk79, zk80, zk81, zk82, zk83, zk84, zk85, zk86, zk87, zk88, zk89, zk90, zr2_0, zr2_1, zr2_2, zr2_3, zr2_4, zr2_6, zr2_7, zr2_10, zr2_11, zr2_12, zr1_0, zr1_1, zr14_0, zr14_1, zr14_2, zr14_3, zr14_4, zr14_6, zr14_7, zr14_10, zr14_11, zr14_12, zr13_0, zr25_0, zr25_1, zr25_2, zr25_3, zr25_4, zr25_6, zr25_7, zr25_10, zr25_11, zr25_12, zr13_1, zr1_2, zr37_0, zr1_3, zr39_0, zr39_1, zr39_2, zr39_5, zr39_7, zr39_8, zr1_4, zr46_1, zr46_2, zr46_3, zr46_4, zr46_0, zr1_5, zr51_2, zr51_10, zr51_0, zr51_1, zr54_1, zr54_2, zr54_3, zr1_6, zr58_1, zr58_2, zr58_3, zr58_0, zr1_7, zr62_2, zr62_3, zr62_0, zr62_1, zr1_8, zr1_9, zr1_10, zr1_15, zr68_2, zr68_3, zr68_4, zr68_5, zr68_7, zr68_8, zr68_9, zr68_12, zr68_13, zr68_14, zr68_22, zr68_23, zr68_24, zr68_26, zr68_35, zr68_36, zr68_37, zr68_38, zr68_39, zr68_40, zr68_41, zr68_42, kb, kb2, rb, c0, c1, bp]
  refine ⟨⟨w12.1, zB_mup w2.2.1 (zHB_ok hh.1 (by decide) (by decide)), ?_⟩, ?_⟩
  · intro r x1 x2 x3 x4
    show mup q'.2.1 (σ.1 47 s + 2) _ _ r = _
    rw [mup_fun x4]; exact w12.2.2 r x1 x2 x3 x4
  · have := zAir_p (p := p) (i := i) a2 s0 s1 (by rw [g47]; exact hn) p0 p1 i0 i1
    rw [g47] at this
    exact this
