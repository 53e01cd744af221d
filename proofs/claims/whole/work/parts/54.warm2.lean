/-! WARMTH and PULL of the developers' program -/
theorem zWd_bd {D : Int → (Int → Int) → Int} {A : Int → Int} {σ : mS} (hw : zWF A) (hl : zLaws σ 2 A D) (s p i : Int) : -50 ≤ zWd D A s p i ∧ zWd D A s p i ≤ 99 := by
  unfold zWd
  by_cases c : A 187 < 0
  · rw [if_pos c]; omega
  · rw [if_neg c]
    have e := hw.2.2.2.2.2.2.2.2
    exact (hl (A 187) (by omega) (by omega)).2.1 _
set_option maxHeartbeats 4000000 in
theorem s_warmth {D : Int → (Int → Int) → Int} {A : Int → Int} {σ : mS} {s p i : Int} (hq : zCQ D A σ) (s0 : 0 ≤ s) (s1 : s < 24) (hn : σ.1 47 s ≠ 0) (ha : σ.1 (σ.1 47 s + 3) p = σ.1 48 p) (p0 : 0 ≤ p) (p1 : p < 64) (i0 : 0 ≤ i) (i1 : i < 32) :
    wpo (M_Air_warmth 46 (σ.1 47 s) p i σ) (fun q => q.1 = zWd D A s p i ∧ zWr (σ.1 47 s) σ q.2 ∧ zAir (zWd D A) q.2) := by
  obtain ⟨hB, hW, hR, hL, hA⟩ := hq
  have hh := zAir_get hA s0 s1 hn
  generalize eb : σ.1 47 s = b at *
  have lo := zHB_low hh.1
  have hcell := (hh.2.2 p p0 p1).2 ha i i0 i1
  have kb := hh.1.2.2.1
  have kb1 := hh.1.2.2.2.1
  have rb1 := hh.1.2.2.2.2.2.2.1
  have hour := hh.2.1
  have bpos : 0 < b + 1 := by omega
  have e0 : w32 (p * 32) = p * 32 := w32_in (by omega) (by omega)
  have e1 : w32 (w32 (p * 32) + i) = p * 32 + i := by rw [e0]; exact w32_in (by omega) (by omega)
  have c0 : 0 ≤ p * 32 + i := by omega
  have c1 : p * 32 + i < 2048 := by omega
  have hrise := hR.1 p p0 p1
  have hwf := hW.1 p p0 p1
  have e9 : σ.1 2 9 = A 187 := hR.2.2.2.2.2.1
  have hf := hW.2.2.2.2.2.2.2.2
  have hf6 := hW.2.2.2.2.2.2.2.1
  by_cases c : σ.1 (b + 1) (p * 32 + i) = -1000000
  · have eL := e_lawInForce hB (by omega)
    have r3 : σ.1 3 p = A p := hrise.1
    have r4 : σ.1 4 p = A (64 + p) := hrise.2.1
    have eO := e_layOut (s := s) (i := i) hB p0 p1 (by omega)
    rw [r3, r4] at eO
    generalize eσ1 : ((mup (mup (mup (mup (mup (mup σ.1 49 0 i) 49 1 (i - A p)) 49 2 p) 49 3 (A (64 + p))) 49 4 (A p)) 49 5 s, σ.2) : mS) = σ1 at eO
    have f1 : ∀ r, r ≠ 49 → σ1.1 r = σ.1 r := by
      intro r hr
      rw [← eσ1]
      show mup _ _ _ _ r = _
      rw [mup_fun hr, mup_fun hr, mup_fun hr, mup_fun hr, mup_fun hr, mup_fun hr]
    have f2 : σ1.2 = σ.2 := by rw [← eσ1]
    have hB1 : zB σ1 := zB_core hB (fun r _ => by rw [f2]) (fun r hr => f1 r (fun e => by rw [e] at hr; exact absurd hr (by decide)))
    have fb : σ1.1 b = σ.1 b := f1 b (by omega)
    have fb1 : σ1.1 (b + 1) = σ.1 (b + 1) := f1 _ (by omega)
    have wds : ∀ k, 0 ≤ k → k < 6 → σ1.1 49 k = zws i (A p) p (A (64 + p)) s k ∧ -1000 ≤ zws i (A p) p (A (64 + p)) s k ∧ zws i (A p) p (A (64 + p)) s k ≤ 1000 := by
      intro k k0 k1
      have hk : k = 0 ∨ k = 1 ∨ k = 2 ∨ k = 3 ∨ k = 4 ∨ k = 5 := by omega
      rw [← eσ1]
      rcases hk with e | e | e | e | e | e <;> subst e <;> simp [mup, zws] <;> omega
    have hA1 : zAir (zWd D A) σ1 := by
      refine zAir_frame hA f2 (f1 47 (by decide)) (f1 48 (by decide)) ?_
      intro u u0 u1 un
      have hu := zAir_get hA u0 u1 un
      have lo' := zHB_low hu.1
      refine ⟨f1 _ (by omega), f1 _ (by omega), ?_⟩
      intro q _ _ _ hc k k0 k1
      rw [f1 _ (by omega), f1 _ (by omega)]
      exact hc k k0 k1
    -- the end: a right value is written, and read
    have fin : ∀ (σ2 : mS) (v : Int), v = zWd D A s p i → σ2.2 = σ.2 → (∀ r, r ≠ 49 → r ≠ 50 → σ2.1 r = σ.1 r) → zB σ2 → wpo (M_Air_warmth_34 b (p * 32 + i) v (p * 32 + i) (b + 1) σ2) (fun q => q.1 = zWd D A s p i ∧ zWr b σ q.2 ∧ zAir (zWd D A) q.2) := by
      intro σ2 v ev e2 ef hB2
      have g0 : σ2.1 b = σ.1 b := ef b (by omega) (by omega)
      have k0 : σ2.2.1 b = (3, 4) := by rw [e2]; exact kb
      have k1 : σ2.2.1 (b + 1) = (100, 2048) := by rw [e2]; exact kb1
      have r1 : σ2.1 b 1 = b + 1 := by rw [g0]; exact rb1
      have ne : b ≠ b + 1 := by omega
      have g47 : σ2.1 47 = σ.1 47 := ef 47 (by decide) (by decide)
      unfold M_Air_warmth_34
      simp (disch := first | assumption | omega) only [wpo_bind, wpo_some, wpo_gf, wpo_gk, wpo_ld, wpo_pf, wpo_pz, wpo_sd, wpo_sr, wpo_ln, wpo_idv, wpo_irm, wpo_lrm, wpo_ldv, wpo_cpy, mlet, mnar_int, mup_same, mup_cell, mup_slot, ite_true, ite_false, true_and, and_true, eq_self, or_true, true_or, and_self, Int.reduceLT, Int.reduceLE, Int.reduceEq, Int.reduceNe, Int.reduceAdd, Int.reduceSub, Int.reduceMul, Int.reduceNeg, ne_eq, not_false_eq_true, not_true_eq_false, if_pos, if_neg, false_or, or_false, zor_inl, zor_inr, false_and, and_false, zk1, zk2, zk3, zk4, zk5, zk6, zk7, zk8, zk9, zk10, zk11, zk12, zk13, zk14, zk15, zk16, zk17, zk18, zk19, zk20, zk21, zk22, zk23, zk24, zk25, zk26, zk27, zk28, zk29, zk30, zk31, zk32, zk33, zk34, zk35, zk36, zk37, zk38, zk39, zk40, zk41, zk42, zk43, zk44, zk45, zk46, zk47, zk48, zk49, zk50, zk51, zk52, zk53, zk54, zk55, zk56, zk57, zk58, zk59, zk60, zk61, zk62, zk63, zk64, zk65, zk66, zk67, zk68, zk69, zk70, zk71, zk72, zk73, zk74, zk75, zk76, zk77, zk78, zk79, zk80, zk81, zk82, zk83, zk84, zk85, zk86, zk87, zk88, zk89, zk90, zr2_0, zr2_1, zr2_2, zr2_3, zr2_4, zr2_6, zr2_7, zr2_10, zr2_11, zr2_12, zr1_0, zr1_1, zr14_0, zr14_1, zr14_2, zr14_3, zr14_4, zr14_6, zr14_7, zr14_10, zr14_11, zr14_12, zr13_0, zr25_0, zr25_1, zr25_2, zr25_3, zr25_4, zr25_6, zr25_7, zr25_10, zr25_11, zr25_12, zr13_1, zr1_2, zr37_0, zr1_3, zr39_0, zr39_1, zr39_2, zr39_5, zr39_7, zr39_8, zr1_4, zr46_1, zr46_2, zr46_3, zr46_4, zr46_0, zr1_5, zr51_2, zr51_10, zr51_0, zr51_1, zr54_1, zr54_2, zr54_3, zr1_6, zr58_1, zr58_2, zr58_3, zr58_0, zr1_7, zr62_2, zr62_3, zr62_0, zr62_1, zr1_8, zr1_9, zr1_10, zr1_15, zr68_2, zr68_3, zr68_4, zr68_5, zr68_7, zr68_8, zr68_9, zr68_12, zr68_13, zr68_14, zr68_22, zr68_23, zr68_24, zr68_26, zr68_35, zr68_36, zr68_37, zr68_38, zr68_39, zr68_40, zr68_41, zr68_42, k0, k1, r1, c0, c1, bpos]
      refine ⟨ev, ⟨e2, ?_, ?_⟩, ?_⟩
      · exact zB_mup hB2 (zHB_ok hh.1 (by decide) (by decide))
      · intro r a1 a2 a3 _
        show mup σ2.1 (b + 1) (p * 32 + i) v r = σ.1 r
        rw [mup_fun a3]; exact ef r a1 a2
      · have hA2 : zAir (zWd D A) σ2 := by
          refine zAir_frame hA e2 g47 (ef 48 (by decide) (by decide)) ?_
          intro u u0 u1 un
          have hu := zAir_get hA u0 u1 un
          have lo' := zHB_low hu.1
          refine ⟨ef _ (by omega) (by omega), ef _ (by omega) (by omega), ?_⟩
          intro q _ _ _ hc k k0 k1
          rw [ef _ (by omega) (by omega), ef _ (by omega) (by omega)]
          exact hc k k0 k1
        have := zAir_w (p := p) (i := i) hA2 s0 s1 (by rw [g47, eb]; exact hn) p0 p1 i0 i1
        rw [g47, eb] at this
        rw [ev]
        exact this
    have kb' : σ1.2.1 b = (3, 4) := by rw [f2]; exact kb
    have rb' : σ1.1 b 1 = b + 1 := by rw [fb]; exact rb1
    unfold M_Air_warmth
    simp only [e1]
    simp (disch := first | assumption | omega) only [wpo_bind, wpo_some, wpo_gf, wpo_gk, wpo_ld, wpo_pf, wpo_pz, wpo_sd, wpo_sr, wpo_ln, wpo_idv, wpo_irm, wpo_lrm, wpo_ldv, wpo_cpy, mlet, mnar_int, mup_same, mup_cell, mup_slot, ite_true, ite_false, true_and, and_true, eq_self, or_true, true_or, and_self, Int.reduceLT, Int.reduceLE, Int.reduceEq, Int.reduceNe, Int.reduceAdd, Int.reduceSub, Int.reduceMul, Int.reduceNeg, ne_eq, not_false_eq_true, not_true_eq_false, if_pos, if_neg, false_or, or_false, zor_inl, zor_inr, false_and, and_false, zk1, zk2, zk3, zk4, zk5, zk6, zk7, zk8, zk9, zk10, zk11, zk12, zk13, zk14, zk15, zk16, zk17, zk18, zk19, zk20, zk21, zk22, zk23, zk24, zk25, zk26, zk27, zk28, zk29, zk30, zk31, zk32, zk33, zk34, zk35, zk36, zk37, zk38, zk39, zk40, zk41, zk42, zk43, zk44, zk45, zk46, zk47, zk48, zk49, zk50, zk51, zk52, zk53, zk54, zk55, zk56, zk57, zk58, zk59, zk60, zk61, zk62, zk63, zk64, zk65, zk66, zk67, zk68, zk69, zk70, zk71, zk72, zk73, zk74, zk75, zk76, zk77, zk78, zk79, zk80, zk81, zk82, zk83, zk84, zk85, zk86, zk87, zk88, zk89, zk90, zr2_0, zr2_1, zr2_2, zr2_3, zr2_4, zr2_6, zr2_7, zr2_10, zr2_11, zr2_12, zr1_0, zr1_1, zr14_0, zr14_1, zr14_2, zr14_3, zr14_4, zr14_6, zr14_7, zr14_10, zr14_11, zr14_12, zr13_0, zr25_0, zr25_1, zr25_2, zr25_3, zr25_4, zr25_6, zr25_7, zr25_10, zr25_11, zr25_12, zr13_1, zr1_2, zr37_0, zr1_3, zr39_0, zr39_1, zr39_2, zr39_5, zr39_7, zr39_8, zr1_4, zr46_1, zr46_2, zr46_3, zr46_4, zr46_0, zr1_5, zr51_2, zr51_10, zr51_0, zr51_1, zr54_1, zr54_2, zr54_3, zr1_6, zr58_1, zr58_2, zr58_3, zr58_0, zr1_7, zr62_2, zr62_3, zr62_0, zr62_1, zr1_8, zr1_9, zr1_10, zr1_15, zr68_2, zr68_3, zr68_4, zr68_5, zr68_7, zr68_8, zr68_9, zr68_12, zr68_13, zr68_14, zr68_22, zr68_23, zr68_24, zr68_26, zr68_35, zr68_36, zr68_37, zr68_38, zr68_39, zr68_40, zr68_41, zr68_42, kb, rb1, kb1, c0, c1, c, eL, hour, eO, kb', rb']
    by_cases cf : σ.1 2 9 < 0
    · rw [if_pos cf, if_pos rfl]
      refine fin σ1 10 ?_ f2 (fun r a _ => f1 r a) hB1
      unfold zWd; rw [if_pos (by omega)]
    · rw [if_neg cf]
      have hl := hL (A 187) (by omega) (by omega)
      have e97 : σ.1 (2 + 7) (A 187) = σ.1 9 (σ.1 2 9) := by rw [e9]; rfl
      rw [e97] at hl
      have lpos := hl.1.1
      rw [if_neg (by omega)]
      have kl : σ1.2.1 (σ.1 9 (σ.1 2 9)) = (4, 4) := by rw [f2]; exact hl.1.2.2.2.1
      simp (disch := first | assumption | omega) only [wpo_bind, wpo_some, wpo_gf, wpo_gk, wpo_ld, wpo_pf, wpo_pz, wpo_sd, wpo_sr, wpo_ln, wpo_idv, wpo_irm, wpo_lrm, wpo_ldv, wpo_cpy, mlet, mnar_int, mup_same, mup_cell, mup_slot, ite_true, ite_false, true_and, and_true, eq_self, or_true, true_or, and_self, Int.reduceLT, Int.reduceLE, Int.reduceEq, Int.reduceNe, Int.reduceAdd, Int.reduceSub, Int.reduceMul, Int.reduceNeg, ne_eq, not_false_eq_true, not_true_eq_false, if_pos, if_neg, false_or, or_false, zor_inl, zor_inr, false_and, and_false, zk1, zk2, zk3, zk4, zk5, zk6, zk7, zk8, zk9, zk10, zk11, zk12, zk13, zk14, zk15, zk16, zk17, zk18, zk19, zk20, zk21, zk22, zk23, zk24, zk25, zk26, zk27, zk28, zk29, zk30, zk31, zk32, zk33, zk34, zk35, zk36, zk37, zk38, zk39, zk40, zk41, zk42, zk43, zk44, zk45, zk46, zk47, zk48, zk49, zk50, zk51, zk52, zk53, zk54, zk55, zk56, zk57, zk58, zk59, zk60, zk61, zk62, zk63, zk64, zk65, zk66, zk67, zk68, zk69, zk70, zk71, zk72, zk73, zk74, zk75, zk76, zk77, zk78, zk79, zk80, zk81, zk82, zk83, zk84, zk85, zk86, zk87, zk88, zk89, zk90, zr2_0, zr2_1, zr2_2, zr2_3, zr2_4, zr2_6, zr2_7, zr2_10, zr2_11, zr2_12, zr1_0, zr1_1, zr14_0, zr14_1, zr14_2, zr14_3, zr14_4, zr14_6, zr14_7, zr14_10, zr14_11, zr14_12, zr13_0, zr25_0, zr25_1, zr25_2, zr25_3, zr25_4, zr25_6, zr25_7, zr25_10, zr25_11, zr25_12, zr13_1, zr1_2, zr37_0, zr1_3, zr39_0, zr39_1, zr39_2, zr39_5, zr39_7, zr39_8, zr1_4, zr46_1, zr46_2, zr46_3, zr46_4, zr46_0, zr1_5, zr51_2, zr51_10, zr51_0, zr51_1, zr54_1, zr54_2, zr54_3, zr1_6, zr58_1, zr58_2, zr58_3, zr58_0, zr1_7, zr62_2, zr62_3, zr62_0, zr62_1, zr1_8, zr1_9, zr1_10, zr1_15, zr68_2, zr68_3, zr68_4, zr68_5, zr68_7, zr68_8, zr68_9, zr68_12, zr68_13, zr68_14, zr68_22, zr68_23, zr68_24, zr68_26, zr68_35, zr68_36, zr68_37, zr68_38, zr68_39, zr68_40, zr68_41, zr68_42, kl]
      have tl := hl.2.2.2 σ1 hB1 (fun j j0 j3 => ⟨f1 _ (by omega), by rw [f2]⟩) _ wds
      refine wpo_mono tl ?_
      intro q hq
      obtain ⟨q1, q2, q3⟩ := hq
      refine fin q.2 q.1 ?_ (q2.trans f2) (fun r a1 a2 => (q3 r a2).trans (f1 r a1)) ?_
      · rw [q1]; unfold zWd; rw [if_neg (by omega)]
      · exact zB_core hB1 (fun r _ => by rw [q2]) (fun r hr => q3 r (fun e => by rw [e] at hr; exact absurd hr (by decide)))
  · unfold M_Air_warmth
    simp only [e1]
    simp (disch := first | assumption | omega) only [wpo_bind, wpo_some, wpo_gf, wpo_gk, wpo_ld, wpo_pf, wpo_pz, wpo_sd, wpo_sr, wpo_ln, wpo_idv, wpo_irm, wpo_lrm, wpo_ldv, wpo_cpy, mlet, mnar_int, mup_same, mup_cell, mup_slot, ite_true, ite_false, true_and, and_true, eq_self, or_true, true_or, and_self, Int.reduceLT, Int.reduceLE, Int.reduceEq, Int.reduceNe, Int.reduceAdd, Int.reduceSub, Int.reduceMul, Int.reduceNeg, ne_eq, not_false_eq_true, not_true_eq_false, if_pos, if_neg, false_or, or_false, zor_inl, zor_inr, false_and, and_false, zk1, zk2, zk3, zk4, zk5, zk6, zk7, zk8, zk9, zk10, zk11, zk12, zk13, zk14, zk15, zk16, zk17, zk18, zk19, zk20, zk21, zk22, zk23, zk24, zk25, zk26, zk27, zk28, zk29, zk30, zk31, zk32, zk33, zk34, zk35, zk36, zk37, zk38, zk39, zk40, zk41, zk42, zk43, zk44, zk45, zk46, zk47, zk48, zk49, zk50, zk51, zk52, zk53, zk54, zk55, zk56, zk57, zk58, zk59, zk60, zk61, zk62, zk63, zk64, zk65, zk66, zk67, zk68, zk69, zk70, zk71, zk72, zk73, zk74, zk75, zk76, zk77, zk78, zk79, zk80, zk81, zk82, zk83, zk84, zk85, zk86, zk87, zk88, zk89, zk90, zr2_0, zr2_1, zr2_2, zr2_3, zr2_4, zr2_6, zr2_7, zr2_10, zr2_11, zr2_12, zr1_0, zr1_1, zr14_0, zr14_1, zr14_2, zr14_3, zr14_4, zr14_6, zr14_7, zr14_10, zr14_11, zr14_12, zr13_0, zr25_0, zr25_1, zr25_2, zr25_3, zr25_4, zr25_6, zr25_7, zr25_10, zr25_11, zr25_12, zr13_1, zr1_2, zr37_0, zr1_3, zr39_0, zr39_1, zr39_2, zr39_5, zr39_7, zr39_8, zr1_4, zr46_1, zr46_2, zr46_3, zr46_4, zr46_0, zr1_5, zr51_2, zr51_10, zr51_0, zr51_1, zr54_1, zr54_2, zr54_3, zr1_6, zr58_1, zr58_2, zr58_3, zr58_0, zr1_7, zr62_2, zr62_3, zr62_0, zr62_1, zr1_8, zr1_9, zr1_10, zr1_15, zr68_2, zr68_3, zr68_4, zr68_5, zr68_7, zr68_8, zr68_9, zr68_12, zr68_13, zr68_14, zr68_22, zr68_23, zr68_24, zr68_26, zr68_35, zr68_36, zr68_37, zr68_38, zr68_39, zr68_40, zr68_41, zr68_42, kb, rb1, kb1, c0, c1, c]
    refine ⟨?_, zWr.rfl' hB, hA⟩
    rcases hcell.1 with e | e
    · exact absurd e c
    · exact e
