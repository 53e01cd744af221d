/-! MOVE -/
theorem zWF_mv {A : Int → Int} {t p : Int} (hW : zWF A) (ht : 0 ≤ t ∧ t < A 184) (hp : 0 ≤ p ∧ p ≤ 63) (hz : ztA A p = -1 ∨ ztA A p = t) : zWF (zset A (128 + t) p) := by
  have hW0 := hW
  obtain ⟨w1, w2, w3, w4, w5, w6, w7, w8, w9⟩ := hW
  have o : ∀ j, (j < 128 ∨ 136 ≤ j) → zset A (128 + t) p j = A j := fun j a => zset_ne (by omega)
  have e184 := o 184 (by omega)
  have ev : ∀ u, zset A (128 + t) p (128 + u) = if u = t then p else A (128 + u) := fun u => by
    by_cases c : u = t
    · rw [c, zset_same, if_pos rfl]
    · rw [zset_ne (by omega), if_neg c]
  have nn : ∀ u, 0 ≤ u → u < A 184 → A (128 + u) = p → u = t := fun u u0 u1 e => by
    have := ztA_uni hW0 u0 u1 e
    omega
  refine ⟨fun j j0 j1 => by rw [o j (by omega), o (64 + j) (by omega)]; exact w1 j j0 j1, by rw [e184]; exact w2, fun u u0 u1 => ?_, fun u v u0 u1 v0 v1 e => ?_, by rw [o 180 (by omega), o 181 (by omega), o 182 (by omega), o 183 (by omega)]; exact w5, by rw [o 185 (by omega)]; exact w6, fun j j0 j1 => ?_, by rw [o 186 (by omega)]; exact w8, by rw [o 186 (by omega), o 187 (by omega)]; exact w9⟩
  · rw [e184] at u1
    rw [ev, o (136 + u) (by omega)]
    have := w3 u u0 u1
    split <;> omega
  · rw [e184] at u1 v1
    rw [ev, ev] at e
    by_cases c : u = t
    · by_cases d : v = t
      · omega
      · rw [if_pos c, if_neg d] at e
        exact absurd (nn v v0 v1 e.symm) d
    · by_cases d : v = t
      · rw [if_neg c, if_pos d] at e
        exact absurd (nn u u0 u1 e) c
      · rw [if_neg c, if_neg d] at e
        exact w4 u v u0 u1 v0 v1 e
  · rw [o 185 (by omega)] at j1
    rw [o _ (by omega), o (145 + 3 * j) (by omega), o (146 + 3 * j) (by omega), e184]
    exact w7 j j0 j1
theorem ztA_mv {A : Int → Int} {t p j : Int} (hW : zWF A) (ht : 0 ≤ t ∧ t < A 184) (hp : 0 ≤ p ∧ p ≤ 63) (hz : ztA A p = -1 ∨ ztA A p = t) : ztA (zset A (128 + t) p) j = if j = p then t else if j = A (128 + t) then -1 else ztA A j := by
  have hW' := zWF_mv hW ht hp hz
  have n8 := hW.2.1
  have e184 : zset A (128 + t) p 184 = A 184 := zset_ne (by omega)
  have ev : ∀ u, zset A (128 + t) p (128 + u) = if u = t then p else A (128 + u) := fun u => by
    by_cases c : u = t
    · rw [c, zset_same, if_pos rfl]
    · rw [zset_ne (by omega), if_neg c]
  by_cases c : j = p
  · rw [if_pos c]
    exact ztA_uni hW' ht.1 (by rw [e184]; exact ht.2) (by rw [zset_same]; exact c.symm)
  · rw [if_neg c]
    by_cases d : j = A (128 + t)
    · rw [if_pos d]
      refine ztA_eq_none (fun u u0 u1 => ?_)
      rw [e184] at u1
      rw [ev]
      by_cases e : u = t
      · rw [if_pos e]; exact fun x => c x.symm
      · rw [if_neg e]; exact fun x => e (hW.2.2.2.1 u t u0 u1 ht.1 ht.2 (x.trans d))
    · rw [if_neg d]
      by_cases f : ztA A j = -1
      · rw [f]
        have nn := ztA_none f
        refine ztA_eq_none (fun u u0 u1 => ?_)
        rw [e184] at u1
        rw [ev]
        by_cases e : u = t
        · rw [if_pos e]; exact fun x => c x.symm
        · rw [if_neg e]; exact nn u u0 u1
      · obtain ⟨a, b, e⟩ := ztA_some f
        exact ztA_uni hW' a (by rw [e184]; exact b) (by rw [ev, if_neg (fun x => d (by rw [← e, x]))]; exact e)
set_option maxHeartbeats 4000000 in
theorem s_move (k : Nat) (hk : k ≤ 1000) (t p : Int) : zStp k (M_RW_move 1 t p) (M_Mo_move 68 t p) := by
  intro D A σ hI
  have hB := hI.1.1.1
  have hW := hI.1.1.2.1
  have hR := hI.1.1.2.2.1
  have h70 := hI.2.1.2.2.2.1
  have vk := hI.2.1.2.2.2.2.2.1
  have n10 : ¬ (1 : Int) = 0 := by decide
  have nb := hW.2.1
  have h5 : σ.1 2 5 = A 184 := hR.2.2.1
  have ht := e_hasThing (t := t) hB
  rw [h5] at ht
  by_cases cp : 0 ≤ p ∧ p ≤ 63
  · have p0 : 0 ≤ p := cp.1
    have p1 : p < 64 := by omega
    have e5 : σ.1 5 p = ztA A p := (hR.1 p p0 p1).2.2
    by_cases ct : 0 ≤ t ∧ t < A 184
    · rw [if_pos ct] at ht
      have t0 : 0 ≤ t := ct.1
      have t8 : t < 8 := by omega
      have e6 : σ.1 6 t = A (128 + t) := (hR.2.1 t t0 t8).1
      by_cases cz : ztA A p = -1 ∨ ztA A p = t
      · have wt := hW.2.2.1 t t0 ct.2
        have x0 : 0 ≤ A (128 + t) := wt.1
        have x1 : A (128 + t) < 64 := by omega
        refine zBoth (A' := zset A (128 + t) p) (v := A (128 + t)) hI hk (zWF_mv hW ct cp cz) (fun j a b => zset_ne (by omega)) (zset_ne (by omega)) ?_ (fun X xB x70 xf => ?_)
        · have b1 := zB_mup (r := 5) (i := A (128 + t)) (v := -1) hB (zokr_arr (by decide +kernel))
          have b2 := zB_mup (r := 5) (i := p) (v := t) b1 (zokr_arr (by decide +kernel))
          have b3 := zB_mup (r := 6) (i := t) (v := p) b2 (zokr_arr (by decide +kernel))
          have ac := e_accept (v := A (128 + t)) b3
          have m32 : M_RW_move_32 1 t p σ = some (A (128 + t), (mup (mup (mup (mup (mup σ.1 5 (A (128 + t)) (-1)) 5 p t) 6 t p) 1 14 0) 58 4 0, σ.2)) := wpo_is (by
            unfold M_RW_move_32
            simp (maxSteps := 5000000) (disch := first | assumption | omega) only [wpo_bind, wpo_some, wpo_gf, wpo_gk, wpo_ld, wpo_pf, wpo_pz, wpo_sd, wpo_sr, wpo_ln, wpo_idv, wpo_irm, wpo_lrm, wpo_ldv, wpo_cpy, mlet, mnar_int, mup_same, mup_cell, mup_slot, ite_true, ite_false, true_and, and_true, eq_self, or_true, true_or, and_self, Int.reduceLT, Int.reduceLE, Int.reduceEq, Int.reduceNe, Int.reduceAdd, Int.reduceSub, Int.reduceMul, Int.reduceNeg, ne_eq, not_false_eq_true, not_true_eq_false, false_or, or_false, zor_inl, zor_inr, Bool.false_eq_true, false_and, and_false, zk1, zk2, zk3, zk4, zk5, zk6, zk7, zk8, zk9, zk10, zk11, zk12, zk13, zk14, zk15, zk16, zk17, zk18, zk19, zk20, zk21, zk22, zk23, zk24, zk25, zk26, zk27, zk28, zk29, zk30, zk31, zk32, zk33, zk34, zk35, zk36, zk37, zk38, zk39, zk40, zk41, zk42, zk43, zk44, zk45, zk46, zk47, zk48, zk49, zk50, zk51, zk52, zk53, zk54, zk55, zk56, zk57, zk58, zk59, zk60, zk61, zk62, zk63, zk64, zk65, zk66, zk67, zk68, zk69, zk70, zk71, zk72, zk73, zk74, zk75, zk76, zk77, zk78, zk79, zk80, zk81, zk82, zk83, zk84, zk85, zk86, zk87, zk88, zk89, zk90, zr2_0, zr2_1, zr2_2, zr2_3, zr2_4, zr2_6, zr2_7, zr2_10, zr2_11, zr2_12, zr1_0, zr1_1, zr14_0, zr14_1, zr14_2, zr14_3, zr14_4, zr14_6, zr14_7, zr14_10, zr14_11, zr14_12, zr13_0, zr25_0, zr25_1, zr25_2, zr25_3, zr25_4, zr25_6, zr25_7, zr25_10, zr25_11, zr25_12, zr13_1, zr1_2, zr37_0, zr1_3, zr39_0, zr39_1, zr39_2, zr39_5, zr39_7, zr39_8, zr1_4, zr46_1, zr46_2, zr46_3, zr46_4, zr46_0, zr1_5, zr51_2, zr51_10, zr51_0, zr51_1, zr54_1, zr54_2, zr54_3, zr1_6, zr58_1, zr58_2, zr58_3, zr58_0, zr1_7, zr62_2, zr62_3, zr62_0, zr62_1, zr1_8, zr1_9, zr1_10, zr1_15, zr68_2, zr68_3, zr68_4, zr68_5, zr68_7, zr68_8, zr68_9, zr68_12, zr68_13, zr68_14, zr68_22, zr68_23, zr68_24, zr68_26, zr68_35, zr68_36, zr68_37, zr68_38, zr68_39, zr68_40, zr68_41, zr68_42, e6, t0, t8, x0, x1, p0, p1, ac])
          refine wpo_mono (Q := fun q => q = (A (128 + t), (mup (mup (mup (mup (mup σ.1 5 (A (128 + t)) (-1)) 5 p t) 6 t p) 1 14 0) 58 4 0, σ.2))) ?_ (fun q hq => ⟨(mup (mup (mup σ.1 5 (A (128 + t)) (-1)) 5 p t) 6 t p, σ.2), ⟨b3, rfl, ?_, ?_, ?_, ?_⟩, hq⟩)
          · unfold M_RW_move
            by_cases c1 : ztA A p = -1
            · simp (maxSteps := 5000000) (disch := first | assumption | omega) only [wpo_bind, wpo_some, wpo_gf, wpo_gk, wpo_ld, wpo_pf, wpo_pz, wpo_sd, wpo_sr, wpo_ln, wpo_idv, wpo_irm, wpo_lrm, wpo_ldv, wpo_cpy, mlet, mnar_int, mup_same, mup_cell, mup_slot, ite_true, ite_false, true_and, and_true, eq_self, or_true, true_or, and_self, Int.reduceLT, Int.reduceLE, Int.reduceEq, Int.reduceNe, Int.reduceAdd, Int.reduceSub, Int.reduceMul, Int.reduceNeg, ne_eq, not_false_eq_true, not_true_eq_false, false_or, or_false, zor_inl, zor_inr, Bool.false_eq_true, false_and, and_false, zk1, zk2, zk3, zk4, zk5, zk6, zk7, zk8, zk9, zk10, zk11, zk12, zk13, zk14, zk15, zk16, zk17, zk18, zk19, zk20, zk21, zk22, zk23, zk24, zk25, zk26, zk27, zk28, zk29, zk30, zk31, zk32, zk33, zk34, zk35, zk36, zk37, zk38, zk39, zk40, zk41, zk42, zk43, zk44, zk45, zk46, zk47, zk48, zk49, zk50, zk51, zk52, zk53, zk54, zk55, zk56, zk57, zk58, zk59, zk60, zk61, zk62, zk63, zk64, zk65, zk66, zk67, zk68, zk69, zk70, zk71, zk72, zk73, zk74, zk75, zk76, zk77, zk78, zk79, zk80, zk81, zk82, zk83, zk84, zk85, zk86, zk87, zk88, zk89, zk90, zr2_0, zr2_1, zr2_2, zr2_3, zr2_4, zr2_6, zr2_7, zr2_10, zr2_11, zr2_12, zr1_0, zr1_1, zr14_0, zr14_1, zr14_2, zr14_3, zr14_4, zr14_6, zr14_7, zr14_10, zr14_11, zr14_12, zr13_0, zr25_0, zr25_1, zr25_2, zr25_3, zr25_4, zr25_6, zr25_7, zr25_10, zr25_11, zr25_12, zr13_1, zr1_2, zr37_0, zr1_3, zr39_0, zr39_1, zr39_2, zr39_5, zr39_7, zr39_8, zr1_4, zr46_1, zr46_2, zr46_3, zr46_4, zr46_0, zr1_5, zr51_2, zr51_10, zr51_0, zr51_1, zr54_1, zr54_2, zr54_3, zr1_6, zr58_1, zr58_2, zr58_3, zr58_0, zr1_7, zr62_2, zr62_3, zr62_0, zr62_1, zr1_8, zr1_9, zr1_10, zr1_15, zr68_2, zr68_3, zr68_4, zr68_5, zr68_7, zr68_8, zr68_9, zr68_12, zr68_13, zr68_14, zr68_22, zr68_23, zr68_24, zr68_26, zr68_35, zr68_36, zr68_37, zr68_38, zr68_39, zr68_40, zr68_41, zr68_42, e_isPlace, cp, n10, ht, p0, p1, e5, c1, m32]
            · have c2 : ztA A p = t := by omega
              have c3 : ¬ t = -1 := by omega
              simp (maxSteps := 5000000) (disch := first | assumption | omega) only [wpo_bind, wpo_some, wpo_gf, wpo_gk, wpo_ld, wpo_pf, wpo_pz, wpo_sd, wpo_sr, wpo_ln, wpo_idv, wpo_irm, wpo_lrm, wpo_ldv, wpo_cpy, mlet, mnar_int, mup_same, mup_cell, mup_slot, ite_true, ite_false, true_and, and_true, eq_self, or_true, true_or, and_self, Int.reduceLT, Int.reduceLE, Int.reduceEq, Int.reduceNe, Int.reduceAdd, Int.reduceSub, Int.reduceMul, Int.reduceNeg, ne_eq, not_false_eq_true, not_true_eq_false, false_or, or_false, zor_inl, zor_inr, Bool.false_eq_true, false_and, and_false, zk1, zk2, zk3, zk4, zk5, zk6, zk7, zk8, zk9, zk10, zk11, zk12, zk13, zk14, zk15, zk16, zk17, zk18, zk19, zk20, zk21, zk22, zk23, zk24, zk25, zk26, zk27, zk28, zk29, zk30, zk31, zk32, zk33, zk34, zk35, zk36, zk37, zk38, zk39, zk40, zk41, zk42, zk43, zk44, zk45, zk46, zk47, zk48, zk49, zk50, zk51, zk52, zk53, zk54, zk55, zk56, zk57, zk58, zk59, zk60, zk61, zk62, zk63, zk64, zk65, zk66, zk67, zk68, zk69, zk70, zk71, zk72, zk73, zk74, zk75, zk76, zk77, zk78, zk79, zk80, zk81, zk82, zk83, zk84, zk85, zk86, zk87, zk88, zk89, zk90, zr2_0, zr2_1, zr2_2, zr2_3, zr2_4, zr2_6, zr2_7, zr2_10, zr2_11, zr2_12, zr1_0, zr1_1, zr14_0, zr14_1, zr14_2, zr14_3, zr14_4, zr14_6, zr14_7, zr14_10, zr14_11, zr14_12, zr13_0, zr25_0, zr25_1, zr25_2, zr25_3, zr25_4, zr25_6, zr25_7, zr25_10, zr25_11, zr25_12, zr13_1, zr1_2, zr37_0, zr1_3, zr39_0, zr39_1, zr39_2, zr39_5, zr39_7, zr39_8, zr1_4, zr46_1, zr46_2, zr46_3, zr46_4, zr46_0, zr1_5, zr51_2, zr51_10, zr51_0, zr51_1, zr54_1, zr54_2, zr54_3, zr1_6, zr58_1, zr58_2, zr58_3, zr58_0, zr1_7, zr62_2, zr62_3, zr62_0, zr62_1, zr1_8, zr1_9, zr1_10, zr1_15, zr68_2, zr68_3, zr68_4, zr68_5, zr68_7, zr68_8, zr68_9, zr68_12, zr68_13, zr68_14, zr68_22, zr68_23, zr68_24, zr68_26, zr68_35, zr68_36, zr68_37, zr68_38, zr68_39, zr68_40, zr68_41, zr68_42, e_isPlace, cp, n10, ht, p0, p1, e5, c2, c3, m32]
          · intro u a b
            show mup (mup (mup σ.1 5 (A (128 + t)) (-1)) 5 p t) 6 t p u = σ.1 u
            rw [mup_fun (by omega), mup_fun (by omega), mup_fun (by omega)]
          · show mup (mup (mup σ.1 5 (A (128 + t)) (-1)) 5 p t) 6 t p 9 = σ.1 9
            rw [mup_fun (by omega), mup_fun (by omega), mup_fun (by omega)]
          · generalize hY : mup (mup (mup σ.1 5 (A (128 + t)) (-1)) 5 p t) 6 t p = Y
            show zRoad 2 (zset A (128 + t) p) Y
            have f : ∀ u, u ≠ 5 ∧ u ≠ 6 → Y u = σ.1 u := fun u x => by rw [← hY, mup_fun (by omega), mup_fun (by omega), mup_fun (by omega)]
            have f5 : ∀ i, Y 5 i = if i = p then t else if i = A (128 + t) then -1 else σ.1 5 i := fun i => by rw [← hY, mup_cell (by decide), mup_if, mup_if]
            have f6 : ∀ i, Y 6 i = if i = t then p else σ.1 6 i := fun i => by rw [← hY, mup_if, mup_cell (by decide), mup_cell (by decide)]
            have o : ∀ j, (j < 128 ∨ 136 ≤ j) → zset A (128 + t) p j = A j := fun j a => zset_ne (by omega)
            obtain ⟨o1, o2, o3, o4, o5, o6, o7, o8⟩ := hR
            have x2 : Y 2 = σ.1 2 := f 2 (by decide)
            refine ⟨fun j j0 j1 => ?_, fun u u0 u1 => ?_, by rw [x2, o 184 (by omega)]; exact o3, fun j j0 j1 => ?_, by rw [x2, o 186 (by omega)]; exact o5, by rw [x2, o 187 (by omega)]; exact o6, fun j j0 j1 => ?_, by rw [x2, o 185 (by omega)]; exact o8⟩
            · show Y 3 j = _ ∧ Y 4 j = _ ∧ Y 5 j = _
              have oj := o1 j j0 j1
              have oj5 : σ.1 5 j = ztA A j := oj.2.2
              rw [f 3 (by decide), f 4 (by decide), f5, o j (by omega), o (64 + j) (by omega), ztA_mv hW ct cp cz, oj5]
              exact ⟨oj.1, oj.2.1, rfl⟩
            · show Y 6 u = _ ∧ Y 7 u = _
              have ot := o2 u u0 u1
              have ot1 : σ.1 6 u = A (128 + u) := ot.1
              rw [f6, f 7 (by decide), o (136 + u) (by omega), ot1]
              refine ⟨?_, ot.2⟩
              by_cases c : u = t
              · rw [c, zset_same, if_pos rfl]
              · rw [zset_ne (by omega), if_neg c]
            · show Y 8 j = _
              rw [f 8 (by decide), o _ (by omega)]; exact o4 j j0 j1
            · show Y 10 j = _ ∧ Y 11 j = _ ∧ Y 12 j = _
              rw [f 10 (by decide), f 11 (by decide), f 12 (by decide), o _ (by omega), o (145 + 3 * j) (by omega), o (146 + 3 * j) (by omega)]
              exact o7 j j0 j1
          · intro j j0 j1
            have e48 : mup (mup (mup σ.1 5 (A (128 + t)) (-1)) 5 p t) 6 t p 48 j = σ.1 48 j := by rw [mup_fun (by decide), mup_fun (by decide), mup_fun (by decide)]
            show σ.1 48 j ≤ mup (mup (mup σ.1 5 (A (128 + t)) (-1)) 5 p t) 6 t p 48 j ∧ mup (mup (mup σ.1 5 (A (128 + t)) (-1)) 5 p t) 6 t p 48 j ≤ _ ∧ _
            rw [e48]
            refine ⟨Int.le_refl _, by omega, fun _ s i => ?_⟩
            unfold zWd
            rw [zset_ne (j := 187) (by omega), zset_ne (j := j) (by omega), zset_ne (j := 64 + j) (by omega)]
        · have b1 := zB_mup (r := 70) (i := 128 + t) (v := p) xB (zokr_arr (by decide +kernel))
          have pz : zPZ (zset A (128 + t) p) X (mup X.1 70 (128 + t) p, X.2) := by
            refine ⟨b1, rfl, fun u hu => mup_fun hu, ?_⟩
            show mup X.1 70 (128 + t) p 70 = _
            rw [mup_zset, x70]
          have gd := f_good2 (v := A (128 + t)) pz (congrFun (xf 68 (by decide) (by decide)) 1) vk
          have ta := wpo_is (f_thingAt (p := p) xB x70 nb)
          have it := f_isThing (t := t) xB x70 nb
          rw [if_pos ct] at it
          have w2 : ∀ u : Int, u = t → w32 (128 + u) = 128 + t := fun u hu => by rw [w32_in (by omega) (by omega)]; omega
          have x70k : ∀ j, X.1 70 j = A j := fun j => by rw [x70]
          have d1 : 0 ≤ 128 + t := by omega
          have d2 : 128 + t < 4994 := by omega
          have m29 : M_Mo_move_29 68 t p X = some (A (128 + t), (mup (mup (mup X.1 70 (128 + t) p) 68 0 0) 68 1 (σ.1 68 1 + 1), X.2)) := wpo_is (by
            unfold M_Mo_move_29
            simp (maxSteps := 5000000) (disch := first | assumption | omega) only [wpo_bind, wpo_some, wpo_gf, wpo_gk, wpo_ld, wpo_pf, wpo_pz, wpo_sd, wpo_sr, wpo_ln, wpo_idv, wpo_irm, wpo_lrm, wpo_ldv, wpo_cpy, mlet, mnar_int, mup_same, mup_cell, mup_slot, ite_true, ite_false, true_and, and_true, eq_self, or_true, true_or, and_self, Int.reduceLT, Int.reduceLE, Int.reduceEq, Int.reduceNe, Int.reduceAdd, Int.reduceSub, Int.reduceMul, Int.reduceNeg, ne_eq, not_false_eq_true, not_true_eq_false, false_or, or_false, zor_inl, zor_inr, Bool.false_eq_true, false_and, and_false, zk1, zk2, zk3, zk4, zk5, zk6, zk7, zk8, zk9, zk10, zk11, zk12, zk13, zk14, zk15, zk16, zk17, zk18, zk19, zk20, zk21, zk22, zk23, zk24, zk25, zk26, zk27, zk28, zk29, zk30, zk31, zk32, zk33, zk34, zk35, zk36, zk37, zk38, zk39, zk40, zk41, zk42, zk43, zk44, zk45, zk46, zk47, zk48, zk49, zk50, zk51, zk52, zk53, zk54, zk55, zk56, zk57, zk58, zk59, zk60, zk61, zk62, zk63, zk64, zk65, zk66, zk67, zk68, zk69, zk70, zk71, zk72, zk73, zk74, zk75, zk76, zk77, zk78, zk79, zk80, zk81, zk82, zk83, zk84, zk85, zk86, zk87, zk88, zk89, zk90, zr2_0, zr2_1, zr2_2, zr2_3, zr2_4, zr2_6, zr2_7, zr2_10, zr2_11, zr2_12, zr1_0, zr1_1, zr14_0, zr14_1, zr14_2, zr14_3, zr14_4, zr14_6, zr14_7, zr14_10, zr14_11, zr14_12, zr13_0, zr25_0, zr25_1, zr25_2, zr25_3, zr25_4, zr25_6, zr25_7, zr25_10, zr25_11, zr25_12, zr13_1, zr1_2, zr37_0, zr1_3, zr39_0, zr39_1, zr39_2, zr39_5, zr39_7, zr39_8, zr1_4, zr46_1, zr46_2, zr46_3, zr46_4, zr46_0, zr1_5, zr51_2, zr51_10, zr51_0, zr51_1, zr54_1, zr54_2, zr54_3, zr1_6, zr58_1, zr58_2, zr58_3, zr58_0, zr1_7, zr62_2, zr62_3, zr62_0, zr62_1, zr1_8, zr1_9, zr1_10, zr1_15, zr68_2, zr68_3, zr68_4, zr68_5, zr68_7, zr68_8, zr68_9, zr68_12, zr68_13, zr68_14, zr68_22, zr68_23, zr68_24, zr68_26, zr68_35, zr68_36, zr68_37, zr68_38, zr68_39, zr68_40, zr68_41, zr68_42, w2, d1, d2, x70k, gd])
          refine wpo_mono (Q := fun z => z = (A (128 + t), (mup (mup (mup X.1 70 (128 + t) p) 68 0 0) 68 1 (σ.1 68 1 + 1), X.2))) ?_ (fun z hz => ⟨_, pz, hz⟩)
          unfold M_Mo_move
          by_cases c1 : ztA A p = -1
          · simp (maxSteps := 5000000) (disch := first | assumption | omega) only [wpo_bind, wpo_some, wpo_gf, wpo_gk, wpo_ld, wpo_pf, wpo_pz, wpo_sd, wpo_sr, wpo_ln, wpo_idv, wpo_irm, wpo_lrm, wpo_ldv, wpo_cpy, mlet, mnar_int, mup_same, mup_cell, mup_slot, ite_true, ite_false, true_and, and_true, eq_self, or_true, true_or, and_self, Int.reduceLT, Int.reduceLE, Int.reduceEq, Int.reduceNe, Int.reduceAdd, Int.reduceSub, Int.reduceMul, Int.reduceNeg, ne_eq, not_false_eq_true, not_true_eq_false, false_or, or_false, zor_inl, zor_inr, Bool.false_eq_true, false_and, and_false, zk1, zk2, zk3, zk4, zk5, zk6, zk7, zk8, zk9, zk10, zk11, zk12, zk13, zk14, zk15, zk16, zk17, zk18, zk19, zk20, zk21, zk22, zk23, zk24, zk25, zk26, zk27, zk28, zk29, zk30, zk31, zk32, zk33, zk34, zk35, zk36, zk37, zk38, zk39, zk40, zk41, zk42, zk43, zk44, zk45, zk46, zk47, zk48, zk49, zk50, zk51, zk52, zk53, zk54, zk55, zk56, zk57, zk58, zk59, zk60, zk61, zk62, zk63, zk64, zk65, zk66, zk67, zk68, zk69, zk70, zk71, zk72, zk73, zk74, zk75, zk76, zk77, zk78, zk79, zk80, zk81, zk82, zk83, zk84, zk85, zk86, zk87, zk88, zk89, zk90, zr2_0, zr2_1, zr2_2, zr2_3, zr2_4, zr2_6, zr2_7, zr2_10, zr2_11, zr2_12, zr1_0, zr1_1, zr14_0, zr14_1, zr14_2, zr14_3, zr14_4, zr14_6, zr14_7, zr14_10, zr14_11, zr14_12, zr13_0, zr25_0, zr25_1, zr25_2, zr25_3, zr25_4, zr25_6, zr25_7, zr25_10, zr25_11, zr25_12, zr13_1, zr1_2, zr37_0, zr1_3, zr39_0, zr39_1, zr39_2, zr39_5, zr39_7, zr39_8, zr1_4, zr46_1, zr46_2, zr46_3, zr46_4, zr46_0, zr1_5, zr51_2, zr51_10, zr51_0, zr51_1, zr54_1, zr54_2, zr54_3, zr1_6, zr58_1, zr58_2, zr58_3, zr58_0, zr1_7, zr62_2, zr62_3, zr62_0, zr62_1, zr1_8, zr1_9, zr1_10, zr1_15, zr68_2, zr68_3, zr68_4, zr68_5, zr68_7, zr68_8, zr68_9, zr68_12, zr68_13, zr68_14, zr68_22, zr68_23, zr68_24, zr68_26, zr68_35, zr68_36, zr68_37, zr68_38, zr68_39, zr68_40, zr68_41, zr68_42, f_isPlace, cp, n10, it, ta, c1, m29]
          · have c2 : ztA A p = t := by omega
            have c3 : ¬ t = -1 := by omega
            simp (maxSteps := 5000000) (disch := first | assumption | omega) only [wpo_bind, wpo_some, wpo_gf, wpo_gk, wpo_ld, wpo_pf, wpo_pz, wpo_sd, wpo_sr, wpo_ln, wpo_idv, wpo_irm, wpo_lrm, wpo_ldv, wpo_cpy, mlet, mnar_int, mup_same, mup_cell, mup_slot, ite_true, ite_false, true_and, and_true, eq_self, or_true, true_or, and_self, Int.reduceLT, Int.reduceLE, Int.reduceEq, Int.reduceNe, Int.reduceAdd, Int.reduceSub, Int.reduceMul, Int.reduceNeg, ne_eq, not_false_eq_true, not_true_eq_false, false_or, or_false, zor_inl, zor_inr, Bool.false_eq_true, false_and, and_false, zk1, zk2, zk3, zk4, zk5, zk6, zk7, zk8, zk9, zk10, zk11, zk12, zk13, zk14, zk15, zk16, zk17, zk18, zk19, zk20, zk21, zk22, zk23, zk24, zk25, zk26, zk27, zk28, zk29, zk30, zk31, zk32, zk33, zk34, zk35, zk36, zk37, zk38, zk39, zk40, zk41, zk42, zk43, zk44, zk45, zk46, zk47, zk48, zk49, zk50, zk51, zk52, zk53, zk54, zk55, zk56, zk57, zk58, zk59, zk60, zk61, zk62, zk63, zk64, zk65, zk66, zk67, zk68, zk69, zk70, zk71, zk72, zk73, zk74, zk75, zk76, zk77, zk78, zk79, zk80, zk81, zk82, zk83, zk84, zk85, zk86, zk87, zk88, zk89, zk90, zr2_0, zr2_1, zr2_2, zr2_3, zr2_4, zr2_6, zr2_7, zr2_10, zr2_11, zr2_12, zr1_0, zr1_1, zr14_0, zr14_1, zr14_2, zr14_3, zr14_4, zr14_6, zr14_7, zr14_10, zr14_11, zr14_12, zr13_0, zr25_0, zr25_1, zr25_2, zr25_3, zr25_4, zr25_6, zr25_7, zr25_10, zr25_11, zr25_12, zr13_1, zr1_2, zr37_0, zr1_3, zr39_0, zr39_1, zr39_2, zr39_5, zr39_7, zr39_8, zr1_4, zr46_1, zr46_2, zr46_3, zr46_4, zr46_0, zr1_5, zr51_2, zr51_10, zr51_0, zr51_1, zr54_1, zr54_2, zr54_3, zr1_6, zr58_1, zr58_2, zr58_3, zr58_0, zr1_7, zr62_2, zr62_3, zr62_0, zr62_1, zr1_8, zr1_9, zr1_10, zr1_15, zr68_2, zr68_3, zr68_4, zr68_5, zr68_7, zr68_8, zr68_9, zr68_12, zr68_13, zr68_14, zr68_22, zr68_23, zr68_24, zr68_26, zr68_35, zr68_36, zr68_37, zr68_38, zr68_39, zr68_40, zr68_41, zr68_42, f_isPlace, cp, n10, it, ta, c2, c3, m29]
      · have c1 : ¬ ztA A p = -1 := fun x => cz (Or.inl x)
        have c2 : ¬ ztA A p = t := fun x => cz (Or.inr x)
        refine zRefu (by' := -3) (m := 3) hI hk (by decide) (by decide) (fun rf => ?_) (fun σ1 hB1 xf rf => ?_)
        · unfold M_RW_move
          simp (maxSteps := 5000000) (disch := first | assumption | omega) only [wpo_bind, wpo_some, wpo_gf, wpo_gk, wpo_ld, wpo_pf, wpo_pz, wpo_sd, wpo_sr, wpo_ln, wpo_idv, wpo_irm, wpo_lrm, wpo_ldv, wpo_cpy, mlet, mnar_int, mup_same, mup_cell, mup_slot, ite_true, ite_false, true_and, and_true, eq_self, or_true, true_or, and_self, Int.reduceLT, Int.reduceLE, Int.reduceEq, Int.reduceNe, Int.reduceAdd, Int.reduceSub, Int.reduceMul, Int.reduceNeg, ne_eq, not_false_eq_true, not_true_eq_false, false_or, or_false, zor_inl, zor_inr, Bool.false_eq_true, false_and, and_false, zk1, zk2, zk3, zk4, zk5, zk6, zk7, zk8, zk9, zk10, zk11, zk12, zk13, zk14, zk15, zk16, zk17, zk18, zk19, zk20, zk21, zk22, zk23, zk24, zk25, zk26, zk27, zk28, zk29, zk30, zk31, zk32, zk33, zk34, zk35, zk36, zk37, zk38, zk39, zk40, zk41, zk42, zk43, zk44, zk45, zk46, zk47, zk48, zk49, zk50, zk51, zk52, zk53, zk54, zk55, zk56, zk57, zk58, zk59, zk60, zk61, zk62, zk63, zk64, zk65, zk66, zk67, zk68, zk69, zk70, zk71, zk72, zk73, zk74, zk75, zk76, zk77, zk78, zk79, zk80, zk81, zk82, zk83, zk84, zk85, zk86, zk87, zk88, zk89, zk90, zr2_0, zr2_1, zr2_2, zr2_3, zr2_4, zr2_6, zr2_7, zr2_10, zr2_11, zr2_12, zr1_0, zr1_1, zr14_0, zr14_1, zr14_2, zr14_3, zr14_4, zr14_6, zr14_7, zr14_10, zr14_11, zr14_12, zr13_0, zr25_0, zr25_1, zr25_2, zr25_3, zr25_4, zr25_6, zr25_7, zr25_10, zr25_11, zr25_12, zr13_1, zr1_2, zr37_0, zr1_3, zr39_0, zr39_1, zr39_2, zr39_5, zr39_7, zr39_8, zr1_4, zr46_1, zr46_2, zr46_3, zr46_4, zr46_0, zr1_5, zr51_2, zr51_10, zr51_0, zr51_1, zr54_1, zr54_2, zr54_3, zr1_6, zr58_1, zr58_2, zr58_3, zr58_0, zr1_7, zr62_2, zr62_3, zr62_0, zr62_1, zr1_8, zr1_9, zr1_10, zr1_15, zr68_2, zr68_3, zr68_4, zr68_5, zr68_7, zr68_8, zr68_9, zr68_12, zr68_13, zr68_14, zr68_22, zr68_23, zr68_24, zr68_26, zr68_35, zr68_36, zr68_37, zr68_38, zr68_39, zr68_40, zr68_41, zr68_42, e_isPlace, cp, n10, ht, p0, p1, e5, c1, c2, rf]
        · have x70 : σ1.1 70 = A := (xf 70 (by decide) (by decide)).trans h70
          have ta := wpo_is (f_thingAt (p := p) hB1 x70 nb)
          have it := f_isThing (t := t) hB1 x70 nb
          rw [if_pos ct] at it
          unfold M_Mo_move
          simp (maxSteps := 5000000) (disch := first | assumption | omega) only [wpo_bind, wpo_some, wpo_gf, wpo_gk, wpo_ld, wpo_pf, wpo_pz, wpo_sd, wpo_sr, wpo_ln, wpo_idv, wpo_irm, wpo_lrm, wpo_ldv, wpo_cpy, mlet, mnar_int, mup_same, mup_cell, mup_slot, ite_true, ite_false, true_and, and_true, eq_self, or_true, true_or, and_self, Int.reduceLT, Int.reduceLE, Int.reduceEq, Int.reduceNe, Int.reduceAdd, Int.reduceSub, Int.reduceMul, Int.reduceNeg, ne_eq, not_false_eq_true, not_true_eq_false, false_or, or_false, zor_inl, zor_inr, Bool.false_eq_true, false_and, and_false, zk1, zk2, zk3, zk4, zk5, zk6, zk7, zk8, zk9, zk10, zk11, zk12, zk13, zk14, zk15, zk16, zk17, zk18, zk19, zk20, zk21, zk22, zk23, zk24, zk25, zk26, zk27, zk28, zk29, zk30, zk31, zk32, zk33, zk34, zk35, zk36, zk37, zk38, zk39, zk40, zk41, zk42, zk43, zk44, zk45, zk46, zk47, zk48, zk49, zk50, zk51, zk52, zk53, zk54, zk55, zk56, zk57, zk58, zk59, zk60, zk61, zk62, zk63, zk64, zk65, zk66, zk67, zk68, zk69, zk70, zk71, zk72, zk73, zk74, zk75, zk76, zk77, zk78, zk79, zk80, zk81, zk82, zk83, zk84, zk85, zk86, zk87, zk88, zk89, zk90, zr2_0, zr2_1, zr2_2, zr2_3, zr2_4, zr2_6, zr2_7, zr2_10, zr2_11, zr2_12, zr1_0, zr1_1, zr14_0, zr14_1, zr14_2, zr14_3, zr14_4, zr14_6, zr14_7, zr14_10, zr14_11, zr14_12, zr13_0, zr25_0, zr25_1, zr25_2, zr25_3, zr25_4, zr25_6, zr25_7, zr25_10, zr25_11, zr25_12, zr13_1, zr1_2, zr37_0, zr1_3, zr39_0, zr39_1, zr39_2, zr39_5, zr39_7, zr39_8, zr1_4, zr46_1, zr46_2, zr46_3, zr46_4, zr46_0, zr1_5, zr51_2, zr51_10, zr51_0, zr51_1, zr54_1, zr54_2, zr54_3, zr1_6, zr58_1, zr58_2, zr58_3, zr58_0, zr1_7, zr62_2, zr62_3, zr62_0, zr62_1, zr1_8, zr1_9, zr1_10, zr1_15, zr68_2, zr68_3, zr68_4, zr68_5, zr68_7, zr68_8, zr68_9, zr68_12, zr68_13, zr68_14, zr68_22, zr68_23, zr68_24, zr68_26, zr68_35, zr68_36, zr68_37, zr68_38, zr68_39, zr68_40, zr68_41, zr68_42, f_isPlace, cp, n10, it, ta, c1, c2, rf]
    · rw [if_neg ct] at ht
      refine zRefu (by' := -2) (m := 2) hI hk (by decide) (by decide) (fun rf => ?_) (fun σ1 hB1 xf rf => ?_)
      · unfold M_RW_move
        simp (maxSteps := 5000000) (disch := first | assumption | omega) only [wpo_bind, wpo_some, wpo_gf, wpo_gk, wpo_ld, wpo_pf, wpo_pz, wpo_sd, wpo_sr, wpo_ln, wpo_idv, wpo_irm, wpo_lrm, wpo_ldv, wpo_cpy, mlet, mnar_int, mup_same, mup_cell, mup_slot, ite_true, ite_false, true_and, and_true, eq_self, or_true, true_or, and_self, Int.reduceLT, Int.reduceLE, Int.reduceEq, Int.reduceNe, Int.reduceAdd, Int.reduceSub, Int.reduceMul, Int.reduceNeg, ne_eq, not_false_eq_true, not_true_eq_false, false_or, or_false, zor_inl, zor_inr, Bool.false_eq_true, false_and, and_false, zk1, zk2, zk3, zk4, zk5, zk6, zk7, zk8, zk9, zk10, zk11, zk12, zk13, zk14, zk15, zk16, zk17, zk18, zk19, zk20, zk21, zk22, zk23, zk24, zk25, zk26, zk27, zk28, zk29, zk30, zk31, zk32, zk33, zk34, zk35, zk36, zk37, zk38, zk39, zk40, zk41, zk42, zk43, zk44, zk45, zk46, zk47, zk48, zk49, zk50, zk51, zk52, zk53, zk54, zk55, zk56, zk57, zk58, zk59, zk60, zk61, zk62, zk63, zk64, zk65, zk66, zk67, zk68, zk69, zk70, zk71, zk72, zk73, zk74, zk75, zk76, zk77, zk78, zk79, zk80, zk81, zk82, zk83, zk84, zk85, zk86, zk87, zk88, zk89, zk90, zr2_0, zr2_1, zr2_2, zr2_3, zr2_4, zr2_6, zr2_7, zr2_10, zr2_11, zr2_12, zr1_0, zr1_1, zr14_0, zr14_1, zr14_2, zr14_3, zr14_4, zr14_6, zr14_7, zr14_10, zr14_11, zr14_12, zr13_0, zr25_0, zr25_1, zr25_2, zr25_3, zr25_4, zr25_6, zr25_7, zr25_10, zr25_11, zr25_12, zr13_1, zr1_2, zr37_0, zr1_3, zr39_0, zr39_1, zr39_2, zr39_5, zr39_7, zr39_8, zr1_4, zr46_1, zr46_2, zr46_3, zr46_4, zr46_0, zr1_5, zr51_2, zr51_10, zr51_0, zr51_1, zr54_1, zr54_2, zr54_3, zr1_6, zr58_1, zr58_2, zr58_3, zr58_0, zr1_7, zr62_2, zr62_3, zr62_0, zr62_1, zr1_8, zr1_9, zr1_10, zr1_15, zr68_2, zr68_3, zr68_4, zr68_5, zr68_7, zr68_8, zr68_9, zr68_12, zr68_13, zr68_14, zr68_22, zr68_23, zr68_24, zr68_26, zr68_35, zr68_36, zr68_37, zr68_38, zr68_39, zr68_40, zr68_41, zr68_42, e_isPlace, cp, n10, ht, rf]
      · have x70 : σ1.1 70 = A := (xf 70 (by decide) (by decide)).trans h70
        have it := f_isThing (t := t) hB1 x70 nb
        rw [if_neg ct] at it
        unfold M_Mo_move
        simp (maxSteps := 5000000) (disch := first | assumption | omega) only [wpo_bind, wpo_some, wpo_gf, wpo_gk, wpo_ld, wpo_pf, wpo_pz, wpo_sd, wpo_sr, wpo_ln, wpo_idv, wpo_irm, wpo_lrm, wpo_ldv, wpo_cpy, mlet, mnar_int, mup_same, mup_cell, mup_slot, ite_true, ite_false, true_and, and_true, eq_self, or_true, true_or, and_self, Int.reduceLT, Int.reduceLE, Int.reduceEq, Int.reduceNe, Int.reduceAdd, Int.reduceSub, Int.reduceMul, Int.reduceNeg, ne_eq, not_false_eq_true, not_true_eq_false, false_or, or_false, zor_inl, zor_inr, Bool.false_eq_true, false_and, and_false, zk1, zk2, zk3, zk4, zk5, zk6, zk7, zk8, zk9, zk10, zk11, zk12, zk13, zk14, zk15, zk16, zk17, zk18, zk19, zk20, zk21, zk22, zk23, zk24, zk25, zk26, zk27, zk28, zk29, zk30, zk31, zk32, zk33, zk34, zk35, zk36, zk37, zk38, zk39, zk40, zk41, zk42, zk43, zk44, zk45, zk46, zk47, zk48, zk49, zk50, zk51, zk52, zk53, zk54, zk55, zk56, zk57, zk58, zk59, zk60, zk61, zk62, zk63, zk64, zk65, zk66, zk67, zk68, zk69, zk70, zk71, zk72, zk73, zk74, zk75, zk76, zk77, zk78, zk79, zk80, zk81, zk82, zk83, zk84, zk85, zk86, zk87, zk88, zk89, zk90, zr2_0, zr2_1, zr2_2, zr2_3, zr2_4, zr2_6, zr2_7, zr2_10, zr2_11, zr2_12, zr1_0, zr1_1, zr14_0, zr14_1, zr14_2, zr14_3, zr14_4, zr14_6, zr14_7, zr14_10, zr14_11, zr14_12, zr13_0, zr25_0, zr25_1, zr25_2, zr25_3, zr25_4, zr25_6, zr25_7, zr25_10, zr25_11, zr25_12, zr13_1, zr1_2, zr37_0, zr1_3, zr39_0, zr39_1, zr39_2, zr39_5, zr39_7, zr39_8, zr1_4, zr46_1, zr46_2, zr46_3, zr46_4, zr46_0, zr1_5, zr51_2, zr51_10, zr51_0, zr51_1, zr54_1, zr54_2, zr54_3, zr1_6, zr58_1, zr58_2, zr58_3, zr58_0, zr1_7, zr62_2, zr62_3, zr62_0, zr62_1, zr1_8, zr1_9, zr1_10, zr1_15, zr68_2, zr68_3, zr68_4, zr68_5, zr68_7, zr68_8, zr68_9, zr68_12, zr68_13, zr68_14, zr68_22, zr68_23, zr68_24, zr68_26, zr68_35, zr68_36, zr68_37, zr68_38, zr68_39, zr68_40, zr68_41, zr68_42, f_isPlace, cp, n10, it, rf]
  · refine zRefu (by' := -1) (m := 1) hI hk (by decide) (by decide) (fun rf => ?_) (fun σ1 hB1 xf rf => ?_)
    · unfold M_RW_move
      simp (maxSteps := 5000000) (disch := first | assumption | omega) only [wpo_bind, wpo_some, wpo_gf, wpo_gk, wpo_ld, wpo_pf, wpo_pz, wpo_sd, wpo_sr, wpo_ln, wpo_idv, wpo_irm, wpo_lrm, wpo_ldv, wpo_cpy, mlet, mnar_int, mup_same, mup_cell, mup_slot, ite_true, ite_false, true_and, and_true, eq_self, or_true, true_or, and_self, Int.reduceLT, Int.reduceLE, Int.reduceEq, Int.reduceNe, Int.reduceAdd, Int.reduceSub, Int.reduceMul, Int.reduceNeg, ne_eq, not_false_eq_true, not_true_eq_false, false_or, or_false, zor_inl, zor_inr, Bool.false_eq_true, false_and, and_false, zk1, zk2, zk3, zk4, zk5, zk6, zk7, zk8, zk9, zk10, zk11, zk12, zk13, zk14, zk15, zk16, zk17, zk18, zk19, zk20, zk21, zk22, zk23, zk24, zk25, zk26, zk27, zk28, zk29, zk30, zk31, zk32, zk33, zk34, zk35, zk36, zk37, zk38, zk39, zk40, zk41, zk42, zk43, zk44, zk45, zk46, zk47, zk48, zk49, zk50, zk51, zk52, zk53, zk54, zk55, zk56, zk57, zk58, zk59, zk60, zk61, zk62, zk63, zk64, zk65, zk66, zk67, zk68, zk69, zk70, zk71, zk72, zk73, zk74, zk75, zk76, zk77, zk78, zk79, zk80, zk81, zk82, zk83, zk84, zk85, zk86, zk87, zk88, zk89, zk90, zr2_0, zr2_1, zr2_2, zr2_3, zr2_4, zr2_6, zr2_7, zr2_10, zr2_11, zr2_12, zr1_0, zr1_1, zr14_0, zr14_1, zr14_2, zr14_3, zr14_4, zr14_6, zr14_7, zr14_10, zr14_11, zr14_12, zr13_0, zr25_0, zr25_1, zr25_2, zr25_3, zr25_4, zr25_6, zr25_7, zr25_10, zr25_11, zr25_12, zr13_1, zr1_2, zr37_0, zr1_3, zr39_0, zr39_1, zr39_2, zr39_5, zr39_7, zr39_8, zr1_4, zr46_1, zr46_2, zr46_3, zr46_4, zr46_0, zr1_5, zr51_2, zr51_10, zr51_0, zr51_1, zr54_1, zr54_2, zr54_3, zr1_6, zr58_1, zr58_2, zr58_3, zr58_0, zr1_7, zr62_2, zr62_3, zr62_0, zr62_1, zr1_8, zr1_9, zr1_10, zr1_15, zr68_2, zr68_3, zr68_4, zr68_5, zr68_7, zr68_8, zr68_9, zr68_12, zr68_13, zr68_14, zr68_22, zr68_23, zr68_24, zr68_26, zr68_35, zr68_36, zr68_37, zr68_38, zr68_39, zr68_40, zr68_41, zr68_42, e_isPlace, cp, rf]
    · unfold M_Mo_move
      simp (maxSteps := 5000000) (disch := first | assumption | omega) only [wpo_bind, wpo_some, wpo_gf, wpo_gk, wpo_ld, wpo_pf, wpo_pz, wpo_sd, wpo_sr, wpo_ln, wpo_idv, wpo_irm, wpo_lrm, wpo_ldv, wpo_cpy, mlet, mnar_int, mup_same, mup_cell, mup_slot, ite_true, ite_false, true_and, and_true, eq_self, or_true, true_or, and_self, Int.reduceLT, Int.reduceLE, Int.reduceEq, Int.reduceNe, Int.reduceAdd, Int.reduceSub, Int.reduceMul, Int.reduceNeg, ne_eq, not_false_eq_true, not_true_eq_false, false_or, or_false, zor_inl, zor_inr, Bool.false_eq_true, false_and, and_false, zk1, zk2, zk3, zk4, zk5, zk6, zk7, zk8, zk9, zk10, zk11, zk12, zk13, zk14, zk15, zk16, zk17, zk18, zk19, zk20, zk21, zk22, zk23, zk24, zk25, zk26, zk27, zk28, zk29, zk30, zk31, zk32, zk33, zk34, zk35, zk36, zk37, zk38, zk39, zk40, zk41, zk42, zk43, zk44, zk45, zk46, zk47, zk48, zk49, zk50, zk51, zk52, zk53, zk54, zk55, zk56, zk57, zk58, zk59, zk60, zk61, zk62, zk63, zk64, zk65, zk66, zk67, zk68, zk69, zk70, zk71, zk72, zk73, zk74, zk75, zk76, zk77, zk78, zk79, zk80, zk81, zk82, zk83, zk84, zk85, zk86, zk87, zk88, zk89, zk90, zr2_0, zr2_1, zr2_2, zr2_3, zr2_4, zr2_6, zr2_7, zr2_10, zr2_11, zr2_12, zr1_0, zr1_1, zr14_0, zr14_1, zr14_2, zr14_3, zr14_4, zr14_6, zr14_7, zr14_10, zr14_11, zr14_12, zr13_0, zr25_0, zr25_1, zr25_2, zr25_3, zr25_4, zr25_6, zr25_7, zr25_10, zr25_11, zr25_12, zr13_1, zr1_2, zr37_0, zr1_3, zr39_0, zr39_1, zr39_2, zr39_5, zr39_7, zr39_8, zr1_4, zr46_1, zr46_2, zr46_3, zr46_4, zr46_0, zr1_5, zr51_2, zr51_10, zr51_0, zr51_1, zr54_1, zr54_2, zr54_3, zr1_6, zr58_1, zr58_2, zr58_3, zr58_0, zr1_7, zr62_2, zr62_3, zr62_0, zr62_1, zr1_8, zr1_9, zr1_10, zr1_15, zr68_2, zr68_3, zr68_4, zr68_5, zr68_7, zr68_8, zr68_9, zr68_12, zr68_13, zr68_14, zr68_22, zr68_23, zr68_24, zr68_26, zr68_35, zr68_36, zr68_37, zr68_38, zr68_39, zr68_40, zr68_41, zr68_42, f_isPlace, cp, rf]
/-! FORCE -/
theorem d_forgetAll {σ : mS} (hB : zB σ) (ag : ∀ p, 0 ≤ p → p < 64 → 0 ≤ σ.1 48 p ∧ σ.1 48 p ≤ 100000) : ∃ Y : mS, M_Air_forgetAll 46 σ = some (0, Y) ∧ zB Y ∧ Y.2 = σ.2 ∧ (∀ u, u ≠ 48 → Y.1 u = σ.1 u) ∧ ∀ j, 0 ≤ j → j < 64 → Y.1 48 j = σ.1 48 j + 1 := by
  have key : wpo (M_Air_forgetAll 46 σ) (fun q => q.1 = 0 ∧ zB q.2 ∧ q.2.2 = σ.2 ∧ (∀ u, u ≠ 48 → q.2.1 u = σ.1 u) ∧ ∀ j, 0 ≤ j → j < 64 → q.2.1 48 j = σ.1 48 j + 1) := by
    unfold M_Air_forgetAll M_Air_forgetAll_2
    refine loopN (fun m y => y.1 = (m : Int) ∧ zB y.2 ∧ y.2.2 = σ.2 ∧ (∀ u, u ≠ 48 → y.2.1 u = σ.1 u) ∧ ∀ j, y.2.1 48 j = if 0 ≤ j ∧ j < (m : Int) then σ.1 48 j + 1 else σ.1 48 j) 64 _ _ (by decide) ⟨rfl, hB, rfl, fun u _ => rfl, fun j => by rw [if_neg (by omega)]⟩ ?_ ?_
    · intro m y hm ⟨y1, y2, y3, y4, y5⟩
      obtain ⟨l1, s⟩ := y
      simp only at y1 y2 y3 y4 y5
      have p0 : 0 ≤ l1 := by omega
      have p1 : l1 < 64 := by omega
      have v48 : s.1 48 l1 = σ.1 48 l1 := by rw [y5, if_neg (by omega)]
      have a48 := ag l1 p0 p1
      have w1 : ∀ u : Int, u = l1 → w32 (u + 1) = l1 + 1 := fun u hu => by rw [w32_in (by omega) (by omega)]; omega
      have w3 : ∀ u : Int, u = σ.1 48 l1 → w32 (u + 1) = σ.1 48 l1 + 1 := fun u hu => by rw [w32_in (by omega) (by omega)]; omega
      have e : B_Air_forgetAll_2 46 l1 s = some (Sum.inl (l1 + 1, (mup s.1 48 l1 (σ.1 48 l1 + 1), s.2))) := wpo_is (by
        unfold B_Air_forgetAll_2
        simp (maxSteps := 5000000) (disch := first | assumption | omega) only [wpo_bind, wpo_some, wpo_gf, wpo_gk, wpo_ld, wpo_pf, wpo_pz, wpo_sd, wpo_sr, wpo_ln, wpo_idv, wpo_irm, wpo_lrm, wpo_ldv, wpo_cpy, mlet, mnar_int, mup_same, mup_cell, mup_slot, ite_true, ite_false, true_and, and_true, eq_self, or_true, true_or, and_self, Int.reduceLT, Int.reduceLE, Int.reduceEq, Int.reduceNe, Int.reduceAdd, Int.reduceSub, Int.reduceMul, Int.reduceNeg, ne_eq, not_false_eq_true, not_true_eq_false, false_or, or_false, zor_inl, zor_inr, Bool.false_eq_true, false_and, and_false, zk1, zk2, zk3, zk4, zk5, zk6, zk7, zk8, zk9, zk10, zk11, zk12, zk13, zk14, zk15, zk16, zk17, zk18, zk19, zk20, zk21, zk22, zk23, zk24, zk25, zk26, zk27, zk28, zk29, zk30, zk31, zk32, zk33, zk34, zk35, zk36, zk37, zk38, zk39, zk40, zk41, zk42, zk43, zk44, zk45, zk46, zk47, zk48, zk49, zk50, zk51, zk52, zk53, zk54, zk55, zk56, zk57, zk58, zk59, zk60, zk61, zk62, zk63, zk64, zk65, zk66, zk67, zk68, zk69, zk70, zk71, zk72, zk73, zk74, zk75, zk76, zk77, zk78, zk79, zk80, zk81, zk82, zk83, zk84, zk85, zk86, zk87, zk88, zk89, zk90, zr2_0, zr2_1, zr2_2, zr2_3, zr2_4, zr2_6, zr2_7, zr2_10, zr2_11, zr2_12, zr1_0, zr1_1, zr14_0, zr14_1, zr14_2, zr14_3, zr14_4, zr14_6, zr14_7, zr14_10, zr14_11, zr14_12, zr13_0, zr25_0, zr25_1, zr25_2, zr25_3, zr25_4, zr25_6, zr25_7, zr25_10, zr25_11, zr25_12, zr13_1, zr1_2, zr37_0, zr1_3, zr39_0, zr39_1, zr39_2, zr39_5, zr39_7, zr39_8, zr1_4, zr46_1, zr46_2, zr46_3, zr46_4, zr46_0, zr1_5, zr51_2, zr51_10, zr51_0, zr51_1, zr54_1, zr54_2, zr54_3, zr1_6, zr58_1, zr58_2, zr58_3, zr58_0, zr1_7, zr62_2, zr62_3, zr62_0, zr62_1, zr1_8, zr1_9, zr1_10, zr1_15, zr68_2, zr68_3, zr68_4, zr68_5, zr68_7, zr68_8, zr68_9, zr68_12, zr68_13, zr68_14, zr68_22, zr68_23, zr68_24, zr68_26, zr68_35, zr68_36, zr68_37, zr68_38, zr68_39, zr68_40, zr68_41, zr68_42, p0, p1, v48, w3, w1])
      refine ⟨_, e, ?_, zB_mup y2 (zokr_arr (by decide +kernel)), y3, fun u hu => ?_, fun j => ?_⟩
      · show l1 + 1 = ((m + 1 : Nat) : Int)
        omega
      · show mup s.1 48 l1 (σ.1 48 l1 + 1) u = _
        rw [mup_fun hu]; exact y4 u hu
      · show mup s.1 48 l1 (σ.1 48 l1 + 1) 48 j = _
        rw [mup_if]
        by_cases cj : j = l1
        · rw [if_pos cj, if_pos (by omega), cj]
        · rw [if_neg cj, y5]
          by_cases ci : 0 ≤ j ∧ j < (m : Int)
          · rw [if_pos ci, if_pos (by omega)]
          · rw [if_neg ci, if_neg (by omega)]
    · intro y ⟨y1, y2, y3, y4, y5⟩
      obtain ⟨l1, s⟩ := y
      simp only at y1 y2 y3 y4 y5
      have c : ¬ l1 < 64 := by omega
      have e : B_Air_forgetAll_2 46 l1 s = some (Sum.inr (0, s)) := wpo_is (by
        unfold B_Air_forgetAll_2
        simp (maxSteps := 5000000) (disch := first | assumption | omega) only [wpo_bind, wpo_some, wpo_gf, wpo_gk, wpo_ld, wpo_pf, wpo_pz, wpo_sd, wpo_sr, wpo_ln, wpo_idv, wpo_irm, wpo_lrm, wpo_ldv, wpo_cpy, mlet, mnar_int, mup_same, mup_cell, mup_slot, ite_true, ite_false, true_and, and_true, eq_self, or_true, true_or, and_self, Int.reduceLT, Int.reduceLE, Int.reduceEq, Int.reduceNe, Int.reduceAdd, Int.reduceSub, Int.reduceMul, Int.reduceNeg, ne_eq, not_false_eq_true, not_true_eq_false, false_or, or_false, zor_inl, zor_inr, Bool.false_eq_true, false_and, and_false, zk1, zk2, zk3, zk4, zk5, zk6, zk7, zk8, zk9, zk10, zk11, zk12, zk13, zk14, zk15, zk16, zk17, zk18, zk19, zk20, zk21, zk22, zk23, zk24, zk25, zk26, zk27, zk28, zk29, zk30, zk31, zk32, zk33, zk34, zk35, zk36, zk37, zk38, zk39, zk40, zk41, zk42, zk43, zk44, zk45, zk46, zk47, zk48, zk49, zk50, zk51, zk52, zk53, zk54, zk55, zk56, zk57, zk58, zk59, zk60, zk61, zk62, zk63, zk64, zk65, zk66, zk67, zk68, zk69, zk70, zk71, zk72, zk73, zk74, zk75, zk76, zk77, zk78, zk79, zk80, zk81, zk82, zk83, zk84, zk85, zk86, zk87, zk88, zk89, zk90, zr2_0, zr2_1, zr2_2, zr2_3, zr2_4, zr2_6, zr2_7, zr2_10, zr2_11, zr2_12, zr1_0, zr1_1, zr14_0, zr14_1, zr14_2, zr14_3, zr14_4, zr14_6, zr14_7, zr14_10, zr14_11, zr14_12, zr13_0, zr25_0, zr25_1, zr25_2, zr25_3, zr25_4, zr25_6, zr25_7, zr25_10, zr25_11, zr25_12, zr13_1, zr1_2, zr37_0, zr1_3, zr39_0, zr39_1, zr39_2, zr39_5, zr39_7, zr39_8, zr1_4, zr46_1, zr46_2, zr46_3, zr46_4, zr46_0, zr1_5, zr51_2, zr51_10, zr51_0, zr51_1, zr54_1, zr54_2, zr54_3, zr1_6, zr58_1, zr58_2, zr58_3, zr58_0, zr1_7, zr62_2, zr62_3, zr62_0, zr62_1, zr1_8, zr1_9, zr1_10, zr1_15, zr68_2, zr68_3, zr68_4, zr68_5, zr68_7, zr68_8, zr68_9, zr68_12, zr68_13, zr68_14, zr68_22, zr68_23, zr68_24, zr68_26, zr68_35, zr68_36, zr68_37, zr68_38, zr68_39, zr68_40, zr68_41, zr68_42, c])
      exact ⟨_, e, rfl, y2, y3, y4, fun j j0 j1 => by show s.1 48 j = _; rw [y5, if_pos (by omega)]⟩
  obtain ⟨⟨v, Y⟩, e, e1, e2⟩ := key
  simp only at e1 e2
  subst e1
  exact ⟨Y, e, e2⟩
theorem zWF_fo {A : Int → Int} {l : Int} (hW : zWF A) (hl : -1 ≤ l ∧ l < A 186) : zWF (zset A 187 l) := by
  obtain ⟨w1, w2, w3, w4, w5, w6, w7, w8, w9⟩ := hW
  have o : ∀ j, j ≠ 187 → zset A 187 l j = A j := fun j a => zset_ne a
  have e184 := o 184 (by omega)
  refine ⟨fun j j0 j1 => by rw [o j (by omega), o (64 + j) (by omega)]; exact w1 j j0 j1, by rw [e184]; exact w2, fun u u0 u1 => ?_, fun u v u0 u1 v0 v1 e => ?_, by rw [o 180 (by omega), o 181 (by omega), o 182 (by omega), o 183 (by omega)]; exact w5, by rw [o 185 (by omega)]; exact w6, fun j j0 j1 => ?_, by rw [o 186 (by omega)]; exact w8, by rw [o 186 (by omega), zset_same]; exact hl⟩
  · rw [e184] at u1
    rw [o _ (by omega), o (136 + u) (by omega)]; exact w3 u u0 u1
  · rw [e184] at u1 v1
    rw [o _ (by omega), o (128 + v) (by omega)] at e
    exact w4 u v u0 u1 v0 v1 e
  · rw [o 185 (by omega)] at j1
    rw [o _ (by omega), o (145 + 3 * j) (by omega), o (146 + 3 * j) (by omega), e184]
    exact w7 j j0 j1
set_option maxHeartbeats 4000000 in
theorem s_force (k : Nat) (hk : k ≤ 1000) (l : Int) : zStp k (M_RW_force 1 l) (M_Mo_force 68 l) := by
  intro D A σ hI
  have hB := hI.1.1.1
  have hW := hI.1.1.2.1
  have hR := hI.1.1.2.2.1
  have h70 := hI.2.1.2.2.2.1
  have vk := hI.2.1.2.2.2.2.2.1
  have n10 : ¬ (1 : Int) = 0 := by decide
  have nb := hW.2.2.2.2.2.2.2.1
  have h8 : σ.1 2 8 = A 186 := hR.2.2.2.2.1
  have h9 : σ.1 2 9 = A 187 := hR.2.2.2.2.2.1
  have w1 : ∀ u : Int, u = A 186 → w32 (u - 1) = A 186 - 1 := fun u hu => by rw [w32_in (by omega) (by omega)]; omega
  by_cases c : -1 ≤ l ∧ l ≤ A 186 - 1
  · refine zBoth (A' := zset A 187 l) (v := A 187) hI hk (zWF_fo hW (by omega)) (fun j a b => zset_ne (by omega)) (zset_ne (by omega)) ?_ (fun X xB x70 xf => ?_)
    · have o : ∀ j, j ≠ 187 → zset A 187 l j = A j := fun j a => zset_ne a
      have rest : ∀ Y : mS, zB Y → Y.2 = σ.2 → (∀ u, u ≠ 2 → u ≠ 48 → Y.1 u = σ.1 u) → (∀ i, Y.1 2 i = if i = 9 then l else σ.1 2 i) → (∀ p, 0 ≤ p → p < 64 → σ.1 48 p ≤ Y.1 48 p ∧ Y.1 48 p ≤ σ.1 48 p + 1 ∧ (Y.1 48 p = σ.1 48 p → ∀ s i, zWd D (zset A 187 l) s p i = zWd D A s p i)) → zPY D A (zset A 187 l) σ Y := by
        intro Y y1 y2 y3 y4 y5
        obtain ⟨o1, o2, o3, o4, o5, o6, o7, o8⟩ := hR
        have f : ∀ u, u ≠ 2 ∧ u ≠ 48 → Y.1 u = σ.1 u := fun u x => y3 u x.1 x.2
        refine ⟨y1, y2, fun u a b => y3 u (by omega) b, f 9 (by decide), ⟨fun j j0 j1 => ?_, fun u u0 u1 => ?_, ?_, fun j j0 j1 => ?_, ?_, ?_, fun j j0 j1 => ?_, ?_⟩, y5⟩
        · show Y.1 3 j = _ ∧ Y.1 4 j = _ ∧ Y.1 5 j = _
          rw [f 3 (by decide), f 4 (by decide), f 5 (by decide), o j (by omega), o (64 + j) (by omega), ztA_cg (o 184 (by omega)) (fun u u0 u1 => o _ (by have := hW.2.1; omega))]
          exact o1 j j0 j1
        · show Y.1 6 u = _ ∧ Y.1 7 u = _
          rw [f 6 (by decide), f 7 (by decide), o _ (by omega), o (136 + u) (by omega)]; exact o2 u u0 u1
        · rw [y4, if_neg (by decide), o 184 (by omega)]; exact o3
        · show Y.1 8 j = _
          rw [f 8 (by decide), o _ (by omega)]; exact o4 j j0 j1
        · rw [y4, if_neg (by decide), o 186 (by omega)]; exact o5
        · rw [y4, if_pos rfl, zset_same]
        · show Y.1 10 j = _ ∧ Y.1 11 j = _ ∧ Y.1 12 j = _
          rw [f 10 (by decide), f 11 (by decide), f 12 (by decide), o _ (by omega), o (145 + 3 * j) (by omega), o (146 + 3 * j) (by omega)]
          exact o7 j j0 j1
        · rw [y4, if_neg (by decide), o 185 (by omega)]; exact o8
      have m16 : wpo (M_RW_force_16 1 l σ) (fun q => ∃ Y, zPY D A (zset A 187 l) σ Y ∧ q = (A 187, (mup (mup Y.1 1 14 0) 58 4 0, Y.2))) := by
        by_cases d : l = A 187
        · have ac := e_accept (v := A 187) hB
          refine wpo_mono (Q := fun q => q = (A 187, (mup (mup σ.1 1 14 0) 58 4 0, σ.2))) ?_ (fun q hq => ⟨σ, rest σ hB rfl (fun u _ _ => rfl) (fun i => ?_) (fun p p0 p1 => ⟨Int.le_refl _, by omega, fun _ s i => ?_⟩), hq⟩)
          · unfold M_RW_force_16
            simp (maxSteps := 5000000) (disch := first | assumption | omega) only [wpo_bind, wpo_some, wpo_gf, wpo_gk, wpo_ld, wpo_pf, wpo_pz, wpo_sd, wpo_sr, wpo_ln, wpo_idv, wpo_irm, wpo_lrm, wpo_ldv, wpo_cpy, mlet, mnar_int, mup_same, mup_cell, mup_slot, ite_true, ite_false, true_and, and_true, eq_self, or_true, true_or, and_self, Int.reduceLT, Int.reduceLE, Int.reduceEq, Int.reduceNe, Int.reduceAdd, Int.reduceSub, Int.reduceMul, Int.reduceNeg, ne_eq, not_false_eq_true, not_true_eq_false, false_or, or_false, zor_inl, zor_inr, Bool.false_eq_true, false_and, and_false, zk1, zk2, zk3, zk4, zk5, zk6, zk7, zk8, zk9, zk10, zk11, zk12, zk13, zk14, zk15, zk16, zk17, zk18, zk19, zk20, zk21, zk22, zk23, zk24, zk25, zk26, zk27, zk28, zk29, zk30, zk31, zk32, zk33, zk34, zk35, zk36, zk37, zk38, zk39, zk40, zk41, zk42, zk43, zk44, zk45, zk46, zk47, zk48, zk49, zk50, zk51, zk52, zk53, zk54, zk55, zk56, zk57, zk58, zk59, zk60, zk61, zk62, zk63, zk64, zk65, zk66, zk67, zk68, zk69, zk70, zk71, zk72, zk73, zk74, zk75, zk76, zk77, zk78, zk79, zk80, zk81, zk82, zk83, zk84, zk85, zk86, zk87, zk88, zk89, zk90, zr2_0, zr2_1, zr2_2, zr2_3, zr2_4, zr2_6, zr2_7, zr2_10, zr2_11, zr2_12, zr1_0, zr1_1, zr14_0, zr14_1, zr14_2, zr14_3, zr14_4, zr14_6, zr14_7, zr14_10, zr14_11, zr14_12, zr13_0, zr25_0, zr25_1, zr25_2, zr25_3, zr25_4, zr25_6, zr25_7, zr25_10, zr25_11, zr25_12, zr13_1, zr1_2, zr37_0, zr1_3, zr39_0, zr39_1, zr39_2, zr39_5, zr39_7, zr39_8, zr1_4, zr46_1, zr46_2, zr46_3, zr46_4, zr46_0, zr1_5, zr51_2, zr51_10, zr51_0, zr51_1, zr54_1, zr54_2, zr54_3, zr1_6, zr58_1, zr58_2, zr58_3, zr58_0, zr1_7, zr62_2, zr62_3, zr62_0, zr62_1, zr1_8, zr1_9, zr1_10, zr1_15, zr68_2, zr68_3, zr68_4, zr68_5, zr68_7, zr68_8, zr68_9, zr68_12, zr68_13, zr68_14, zr68_22, zr68_23, zr68_24, zr68_26, zr68_35, zr68_36, zr68_37, zr68_38, zr68_39, zr68_40, zr68_41, zr68_42, h9, d, ac]
          · by_cases ci : i = 9
            · rw [if_pos ci, ci, h9, d]
            · rw [if_neg ci]
          · have e : zset A 187 l = A := by
              funext j
              by_cases cj : j = 187
              · rw [cj, zset_same, d]
              · exact o j cj
            rw [e]
        · have b1 := zB_mup (r := 2) (i := 9) (v := l) hB (by decide +kernel)
          have e48 : ∀ p, mup σ.1 2 9 l 48 p = σ.1 48 p := fun p => mup_cell (by decide)
          obtain ⟨Y, eY, y1, y2, y3, y4⟩ := d_forgetAll (σ := (mup σ.1 2 9 l, σ.2)) b1 (fun p p0 p1 => by
            have := hI.1.1.2.2.2.2.1 p p0 p1
            have e := e48 p
            constructor
            · show 0 ≤ mup σ.1 2 9 l 48 p; omega
            · show mup σ.1 2 9 l 48 p ≤ 100000; omega)
          have ac := e_accept (v := A 187) y1
          refine wpo_mono (Q := fun q => q = (A 187, (mup (mup Y.1 1 14 0) 58 4 0, Y.2))) ?_ (fun q hq => ⟨Y, rest Y y1 y2 (fun u a b => (y3 u b).trans (mup_fun a)) (fun i => by rw [y3 2 (by decide)]; show mup σ.1 2 9 l 2 i = _; rw [mup_if]) (fun p p0 p1 => ?_), hq⟩)
          · unfold M_RW_force_16
            simp (maxSteps := 5000000) (disch := first | assumption | omega) only [wpo_bind, wpo_some, wpo_gf, wpo_gk, wpo_ld, wpo_pf, wpo_pz, wpo_sd, wpo_sr, wpo_ln, wpo_idv, wpo_irm, wpo_lrm, wpo_ldv, wpo_cpy, mlet, mnar_int, mup_same, mup_cell, mup_slot, ite_true, ite_false, true_and, and_true, eq_self, or_true, true_or, and_self, Int.reduceLT, Int.reduceLE, Int.reduceEq, Int.reduceNe, Int.reduceAdd, Int.reduceSub, Int.reduceMul, Int.reduceNeg, ne_eq, not_false_eq_true, not_true_eq_false, false_or, or_false, zor_inl, zor_inr, Bool.false_eq_true, false_and, and_false, zk1, zk2, zk3, zk4, zk5, zk6, zk7, zk8, zk9, zk10, zk11, zk12, zk13, zk14, zk15, zk16, zk17, zk18, zk19, zk20, zk21, zk22, zk23, zk24, zk25, zk26, zk27, zk28, zk29, zk30, zk31, zk32, zk33, zk34, zk35, zk36, zk37, zk38, zk39, zk40, zk41, zk42, zk43, zk44, zk45, zk46, zk47, zk48, zk49, zk50, zk51, zk52, zk53, zk54, zk55, zk56, zk57, zk58, zk59, zk60, zk61, zk62, zk63, zk64, zk65, zk66, zk67, zk68, zk69, zk70, zk71, zk72, zk73, zk74, zk75, zk76, zk77, zk78, zk79, zk80, zk81, zk82, zk83, zk84, zk85, zk86, zk87, zk88, zk89, zk90, zr2_0, zr2_1, zr2_2, zr2_3, zr2_4, zr2_6, zr2_7, zr2_10, zr2_11, zr2_12, zr1_0, zr1_1, zr14_0, zr14_1, zr14_2, zr14_3, zr14_4, zr14_6, zr14_7, zr14_10, zr14_11, zr14_12, zr13_0, zr25_0, zr25_1, zr25_2, zr25_3, zr25_4, zr25_6, zr25_7, zr25_10, zr25_11, zr25_12, zr13_1, zr1_2, zr37_0, zr1_3, zr39_0, zr39_1, zr39_2, zr39_5, zr39_7, zr39_8, zr1_4, zr46_1, zr46_2, zr46_3, zr46_4, zr46_0, zr1_5, zr51_2, zr51_10, zr51_0, zr51_1, zr54_1, zr54_2, zr54_3, zr1_6, zr58_1, zr58_2, zr58_3, zr58_0, zr1_7, zr62_2, zr62_3, zr62_0, zr62_1, zr1_8, zr1_9, zr1_10, zr1_15, zr68_2, zr68_3, zr68_4, zr68_5, zr68_7, zr68_8, zr68_9, zr68_12, zr68_13, zr68_14, zr68_22, zr68_23, zr68_24, zr68_26, zr68_35, zr68_36, zr68_37, zr68_38, zr68_39, zr68_40, zr68_41, zr68_42, h9, d, eY, ac]
          · have e : Y.1 48 p = σ.1 48 p + 1 := by rw [y4 p p0 p1]; show mup σ.1 2 9 l 48 p + 1 = _; rw [e48]
            exact ⟨by omega, by omega, fun x => by omega⟩
      generalize (fun q => ∃ Y, zPY D A (zset A 187 l) σ Y ∧ q = (A 187, (mup (mup Y.1 1 14 0) 58 4 0, Y.2))) = Q at *
      unfold M_RW_force
      by_cases c1 : l = -1
      · rw [if_pos c1]; exact m16
      · have c2 : 0 ≤ l ∧ l ≤ A 186 - 1 := by omega
        simp (maxSteps := 5000000) (disch := first | assumption | omega) only [wpo_bind, wpo_some, wpo_gf, wpo_gk, wpo_ld, wpo_pf, wpo_pz, wpo_sd, wpo_sr, wpo_ln, wpo_idv, wpo_irm, wpo_lrm, wpo_ldv, wpo_cpy, mlet, mnar_int, mup_same, mup_cell, mup_slot, ite_true, ite_false, true_and, and_true, eq_self, or_true, true_or, and_self, Int.reduceLT, Int.reduceLE, Int.reduceEq, Int.reduceNe, Int.reduceAdd, Int.reduceSub, Int.reduceMul, Int.reduceNeg, ne_eq, not_false_eq_true, not_true_eq_false, false_or, or_false, zor_inl, zor_inr, Bool.false_eq_true, false_and, and_false, zk1, zk2, zk3, zk4, zk5, zk6, zk7, zk8, zk9, zk10, zk11, zk12, zk13, zk14, zk15, zk16, zk17, zk18, zk19, zk20, zk21, zk22, zk23, zk24, zk25, zk26, zk27, zk28, zk29, zk30, zk31, zk32, zk33, zk34, zk35, zk36, zk37, zk38, zk39, zk40, zk41, zk42, zk43, zk44, zk45, zk46, zk47, zk48, zk49, zk50, zk51, zk52, zk53, zk54, zk55, zk56, zk57, zk58, zk59, zk60, zk61, zk62, zk63, zk64, zk65, zk66, zk67, zk68, zk69, zk70, zk71, zk72, zk73, zk74, zk75, zk76, zk77, zk78, zk79, zk80, zk81, zk82, zk83, zk84, zk85, zk86, zk87, zk88, zk89, zk90, zr2_0, zr2_1, zr2_2, zr2_3, zr2_4, zr2_6, zr2_7, zr2_10, zr2_11, zr2_12, zr1_0, zr1_1, zr14_0, zr14_1, zr14_2, zr14_3, zr14_4, zr14_6, zr14_7, zr14_10, zr14_11, zr14_12, zr13_0, zr25_0, zr25_1, zr25_2, zr25_3, zr25_4, zr25_6, zr25_7, zr25_10, zr25_11, zr25_12, zr13_1, zr1_2, zr37_0, zr1_3, zr39_0, zr39_1, zr39_2, zr39_5, zr39_7, zr39_8, zr1_4, zr46_1, zr46_2, zr46_3, zr46_4, zr46_0, zr1_5, zr51_2, zr51_10, zr51_0, zr51_1, zr54_1, zr54_2, zr54_3, zr1_6, zr58_1, zr58_2, zr58_3, zr58_0, zr1_7, zr62_2, zr62_3, zr62_0, zr62_1, zr1_8, zr1_9, zr1_10, zr1_15, zr68_2, zr68_3, zr68_4, zr68_5, zr68_7, zr68_8, zr68_9, zr68_12, zr68_13, zr68_14, zr68_22, zr68_23, zr68_24, zr68_26, zr68_35, zr68_36, zr68_37, zr68_38, zr68_39, zr68_40, zr68_41, zr68_42, c1, h8, w1, e_within, c2, n10]
        exact m16
    · have b1 := zB_mup (r := 70) (i := 187) (v := l) xB (zokr_arr (by decide +kernel))
      have pz : zPZ (zset A 187 l) X (mup X.1 70 187 l, X.2) := by
        refine ⟨b1, rfl, fun u hu => mup_fun hu, ?_⟩
        show mup X.1 70 187 l 70 = _
        rw [mup_zset, x70]
      have gd := f_good2 (v := A 187) pz (congrFun (xf 68 (by decide) (by decide)) 1) vk
      have x70k : ∀ j, X.1 70 j = A j := fun j => by rw [x70]
      refine wpo_mono (Q := fun z => z = (A 187, (mup (mup (mup X.1 70 187 l) 68 0 0) 68 1 (σ.1 68 1 + 1), X.2))) ?_ (fun z hz => ⟨_, pz, hz⟩)
      unfold M_Mo_force
      simp (maxSteps := 5000000) (disch := first | assumption | omega) only [wpo_bind, wpo_some, wpo_gf, wpo_gk, wpo_ld, wpo_pf, wpo_pz, wpo_sd, wpo_sr, wpo_ln, wpo_idv, wpo_irm, wpo_lrm, wpo_ldv, wpo_cpy, mlet, mnar_int, mup_same, mup_cell, mup_slot, ite_true, ite_false, true_and, and_true, eq_self, or_true, true_or, and_self, Int.reduceLT, Int.reduceLE, Int.reduceEq, Int.reduceNe, Int.reduceAdd, Int.reduceSub, Int.reduceMul, Int.reduceNeg, ne_eq, not_false_eq_true, not_true_eq_false, false_or, or_false, zor_inl, zor_inr, Bool.false_eq_true, false_and, and_false, zk1, zk2, zk3, zk4, zk5, zk6, zk7, zk8, zk9, zk10, zk11, zk12, zk13, zk14, zk15, zk16, zk17, zk18, zk19, zk20, zk21, zk22, zk23, zk24, zk25, zk26, zk27, zk28, zk29, zk30, zk31, zk32, zk33, zk34, zk35, zk36, zk37, zk38, zk39, zk40, zk41, zk42, zk43, zk44, zk45, zk46, zk47, zk48, zk49, zk50, zk51, zk52, zk53, zk54, zk55, zk56, zk57, zk58, zk59, zk60, zk61, zk62, zk63, zk64, zk65, zk66, zk67, zk68, zk69, zk70, zk71, zk72, zk73, zk74, zk75, zk76, zk77, zk78, zk79, zk80, zk81, zk82, zk83, zk84, zk85, zk86, zk87, zk88, zk89, zk90, zr2_0, zr2_1, zr2_2, zr2_3, zr2_4, zr2_6, zr2_7, zr2_10, zr2_11, zr2_12, zr1_0, zr1_1, zr14_0, zr14_1, zr14_2, zr14_3, zr14_4, zr14_6, zr14_7, zr14_10, zr14_11, zr14_12, zr13_0, zr25_0, zr25_1, zr25_2, zr25_3, zr25_4, zr25_6, zr25_7, zr25_10, zr25_11, zr25_12, zr13_1, zr1_2, zr37_0, zr1_3, zr39_0, zr39_1, zr39_2, zr39_5, zr39_7, zr39_8, zr1_4, zr46_1, zr46_2, zr46_3, zr46_4, zr46_0, zr1_5, zr51_2, zr51_10, zr51_0, zr51_1, zr54_1, zr54_2, zr54_3, zr1_6, zr58_1, zr58_2, zr58_3, zr58_0, zr1_7, zr62_2, zr62_3, zr62_0, zr62_1, zr1_8, zr1_9, zr1_10, zr1_15, zr68_2, zr68_3, zr68_4, zr68_5, zr68_7, zr68_8, zr68_9, zr68_12, zr68_13, zr68_14, zr68_22, zr68_23, zr68_24, zr68_26, zr68_35, zr68_36, zr68_37, zr68_38, zr68_39, zr68_40, zr68_41, zr68_42, x70k, w1, e_lies, c, n10, gd]
  · have c1 : ¬ l = -1 := by omega
    have c2 : ¬ (0 ≤ l ∧ l ≤ A 186 - 1) := by omega
    refine zRefu (by' := -2) (m := 2) hI hk (by decide) (by decide) (fun rf => ?_) (fun σ1 hB1 xf rf => ?_)
    · unfold M_RW_force
      simp (maxSteps := 5000000) (disch := first | assumption | omega) only [wpo_bind, wpo_some, wpo_gf, wpo_gk, wpo_ld, wpo_pf, wpo_pz, wpo_sd, wpo_sr, wpo_ln, wpo_idv, wpo_irm, wpo_lrm, wpo_ldv, wpo_cpy, mlet, mnar_int, mup_same, mup_cell, mup_slot, ite_true, ite_false, true_and, and_true, eq_self, or_true, true_or, and_self, Int.reduceLT, Int.reduceLE, Int.reduceEq, Int.reduceNe, Int.reduceAdd, Int.reduceSub, Int.reduceMul, Int.reduceNeg, ne_eq, not_false_eq_true, not_true_eq_false, false_or, or_false, zor_inl, zor_inr, Bool.false_eq_true, false_and, and_false, zk1, zk2, zk3, zk4, zk5, zk6, zk7, zk8, zk9, zk10, zk11, zk12, zk13, zk14, zk15, zk16, zk17, zk18, zk19, zk20, zk21, zk22, zk23, zk24, zk25, zk26, zk27, zk28, zk29, zk30, zk31, zk32, zk33, zk34, zk35, zk36, zk37, zk38, zk39, zk40, zk41, zk42, zk43, zk44, zk45, zk46, zk47, zk48, zk49, zk50, zk51, zk52, zk53, zk54, zk55, zk56, zk57, zk58, zk59, zk60, zk61, zk62, zk63, zk64, zk65, zk66, zk67, zk68, zk69, zk70, zk71, zk72, zk73, zk74, zk75, zk76, zk77, zk78, zk79, zk80, zk81, zk82, zk83, zk84, zk85, zk86, zk87, zk88, zk89, zk90, zr2_0, zr2_1, zr2_2, zr2_3, zr2_4, zr2_6, zr2_7, zr2_10, zr2_11, zr2_12, zr1_0, zr1_1, zr14_0, zr14_1, zr14_2, zr14_3, zr14_4, zr14_6, zr14_7, zr14_10, zr14_11, zr14_12, zr13_0, zr25_0, zr25_1, zr25_2, zr25_3, zr25_4, zr25_6, zr25_7, zr25_10, zr25_11, zr25_12, zr13_1, zr1_2, zr37_0, zr1_3, zr39_0, zr39_1, zr39_2, zr39_5, zr39_7, zr39_8, zr1_4, zr46_1, zr46_2, zr46_3, zr46_4, zr46_0, zr1_5, zr51_2, zr51_10, zr51_0, zr51_1, zr54_1, zr54_2, zr54_3, zr1_6, zr58_1, zr58_2, zr58_3, zr58_0, zr1_7, zr62_2, zr62_3, zr62_0, zr62_1, zr1_8, zr1_9, zr1_10, zr1_15, zr68_2, zr68_3, zr68_4, zr68_5, zr68_7, zr68_8, zr68_9, zr68_12, zr68_13, zr68_14, zr68_22, zr68_23, zr68_24, zr68_26, zr68_35, zr68_36, zr68_37, zr68_38, zr68_39, zr68_40, zr68_41, zr68_42, c1, h8, w1, e_within, c2, rf]
    · have x70 : σ1.1 70 = A := (xf 70 (by decide) (by decide)).trans h70
      have x70k : ∀ j, σ1.1 70 j = A j := fun j => by rw [x70]
      unfold M_Mo_force
      simp (maxSteps := 5000000) (disch := first | assumption | omega) only [wpo_bind, wpo_some, wpo_gf, wpo_gk, wpo_ld, wpo_pf, wpo_pz, wpo_sd, wpo_sr, wpo_ln, wpo_idv, wpo_irm, wpo_lrm, wpo_ldv, wpo_cpy, mlet, mnar_int, mup_same, mup_cell, mup_slot, ite_true, ite_false, true_and, and_true, eq_self, or_true, true_or, and_self, Int.reduceLT, Int.reduceLE, Int.reduceEq, Int.reduceNe, Int.reduceAdd, Int.reduceSub, Int.reduceMul, Int.reduceNeg, ne_eq, not_false_eq_true, not_true_eq_false, false_or, or_false, zor_inl, zor_inr, Bool.false_eq_true, false_and, and_false, zk1, zk2, zk3, zk4, zk5, zk6, zk7, zk8, zk9, zk10, zk11, zk12, zk13, zk14, zk15, zk16, zk17, zk18, zk19, zk20, zk21, zk22, zk23, zk24, zk25, zk26, zk27, zk28, zk29, zk30, zk31, zk32, zk33, zk34, zk35, zk36, zk37, zk38, zk39, zk40, zk41, zk42, zk43, zk44, zk45, zk46, zk47, zk48, zk49, zk50, zk51, zk52, zk53, zk54, zk55, zk56, zk57, zk58, zk59, zk60, zk61, zk62, zk63, zk64, zk65, zk66, zk67, zk68, zk69, zk70, zk71, zk72, zk73, zk74, zk75, zk76, zk77, zk78, zk79, zk80, zk81, zk82, zk83, zk84, zk85, zk86, zk87, zk88, zk89, zk90, zr2_0, zr2_1, zr2_2, zr2_3, zr2_4, zr2_6, zr2_7, zr2_10, zr2_11, zr2_12, zr1_0, zr1_1, zr14_0, zr14_1, zr14_2, zr14_3, zr14_4, zr14_6, zr14_7, zr14_10, zr14_11, zr14_12, zr13_0, zr25_0, zr25_1, zr25_2, zr25_3, zr25_4, zr25_6, zr25_7, zr25_10, zr25_11, zr25_12, zr13_1, zr1_2, zr37_0, zr1_3, zr39_0, zr39_1, zr39_2, zr39_5, zr39_7, zr39_8, zr1_4, zr46_1, zr46_2, zr46_3, zr46_4, zr46_0, zr1_5, zr51_2, zr51_10, zr51_0, zr51_1, zr54_1, zr54_2, zr54_3, zr1_6, zr58_1, zr58_2, zr58_3, zr58_0, zr1_7, zr62_2, zr62_3, zr62_0, zr62_1, zr1_8, zr1_9, zr1_10, zr1_15, zr68_2, zr68_3, zr68_4, zr68_5, zr68_7, zr68_8, zr68_9, zr68_12, zr68_13, zr68_14, zr68_22, zr68_23, zr68_24, zr68_26, zr68_35, zr68_36, zr68_37, zr68_38, zr68_39, zr68_40, zr68_41, zr68_42, x70k, w1, e_lies, c, rf]
