/-! THING, MOVE -/
theorem ztA_uni {A : Int → Int} {p t : Int} (hW : zWF A) (h0 : 0 ≤ t) (h1 : t < A 184) (h2 : A (128 + t) = p) : ztA A p = t := ztA_eq h0 h1 h2 (fun u u0 u1 e => hW.2.2.2.1 u t u0 u1 h0 h1 (e.trans h2.symm))
def zTgq (A : Int → Int) (p h : Int) : Int → Int := zset (zset (zset A (128 + A 184) p) (136 + A 184) h) 184 (A 184 + 1)
theorem zTgq_n {A : Int → Int} {p h : Int} : zTgq A p h 184 = A 184 + 1 := zset_same
theorem zTgq_p {A : Int → Int} {p h t : Int} (t0 : 0 ≤ t) (t1 : t < 8) (n0 : 0 ≤ A 184) (n1 : A 184 < 8) : zTgq A p h (128 + t) = if t = A 184 then p else A (128 + t) := by
  unfold zTgq
  rw [zset_ne (by omega), zset_ne (by omega)]
  by_cases c : t = A 184
  · rw [c, zset_same, if_pos rfl]
  · rw [zset_ne (by omega), if_neg c]
theorem zTgq_h {A : Int → Int} {p h t : Int} (t0 : 0 ≤ t) (t1 : t < 8) (n0 : 0 ≤ A 184) (n1 : A 184 < 8) : zTgq A p h (136 + t) = if t = A 184 then h else A (136 + t) := by
  unfold zTgq
  rw [zset_ne (by omega)]
  by_cases c : t = A 184
  · rw [c, zset_same, if_pos rfl]
  · rw [zset_ne (by omega), zset_ne (by omega), if_neg c]
theorem zTgq_o {A : Int → Int} {p h j : Int} (n0 : 0 ≤ A 184) (n1 : A 184 < 8) (hj : j < 128 ∨ 144 ≤ j) (h4 : j ≠ 184) : zTgq A p h j = A j := by
  unfold zTgq
  rw [zset_ne h4, zset_ne (by omega), zset_ne (by omega)]
theorem zWF_tgq {A : Int → Int} {p h : Int} (hW : zWF A) (n1 : A 184 < 8) (hp : 0 ≤ p ∧ p ≤ 63) (hh : 1 ≤ h ∧ h ≤ 31) (hz : ztA A p = -1) : zWF (zTgq A p h) := by
  obtain ⟨w1, w2, w3, w4, w5, w6, w7, w8, w9⟩ := hW
  have n0 := w2.1
  have o : ∀ j, (j < 128 ∨ 144 ≤ j) → j ≠ 184 → zTgq A p h j = A j := fun j a b => zTgq_o n0 n1 a b
  have nn := ztA_none hz
  refine ⟨fun j j0 j1 => by rw [o j (by omega) (by omega), o (64 + j) (by omega) (by omega)]; exact w1 j j0 j1, by rw [zTgq_n]; omega, fun t t0 t1 => ?_, fun t u t0 t1 u0 u1 e => ?_, by rw [o 180 (by omega) (by omega), o 181 (by omega) (by omega), o 182 (by omega) (by omega), o 183 (by omega) (by omega)]; exact w5, by rw [o 185 (by omega) (by omega)]; exact w6, fun j j0 j1 => ?_, by rw [o 186 (by omega) (by omega)]; exact w8, by rw [o 186 (by omega) (by omega), o 187 (by omega) (by omega)]; exact w9⟩
  · rw [zTgq_n] at t1
    rw [zTgq_p t0 (by omega) n0 n1, zTgq_h t0 (by omega) n0 n1]
    by_cases c : t = A 184
    · rw [if_pos c, if_pos c]; omega
    · rw [if_neg c, if_neg c]; exact w3 t t0 (by omega)
  · rw [zTgq_n] at t1 u1
    rw [zTgq_p t0 (by omega) n0 n1, zTgq_p u0 (by omega) n0 n1] at e
    by_cases c : t = A 184
    · by_cases d : u = A 184
      · omega
      · rw [if_pos c, if_neg d] at e
        exact absurd e.symm (nn u u0 (by omega))
    · by_cases d : u = A 184
      · rw [if_neg c, if_pos d] at e
        exact absurd e (nn t t0 (by omega))
      · rw [if_neg c, if_neg d] at e
        exact w4 t u t0 (by omega) u0 (by omega) e
  · rw [o 185 (by omega) (by omega)] at j1
    rw [o _ (by omega) (by omega), o (145 + 3 * j) (by omega) (by omega), o (146 + 3 * j) (by omega) (by omega), zTgq_n]
    have := w7 j j0 j1
    omega
theorem ztA_tgq {A : Int → Int} {p h j : Int} (hW : zWF A) (n1 : A 184 < 8) (hp : 0 ≤ p ∧ p ≤ 63) (hh : 1 ≤ h ∧ h ≤ 31) (hz : ztA A p = -1) : ztA (zTgq A p h) j = if j = p then A 184 else ztA A j := by
  have n0 := hW.2.1.1
  have hW' := zWF_tgq hW n1 hp hh hz
  by_cases c : j = p
  · rw [if_pos c]
    exact ztA_uni hW' n0 (by rw [zTgq_n]; omega) (by rw [zTgq_p n0 n1 n0 n1, if_pos rfl]; exact c.symm)
  · rw [if_neg c]
    by_cases d : ztA A j = -1
    · rw [d]
      have nn := ztA_none d
      refine ztA_eq_none (fun u u0 u1 => ?_)
      rw [zTgq_n] at u1
      rw [zTgq_p u0 (by omega) n0 n1]
      by_cases e : u = A 184
      · rw [if_pos e]; exact fun x => c x.symm
      · rw [if_neg e]; exact nn u u0 (by omega)
    · obtain ⟨a, b, e⟩ := ztA_some d
      exact ztA_uni hW' a (by rw [zTgq_n]; omega) (by rw [zTgq_p a (by omega) n0 n1, if_neg (by omega)]; exact e)
set_option maxHeartbeats 4000000 in
theorem s_thing (k : Nat) (hk : k ≤ 1000) (p h : Int) : zStp k (M_RW_thing 1 p h) (M_Mo_thing 68 p h) := by
  intro D A σ hI
  have hB := hI.1.1.1
  have hW := hI.1.1.2.1
  have hR := hI.1.1.2.2.1
  have h70 := hI.2.1.2.2.2.1
  have vk := hI.2.1.2.2.2.2.2.1
  have n10 : ¬ (1 : Int) = 0 := by decide
  have nb := hW.2.1
  have h5 : σ.1 2 5 = A 184 := hR.2.2.1
  by_cases c : (0 ≤ p ∧ p ≤ 63) ∧ (1 ≤ h ∧ h ≤ 31)
  · obtain ⟨cp, ch⟩ := c
    have p0 : 0 ≤ p := cp.1
    have p1 : p < 64 := by omega
    have e5 : σ.1 5 p = ztA A p := (hR.1 p p0 p1).2.2
    by_cases cz : ztA A p = -1
    · by_cases cn : A 184 < 8
      · have n0 := nb.1
        have cn8 : ¬ A 184 = 8 := by omega
        refine zBoth (A' := zTgq A p h) (v := A 184) hI hk (zWF_tgq hW cn cp ch cz) (fun j a b => zTgq_o n0 cn (by omega) (by omega)) (zTgq_o n0 cn (by omega) (by omega)) ?_ (fun X xB x70 xf => ?_)
        · have b1 := zB_mup (r := 6) (i := A 184) (v := p) hB (zokr_arr (by decide +kernel))
          have b2 := zB_mup (r := 7) (i := A 184) (v := h) b1 (zokr_arr (by decide +kernel))
          have b3 := zB_mup (r := 5) (i := p) (v := A 184) b2 (zokr_arr (by decide +kernel))
          have b4 := zB_mup (r := 2) (i := 5) (v := A 184 + 1) b3 (by decide +kernel)
          have ac := e_accept (v := A 184) b4
          have w1 : ∀ u : Int, u = A 184 → w32 (u + 1) = A 184 + 1 := fun u hu => by rw [w32_in (by omega) (by omega)]; omega
          refine wpo_mono (Q := fun q => q = (A 184, (mup (mup (mup (mup (mup (mup σ.1 6 (A 184) p) 7 (A 184) h) 5 p (A 184)) 2 5 (A 184 + 1)) 1 14 0) 58 4 0, σ.2))) ?_ (fun q hq => ⟨(mup (mup (mup (mup σ.1 6 (A 184) p) 7 (A 184) h) 5 p (A 184)) 2 5 (A 184 + 1), σ.2), ⟨b4, rfl, ?_, ?_, ?_, ?_⟩, hq⟩)
          · unfold M_RW_thing
            simp (maxSteps := 5000000) (disch := first | assumption | omega) only [wpo_bind, wpo_some, wpo_gf, wpo_gk, wpo_ld, wpo_pf, wpo_pz, wpo_sd, wpo_sr, wpo_ln, wpo_idv, wpo_irm, wpo_lrm, wpo_ldv, wpo_cpy, mlet, mnar_int, mup_same, mup_cell, mup_slot, ite_true, ite_false, true_and, and_true, eq_self, or_true, true_or, and_self, Int.reduceLT, Int.reduceLE, Int.reduceEq, Int.reduceNe, Int.reduceAdd, Int.reduceSub, Int.reduceMul, Int.reduceNeg, ne_eq, not_false_eq_true, not_true_eq_false, false_or, or_false, zor_inl, zor_inr, Bool.false_eq_true, false_and, and_false, zk1, zk2, zk3, zk4, zk5, zk6, zk7, zk8, zk9, zk10, zk11, zk12, zk13, zk14, zk15, zk16, zk17, zk18, zk19, zk20, zk21, zk22, zk23, zk24, zk25, zk26, zk27, zk28, zk29, zk30, zk31, zk32, zk33, zk34, zk35, zk36, zk37, zk38, zk39, zk40, zk41, zk42, zk43, zk44, zk45, zk46, zk47, zk48, zk49, zk50, zk51, zk52, zk53, zk54, zk55, zk56, zk57, zk58, zk59, zk60, zk61, zk62, zk63, zk64, zk65, zk66, zk67, zk68, zk69, zk70, zk71, zk72, zk73, zk74, zk75, zk76, zk77, zk78, zk79, zk80, zk81, zk82, zk83, zk84, zk85, zk86, zk87, zk88, zk89, zk90, zr2_0, zr2_1, zr2_2, zr2_3, zr2_4, zr2_6, zr2_7, zr2_10, zr2_11, zr2_12, zr1_0, zr1_1, zr14_0, zr14_1, zr14_2, zr14_3, zr14_4, zr14_6, zr14_7, zr14_10, zr14_11, zr14_12, zr13_0, zr25_0, zr25_1, zr25_2, zr25_3, zr25_4, zr25_6, zr25_7, zr25_10, zr25_11, zr25_12, zr13_1, zr1_2, zr37_0, zr1_3, zr39_0, zr39_1, zr39_2, zr39_5, zr39_7, zr39_8, zr1_4, zr46_1, zr46_2, zr46_3, zr46_4, zr46_0, zr1_5, zr51_2, zr51_10, zr51_0, zr51_1, zr54_1, zr54_2, zr54_3, zr1_6, zr58_1, zr58_2, zr58_3, zr58_0, zr1_7, zr62_2, zr62_3, zr62_0, zr62_1, zr1_8, zr1_9, zr1_10, zr1_15, zr68_2, zr68_3, zr68_4, zr68_5, zr68_7, zr68_8, zr68_9, zr68_12, zr68_13, zr68_14, zr68_22, zr68_23, zr68_24, zr68_26, zr68_35, zr68_36, zr68_37, zr68_38, zr68_39, zr68_40, zr68_41, zr68_42, e_isPlace, e_isTall, cp, ch, n10, p0, p1, e5, cz, h5, cn, n0, w1, ac]
          · intro u a b
            show mup (mup (mup (mup σ.1 6 (A 184) p) 7 (A 184) h) 5 p (A 184)) 2 5 (A 184 + 1) u = σ.1 u
            rw [mup_fun (by omega), mup_fun (by omega), mup_fun (by omega), mup_fun (by omega)]
          · show mup (mup (mup (mup σ.1 6 (A 184) p) 7 (A 184) h) 5 p (A 184)) 2 5 (A 184 + 1) 9 = σ.1 9
            rw [mup_fun (by omega), mup_fun (by omega), mup_fun (by omega), mup_fun (by omega)]
          · generalize hY : mup (mup (mup (mup σ.1 6 (A 184) p) 7 (A 184) h) 5 p (A 184)) 2 5 (A 184 + 1) = Y
            have f : ∀ u, u ≠ 2 ∧ u ≠ 5 ∧ u ≠ 6 ∧ u ≠ 7 → Y u = σ.1 u := fun u x => by rw [← hY, mup_fun (by omega), mup_fun (by omega), mup_fun (by omega), mup_fun (by omega)]
            have f2 : ∀ i, Y 2 i = if i = 5 then A 184 + 1 else σ.1 2 i := fun i => by rw [← hY, mup_if, mup_cell (by decide), mup_cell (by decide), mup_cell (by decide)]
            have f5 : ∀ i, Y 5 i = if i = p then A 184 else σ.1 5 i := fun i => by rw [← hY, mup_cell (by decide), mup_if, mup_cell (by decide), mup_cell (by decide)]
            have f6 : ∀ i, Y 6 i = if i = A 184 then p else σ.1 6 i := fun i => by rw [← hY, mup_cell (by decide), mup_cell (by decide), mup_cell (by decide), mup_if]
            have f7 : ∀ i, Y 7 i = if i = A 184 then h else σ.1 7 i := fun i => by rw [← hY, mup_cell (by decide), mup_cell (by decide), mup_if, mup_cell (by decide)]
            have o : ∀ j, (j < 128 ∨ 144 ≤ j) → j ≠ 184 → zTgq A p h j = A j := fun j a b => zTgq_o n0 cn a b
            obtain ⟨o1, o2, o3, o4, o5, o6, o7, o8⟩ := hR
            refine ⟨fun j j0 j1 => ?_, fun t t0 t1 => ?_, ?_, fun j j0 j1 => ?_, ?_, ?_, fun j j0 j1 => ?_, ?_⟩
            · show Y 3 j = _ ∧ Y 4 j = _ ∧ Y 5 j = _
              have oj := o1 j j0 j1
              rw [f 3 (by decide), f 4 (by decide), f5, o j (by omega) (by omega), o (64 + j) (by omega) (by omega), ztA_tgq hW cn cp ch cz]
              refine ⟨oj.1, oj.2.1, ?_⟩
              have : σ.1 5 j = ztA A j := oj.2.2
              rw [this]
            · show Y 6 t = _ ∧ Y 7 t = _
              have ot := o2 t t0 t1
              have ot1 : σ.1 6 t = A (128 + t) := ot.1
              have ot2 : σ.1 7 t = A (136 + t) := ot.2
              rw [f6, f7, zTgq_p t0 t1 n0 cn, zTgq_h t0 t1 n0 cn, ot1, ot2]
              exact ⟨rfl, rfl⟩
            · show Y 2 5 = _
              rw [f2, if_pos rfl, zTgq_n]
            · show Y 8 j = _
              rw [f 8 (by decide), o _ (by omega) (by omega)]; exact o4 j j0 j1
            · show Y 2 8 = _
              rw [f2, if_neg (by decide), o 186 (by omega) (by omega)]; exact o5
            · show Y 2 9 = _
              rw [f2, if_neg (by decide), o 187 (by omega) (by omega)]; exact o6
            · show Y 10 j = _ ∧ Y 11 j = _ ∧ Y 12 j = _
              rw [f 10 (by decide), f 11 (by decide), f 12 (by decide), o _ (by omega) (by omega), o (145 + 3 * j) (by omega) (by omega), o (146 + 3 * j) (by omega) (by omega)]
              exact o7 j j0 j1
            · show Y 2 13 = _
              rw [f2, if_neg (by decide), o 185 (by omega) (by omega)]; exact o8
          · intro j j0 j1
            have e48 : mup (mup (mup (mup σ.1 6 (A 184) p) 7 (A 184) h) 5 p (A 184)) 2 5 (A 184 + 1) 48 j = σ.1 48 j := by rw [mup_fun (by decide), mup_fun (by decide), mup_fun (by decide), mup_fun (by decide)]
            show σ.1 48 j ≤ mup (mup (mup (mup σ.1 6 (A 184) p) 7 (A 184) h) 5 p (A 184)) 2 5 (A 184 + 1) 48 j ∧ mup (mup (mup (mup σ.1 6 (A 184) p) 7 (A 184) h) 5 p (A 184)) 2 5 (A 184 + 1) 48 j ≤ _ ∧ _
            rw [e48]
            refine ⟨Int.le_refl _, by omega, fun _ s i => ?_⟩
            unfold zWd
            rw [zTgq_o n0 cn (by omega) (by omega), zTgq_o (j := j) n0 cn (by omega) (by omega), zTgq_o (j := 64 + j) n0 cn (by omega) (by omega)]
        · have b1 := zB_mup (r := 70) (i := 128 + A 184) (v := p) xB (zokr_arr (by decide +kernel))
          have b2 := zB_mup (r := 70) (i := 136 + A 184) (v := h) b1 (zokr_arr (by decide +kernel))
          have b3 := zB_mup (r := 70) (i := 184) (v := A 184 + 1) b2 (zokr_arr (by decide +kernel))
          have pz : zPZ (zTgq A p h) X (mup (mup (mup X.1 70 (128 + A 184) p) 70 (136 + A 184) h) 70 184 (A 184 + 1), X.2) := by
            refine ⟨b3, rfl, fun u hu => ?_, ?_⟩
            · show mup (mup (mup X.1 70 (128 + A 184) p) 70 (136 + A 184) h) 70 184 (A 184 + 1) u = X.1 u
              rw [mup_fun hu, mup_fun hu, mup_fun hu]
            · show mup (mup (mup X.1 70 (128 + A 184) p) 70 (136 + A 184) h) 70 184 (A 184 + 1) 70 = _
              rw [mup_zset, mup_zset, mup_zset, x70]
              rfl
          have gd := f_good2 (v := A 184) pz (congrFun (xf 68 (by decide) (by decide)) 1) vk
          have ta := wpo_is (f_thingAt (p := p) xB x70 nb)
          have w1 : ∀ u : Int, u = A 184 → w32 (u + 1) = A 184 + 1 := fun u hu => by rw [w32_in (by omega) (by omega)]; omega
          have w2 : ∀ u : Int, u = A 184 → w32 (128 + u) = 128 + A 184 := fun u hu => by rw [w32_in (by omega) (by omega)]; omega
          have w3 : ∀ u : Int, u = A 184 → w32 (136 + u) = 136 + A 184 := fun u hu => by rw [w32_in (by omega) (by omega)]; omega
          have x70k : ∀ j, X.1 70 j = A j := fun j => by rw [x70]
          have d1 : 0 ≤ 128 + A 184 := by omega
          have d2 : 128 + A 184 < 4994 := by omega
          have d3 : 0 ≤ 136 + A 184 := by omega
          have d4 : 136 + A 184 < 4994 := by omega
          refine wpo_mono (Q := fun z => z = (A 184, (mup (mup (mup (mup (mup X.1 70 (128 + A 184) p) 70 (136 + A 184) h) 70 184 (A 184 + 1)) 68 0 0) 68 1 (σ.1 68 1 + 1), X.2))) ?_ (fun z hz => ⟨_, pz, hz⟩)
          unfold M_Mo_thing
          simp (maxSteps := 5000000) (disch := first | assumption | omega) only [wpo_bind, wpo_some, wpo_gf, wpo_gk, wpo_ld, wpo_pf, wpo_pz, wpo_sd, wpo_sr, wpo_ln, wpo_idv, wpo_irm, wpo_lrm, wpo_ldv, wpo_cpy, mlet, mnar_int, mup_same, mup_cell, mup_slot, ite_true, ite_false, true_and, and_true, eq_self, or_true, true_or, and_self, Int.reduceLT, Int.reduceLE, Int.reduceEq, Int.reduceNe, Int.reduceAdd, Int.reduceSub, Int.reduceMul, Int.reduceNeg, ne_eq, not_false_eq_true, not_true_eq_false, false_or, or_false, zor_inl, zor_inr, Bool.false_eq_true, false_and, and_false, zk1, zk2, zk3, zk4, zk5, zk6, zk7, zk8, zk9, zk10, zk11, zk12, zk13, zk14, zk15, zk16, zk17, zk18, zk19, zk20, zk21, zk22, zk23, zk24, zk25, zk26, zk27, zk28, zk29, zk30, zk31, zk32, zk33, zk34, zk35, zk36, zk37, zk38, zk39, zk40, zk41, zk42, zk43, zk44, zk45, zk46, zk47, zk48, zk49, zk50, zk51, zk52, zk53, zk54, zk55, zk56, zk57, zk58, zk59, zk60, zk61, zk62, zk63, zk64, zk65, zk66, zk67, zk68, zk69, zk70, zk71, zk72, zk73, zk74, zk75, zk76, zk77, zk78, zk79, zk80, zk81, zk82, zk83, zk84, zk85, zk86, zk87, zk88, zk89, zk90, zr2_0, zr2_1, zr2_2, zr2_3, zr2_4, zr2_6, zr2_7, zr2_10, zr2_11, zr2_12, zr1_0, zr1_1, zr14_0, zr14_1, zr14_2, zr14_3, zr14_4, zr14_6, zr14_7, zr14_10, zr14_11, zr14_12, zr13_0, zr25_0, zr25_1, zr25_2, zr25_3, zr25_4, zr25_6, zr25_7, zr25_10, zr25_11, zr25_12, zr13_1, zr1_2, zr37_0, zr1_3, zr39_0, zr39_1, zr39_2, zr39_5, zr39_7, zr39_8, zr1_4, zr46_1, zr46_2, zr46_3, zr46_4, zr46_0, zr1_5, zr51_2, zr51_10, zr51_0, zr51_1, zr54_1, zr54_2, zr54_3, zr1_6, zr58_1, zr58_2, zr58_3, zr58_0, zr1_7, zr62_2, zr62_3, zr62_0, zr62_1, zr1_8, zr1_9, zr1_10, zr1_15, zr68_2, zr68_3, zr68_4, zr68_5, zr68_7, zr68_8, zr68_9, zr68_12, zr68_13, zr68_14, zr68_22, zr68_23, zr68_24, zr68_26, zr68_35, zr68_36, zr68_37, zr68_38, zr68_39, zr68_40, zr68_41, zr68_42, f_isPlace, e_lies, cp, ch, n10, ta, cz, x70k, cn8, w1, w2, w3, d1, d2, d3, d4, gd]
      · have cn8 : A 184 = 8 := by omega
        refine zRefu (by' := -5) (m := 5) hI hk (by decide) (by decide) (fun rf => ?_) (fun σ1 hB1 xf rf => ?_)
        · unfold M_RW_thing
          simp (maxSteps := 5000000) (disch := first | assumption | omega) only [wpo_bind, wpo_some, wpo_gf, wpo_gk, wpo_ld, wpo_pf, wpo_pz, wpo_sd, wpo_sr, wpo_ln, wpo_idv, wpo_irm, wpo_lrm, wpo_ldv, wpo_cpy, mlet, mnar_int, mup_same, mup_cell, mup_slot, ite_true, ite_false, true_and, and_true, eq_self, or_true, true_or, and_self, Int.reduceLT, Int.reduceLE, Int.reduceEq, Int.reduceNe, Int.reduceAdd, Int.reduceSub, Int.reduceMul, Int.reduceNeg, ne_eq, not_false_eq_true, not_true_eq_false, false_or, or_false, zor_inl, zor_inr, Bool.false_eq_true, false_and, and_false, zk1, zk2, zk3, zk4, zk5, zk6, zk7, zk8, zk9, zk10, zk11, zk12, zk13, zk14, zk15, zk16, zk17, zk18, zk19, zk20, zk21, zk22, zk23, zk24, zk25, zk26, zk27, zk28, zk29, zk30, zk31, zk32, zk33, zk34, zk35, zk36, zk37, zk38, zk39, zk40, zk41, zk42, zk43, zk44, zk45, zk46, zk47, zk48, zk49, zk50, zk51, zk52, zk53, zk54, zk55, zk56, zk57, zk58, zk59, zk60, zk61, zk62, zk63, zk64, zk65, zk66, zk67, zk68, zk69, zk70, zk71, zk72, zk73, zk74, zk75, zk76, zk77, zk78, zk79, zk80, zk81, zk82, zk83, zk84, zk85, zk86, zk87, zk88, zk89, zk90, zr2_0, zr2_1, zr2_2, zr2_3, zr2_4, zr2_6, zr2_7, zr2_10, zr2_11, zr2_12, zr1_0, zr1_1, zr14_0, zr14_1, zr14_2, zr14_3, zr14_4, zr14_6, zr14_7, zr14_10, zr14_11, zr14_12, zr13_0, zr25_0, zr25_1, zr25_2, zr25_3, zr25_4, zr25_6, zr25_7, zr25_10, zr25_11, zr25_12, zr13_1, zr1_2, zr37_0, zr1_3, zr39_0, zr39_1, zr39_2, zr39_5, zr39_7, zr39_8, zr1_4, zr46_1, zr46_2, zr46_3, zr46_4, zr46_0, zr1_5, zr51_2, zr51_10, zr51_0, zr51_1, zr54_1, zr54_2, zr54_3, zr1_6, zr58_1, zr58_2, zr58_3, zr58_0, zr1_7, zr62_2, zr62_3, zr62_0, zr62_1, zr1_8, zr1_9, zr1_10, zr1_15, zr68_2, zr68_3, zr68_4, zr68_5, zr68_7, zr68_8, zr68_9, zr68_12, zr68_13, zr68_14, zr68_22, zr68_23, zr68_24, zr68_26, zr68_35, zr68_36, zr68_37, zr68_38, zr68_39, zr68_40, zr68_41, zr68_42, e_isPlace, e_isTall, cp, ch, n10, p0, p1, e5, cz, h5, cn, rf]
        · have x70 : σ1.1 70 = A := (xf 70 (by decide) (by decide)).trans h70
          have x70k : ∀ j, σ1.1 70 j = A j := fun j => by rw [x70]
          have ta := wpo_is (f_thingAt (p := p) hB1 x70 nb)
          unfold M_Mo_thing
          simp (maxSteps := 5000000) (disch := first | assumption | omega) only [wpo_bind, wpo_some, wpo_gf, wpo_gk, wpo_ld, wpo_pf, wpo_pz, wpo_sd, wpo_sr, wpo_ln, wpo_idv, wpo_irm, wpo_lrm, wpo_ldv, wpo_cpy, mlet, mnar_int, mup_same, mup_cell, mup_slot, ite_true, ite_false, true_and, and_true, eq_self, or_true, true_or, and_self, Int.reduceLT, Int.reduceLE, Int.reduceEq, Int.reduceNe, Int.reduceAdd, Int.reduceSub, Int.reduceMul, Int.reduceNeg, ne_eq, not_false_eq_true, not_true_eq_false, false_or, or_false, zor_inl, zor_inr, Bool.false_eq_true, false_and, and_false, zk1, zk2, zk3, zk4, zk5, zk6, zk7, zk8, zk9, zk10, zk11, zk12, zk13, zk14, zk15, zk16, zk17, zk18, zk19, zk20, zk21, zk22, zk23, zk24, zk25, zk26, zk27, zk28, zk29, zk30, zk31, zk32, zk33, zk34, zk35, zk36, zk37, zk38, zk39, zk40, zk41, zk42, zk43, zk44, zk45, zk46, zk47, zk48, zk49, zk50, zk51, zk52, zk53, zk54, zk55, zk56, zk57, zk58, zk59, zk60, zk61, zk62, zk63, zk64, zk65, zk66, zk67, zk68, zk69, zk70, zk71, zk72, zk73, zk74, zk75, zk76, zk77, zk78, zk79, zk80, zk81, zk82, zk83, zk84, zk85, zk86, zk87, zk88, zk89, zk90, zr2_0, zr2_1, zr2_2, zr2_3, zr2_4, zr2_6, zr2_7, zr2_10, zr2_11, zr2_12, zr1_0, zr1_1, zr14_0, zr14_1, zr14_2, zr14_3, zr14_4, zr14_6, zr14_7, zr14_10, zr14_11, zr14_12, zr13_0, zr25_0, zr25_1, zr25_2, zr25_3, zr25_4, zr25_6, zr25_7, zr25_10, zr25_11, zr25_12, zr13_1, zr1_2, zr37_0, zr1_3, zr39_0, zr39_1, zr39_2, zr39_5, zr39_7, zr39_8, zr1_4, zr46_1, zr46_2, zr46_3, zr46_4, zr46_0, zr1_5, zr51_2, zr51_10, zr51_0, zr51_1, zr54_1, zr54_2, zr54_3, zr1_6, zr58_1, zr58_2, zr58_3, zr58_0, zr1_7, zr62_2, zr62_3, zr62_0, zr62_1, zr1_8, zr1_9, zr1_10, zr1_15, zr68_2, zr68_3, zr68_4, zr68_5, zr68_7, zr68_8, zr68_9, zr68_12, zr68_13, zr68_14, zr68_22, zr68_23, zr68_24, zr68_26, zr68_35, zr68_36, zr68_37, zr68_38, zr68_39, zr68_40, zr68_41, zr68_42, f_isPlace, e_lies, cp, ch, n10, ta, cz, x70k, cn8, rf]
    · refine zRefu (by' := -3) (m := 3) hI hk (by decide) (by decide) (fun rf => ?_) (fun σ1 hB1 xf rf => ?_)
      · unfold M_RW_thing
        simp (maxSteps := 5000000) (disch := first | assumption | omega) only [wpo_bind, wpo_some, wpo_gf, wpo_gk, wpo_ld, wpo_pf, wpo_pz, wpo_sd, wpo_sr, wpo_ln, wpo_idv, wpo_irm, wpo_lrm, wpo_ldv, wpo_cpy, mlet, mnar_int, mup_same, mup_cell, mup_slot, ite_true, ite_false, true_and, and_true, eq_self, or_true, true_or, and_self, Int.reduceLT, Int.reduceLE, Int.reduceEq, Int.reduceNe, Int.reduceAdd, Int.reduceSub, Int.reduceMul, Int.reduceNeg, ne_eq, not_false_eq_true, not_true_eq_false, false_or, or_false, zor_inl, zor_inr, Bool.false_eq_true, false_and, and_false, zk1, zk2, zk3, zk4, zk5, zk6, zk7, zk8, zk9, zk10, zk11, zk12, zk13, zk14, zk15, zk16, zk17, zk18, zk19, zk20, zk21, zk22, zk23, zk24, zk25, zk26, zk27, zk28, zk29, zk30, zk31, zk32, zk33, zk34, zk35, zk36, zk37, zk38, zk39, zk40, zk41, zk42, zk43, zk44, zk45, zk46, zk47, zk48, zk49, zk50, zk51, zk52, zk53, zk54, zk55, zk56, zk57, zk58, zk59, zk60, zk61, zk62, zk63, zk64, zk65, zk66, zk67, zk68, zk69, zk70, zk71, zk72, zk73, zk74, zk75, zk76, zk77, zk78, zk79, zk80, zk81, zk82, zk83, zk84, zk85, zk86, zk87, zk88, zk89, zk90, zr2_0, zr2_1, zr2_2, zr2_3, zr2_4, zr2_6, zr2_7, zr2_10, zr2_11, zr2_12, zr1_0, zr1_1, zr14_0, zr14_1, zr14_2, zr14_3, zr14_4, zr14_6, zr14_7, zr14_10, zr14_11, zr14_12, zr13_0, zr25_0, zr25_1, zr25_2, zr25_3, zr25_4, zr25_6, zr25_7, zr25_10, zr25_11, zr25_12, zr13_1, zr1_2, zr37_0, zr1_3, zr39_0, zr39_1, zr39_2, zr39_5, zr39_7, zr39_8, zr1_4, zr46_1, zr46_2, zr46_3, zr46_4, zr46_0, zr1_5, zr51_2, zr51_10, zr51_0, zr51_1, zr54_1, zr54_2, zr54_3, zr1_6, zr58_1, zr58_2, zr58_3, zr58_0, zr1_7, zr62_2, zr62_3, zr62_0, zr62_1, zr1_8, zr1_9, zr1_10, zr1_15, zr68_2, zr68_3, zr68_4, zr68_5, zr68_7, zr68_8, zr68_9, zr68_12, zr68_13, zr68_14, zr68_22, zr68_23, zr68_24, zr68_26, zr68_35, zr68_36, zr68_37, zr68_38, zr68_39, zr68_40, zr68_41, zr68_42, e_isPlace, e_isTall, cp, ch, n10, p0, p1, e5, cz, rf]
      · have x70 : σ1.1 70 = A := (xf 70 (by decide) (by decide)).trans h70
        have ta := wpo_is (f_thingAt (p := p) hB1 x70 nb)
        unfold M_Mo_thing
        simp (maxSteps := 5000000) (disch := first | assumption | omega) only [wpo_bind, wpo_some, wpo_gf, wpo_gk, wpo_ld, wpo_pf, wpo_pz, wpo_sd, wpo_sr, wpo_ln, wpo_idv, wpo_irm, wpo_lrm, wpo_ldv, wpo_cpy, mlet, mnar_int, mup_same, mup_cell, mup_slot, ite_true, ite_false, true_and, and_true, eq_self, or_true, true_or, and_self, Int.reduceLT, Int.reduceLE, Int.reduceEq, Int.reduceNe, Int.reduceAdd, Int.reduceSub, Int.reduceMul, Int.reduceNeg, ne_eq, not_false_eq_true, not_true_eq_false, false_or, or_false, zor_inl, zor_inr, Bool.false_eq_true, false_and, and_false, zk1, zk2, zk3, zk4, zk5, zk6, zk7, zk8, zk9, zk10, zk11, zk12, zk13, zk14, zk15, zk16, zk17, zk18, zk19, zk20, zk21, zk22, zk23, zk24, zk25, zk26, zk27, zk28, zk29, zk30, zk31, zk32, zk33, zk34, zk35, zk36, zk37, zk38, zk39, zk40, zk41, zk42, zk43, zk44, zk45, zk46, zk47, zk48, zk49, zk50, zk51, zk52, zk53, zk54, zk55, zk56, zk57, zk58, zk59, zk60, zk61, zk62, zk63, zk64, zk65, zk66, zk67, zk68, zk69, zk70, zk71, zk72, zk73, zk74, zk75, zk76, zk77, zk78, zk79, zk80, zk81, zk82, zk83, zk84, zk85, zk86, zk87, zk88, zk89, zk90, zr2_0, zr2_1, zr2_2, zr2_3, zr2_4, zr2_6, zr2_7, zr2_10, zr2_11, zr2_12, zr1_0, zr1_1, zr14_0, zr14_1, zr14_2, zr14_3, zr14_4, zr14_6, zr14_7, zr14_10, zr14_11, zr14_12, zr13_0, zr25_0, zr25_1, zr25_2, zr25_3, zr25_4, zr25_6, zr25_7, zr25_10, zr25_11, zr25_12, zr13_1, zr1_2, zr37_0, zr1_3, zr39_0, zr39_1, zr39_2, zr39_5, zr39_7, zr39_8, zr1_4, zr46_1, zr46_2, zr46_3, zr46_4, zr46_0, zr1_5, zr51_2, zr51_10, zr51_0, zr51_1, zr54_1, zr54_2, zr54_3, zr1_6, zr58_1, zr58_2, zr58_3, zr58_0, zr1_7, zr62_2, zr62_3, zr62_0, zr62_1, zr1_8, zr1_9, zr1_10, zr1_15, zr68_2, zr68_3, zr68_4, zr68_5, zr68_7, zr68_8, zr68_9, zr68_12, zr68_13, zr68_14, zr68_22, zr68_23, zr68_24, zr68_26, zr68_35, zr68_36, zr68_37, zr68_38, zr68_39, zr68_40, zr68_41, zr68_42, f_isPlace, e_lies, cp, ch, n10, ta, cz, rf]
  · refine zRefu (by' := -1) (m := 1) hI hk (by decide) (by decide) (fun rf => ?_) (fun σ1 hB1 _ rf => ?_)
    · unfold M_RW_thing
      by_cases cp : 0 ≤ p ∧ p ≤ 63
      · have cr : ¬ (1 ≤ h ∧ h ≤ 31) := fun x => c ⟨cp, x⟩
        simp (maxSteps := 5000000) (disch := first | assumption | omega) only [wpo_bind, wpo_some, wpo_gf, wpo_gk, wpo_ld, wpo_pf, wpo_pz, wpo_sd, wpo_sr, wpo_ln, wpo_idv, wpo_irm, wpo_lrm, wpo_ldv, wpo_cpy, mlet, mnar_int, mup_same, mup_cell, mup_slot, ite_true, ite_false, true_and, and_true, eq_self, or_true, true_or, and_self, Int.reduceLT, Int.reduceLE, Int.reduceEq, Int.reduceNe, Int.reduceAdd, Int.reduceSub, Int.reduceMul, Int.reduceNeg, ne_eq, not_false_eq_true, not_true_eq_false, false_or, or_false, zor_inl, zor_inr, Bool.false_eq_true, false_and, and_false, zk1, zk2, zk3, zk4, zk5, zk6, zk7, zk8, zk9, zk10, zk11, zk12, zk13, zk14, zk15, zk16, zk17, zk18, zk19, zk20, zk21, zk22, zk23, zk24, zk25, zk26, zk27, zk28, zk29, zk30, zk31, zk32, zk33, zk34, zk35, zk36, zk37, zk38, zk39, zk40, zk41, zk42, zk43, zk44, zk45, zk46, zk47, zk48, zk49, zk50, zk51, zk52, zk53, zk54, zk55, zk56, zk57, zk58, zk59, zk60, zk61, zk62, zk63, zk64, zk65, zk66, zk67, zk68, zk69, zk70, zk71, zk72, zk73, zk74, zk75, zk76, zk77, zk78, zk79, zk80, zk81, zk82, zk83, zk84, zk85, zk86, zk87, zk88, zk89, zk90, zr2_0, zr2_1, zr2_2, zr2_3, zr2_4, zr2_6, zr2_7, zr2_10, zr2_11, zr2_12, zr1_0, zr1_1, zr14_0, zr14_1, zr14_2, zr14_3, zr14_4, zr14_6, zr14_7, zr14_10, zr14_11, zr14_12, zr13_0, zr25_0, zr25_1, zr25_2, zr25_3, zr25_4, zr25_6, zr25_7, zr25_10, zr25_11, zr25_12, zr13_1, zr1_2, zr37_0, zr1_3, zr39_0, zr39_1, zr39_2, zr39_5, zr39_7, zr39_8, zr1_4, zr46_1, zr46_2, zr46_3, zr46_4, zr46_0, zr1_5, zr51_2, zr51_10, zr51_0, zr51_1, zr54_1, zr54_2, zr54_3, zr1_6, zr58_1, zr58_2, zr58_3, zr58_0, zr1_7, zr62_2, zr62_3, zr62_0, zr62_1, zr1_8, zr1_9, zr1_10, zr1_15, zr68_2, zr68_3, zr68_4, zr68_5, zr68_7, zr68_8, zr68_9, zr68_12, zr68_13, zr68_14, zr68_22, zr68_23, zr68_24, zr68_26, zr68_35, zr68_36, zr68_37, zr68_38, zr68_39, zr68_40, zr68_41, zr68_42, e_isPlace, e_isTall, cp, cr, n10, rf]
      · simp (maxSteps := 5000000) (disch := first | assumption | omega) only [wpo_bind, wpo_some, wpo_gf, wpo_gk, wpo_ld, wpo_pf, wpo_pz, wpo_sd, wpo_sr, wpo_ln, wpo_idv, wpo_irm, wpo_lrm, wpo_ldv, wpo_cpy, mlet, mnar_int, mup_same, mup_cell, mup_slot, ite_true, ite_false, true_and, and_true, eq_self, or_true, true_or, and_self, Int.reduceLT, Int.reduceLE, Int.reduceEq, Int.reduceNe, Int.reduceAdd, Int.reduceSub, Int.reduceMul, Int.reduceNeg, ne_eq, not_false_eq_true, not_true_eq_false, false_or, or_false, zor_inl, zor_inr, Bool.false_eq_true, false_and, and_false, zk1, zk2, zk3, zk4, zk5, zk6, zk7, zk8, zk9, zk10, zk11, zk12, zk13, zk14, zk15, zk16, zk17, zk18, zk19, zk20, zk21, zk22, zk23, zk24, zk25, zk26, zk27, zk28, zk29, zk30, zk31, zk32, zk33, zk34, zk35, zk36, zk37, zk38, zk39, zk40, zk41, zk42, zk43, zk44, zk45, zk46, zk47, zk48, zk49, zk50, zk51, zk52, zk53, zk54, zk55, zk56, zk57, zk58, zk59, zk60, zk61, zk62, zk63, zk64, zk65, zk66, zk67, zk68, zk69, zk70, zk71, zk72, zk73, zk74, zk75, zk76, zk77, zk78, zk79, zk80, zk81, zk82, zk83, zk84, zk85, zk86, zk87, zk88, zk89, zk90, zr2_0, zr2_1, zr2_2, zr2_3, zr2_4, zr2_6, zr2_7, zr2_10, zr2_11, zr2_12, zr1_0, zr1_1, zr14_0, zr14_1, zr14_2, zr14_3, zr14_4, zr14_6, zr14_7, zr14_10, zr14_11, zr14_12, zr13_0, zr25_0, zr25_1, zr25_2, zr25_3, zr25_4, zr25_6, zr25_7, zr25_10, zr25_11, zr25_12, zr13_1, zr1_2, zr37_0, zr1_3, zr39_0, zr39_1, zr39_2, zr39_5, zr39_7, zr39_8, zr1_4, zr46_1, zr46_2, zr46_3, zr46_4, zr46_0, zr1_5, zr51_2, zr51_10, zr51_0, zr51_1, zr54_1, zr54_2, zr54_3, zr1_6, zr58_1, zr58_2, zr58_3, zr58_0, zr1_7, zr62_2, zr62_3, zr62_0, zr62_1, zr1_8, zr1_9, zr1_10, zr1_15, zr68_2, zr68_3, zr68_4, zr68_5, zr68_7, zr68_8, zr68_9, zr68_12, zr68_13, zr68_14, zr68_22, zr68_23, zr68_24, zr68_26, zr68_35, zr68_36, zr68_37, zr68_38, zr68_39, zr68_40, zr68_41, zr68_42, e_isPlace, cp, rf]
    · unfold M_Mo_thing
      by_cases cp : 0 ≤ p ∧ p ≤ 63
      · have cr : ¬ (1 ≤ h ∧ h ≤ 31) := fun x => c ⟨cp, x⟩
        simp (maxSteps := 5000000) (disch := first | assumption | omega) only [wpo_bind, wpo_some, wpo_gf, wpo_gk, wpo_ld, wpo_pf, wpo_pz, wpo_sd, wpo_sr, wpo_ln, wpo_idv, wpo_irm, wpo_lrm, wpo_ldv, wpo_cpy, mlet, mnar_int, mup_same, mup_cell, mup_slot, ite_true, ite_false, true_and, and_true, eq_self, or_true, true_or, and_self, Int.reduceLT, Int.reduceLE, Int.reduceEq, Int.reduceNe, Int.reduceAdd, Int.reduceSub, Int.reduceMul, Int.reduceNeg, ne_eq, not_false_eq_true, not_true_eq_false, false_or, or_false, zor_inl, zor_inr, Bool.false_eq_true, false_and, and_false, zk1, zk2, zk3, zk4, zk5, zk6, zk7, zk8, zk9, zk10, zk11, zk12, zk13, zk14, zk15, zk16, zk17, zk18, zk19, zk20, zk21, zk22, zk23, zk24, zk25, zk26, zk27, zk28, zk29, zk30, zk31, zk32, zk33, zk34, zk35, zk36, zk37, zk38, zk39, zk40, zk41, zk42, zk43, zk44, zk45, zk46, zk47, zk48, zk49, zk50, zk51, zk52, zk53, zk54, zk55, zk56, zk57, zk58, zk59, zk60, zk61, zk62, zk63, zk64, zk65, zk66, zk67, zk68, zk69, zk70, zk71, zk72, zk73, zk74, zk75, zk76, zk77, zk78, zk79, zk80, zk81, zk82, zk83, zk84, zk85, zk86, zk87, zk88, zk89, zk90, zr2_0, zr2_1, zr2_2, zr2_3, zr2_4, zr2_6, zr2_7, zr2_10, zr2_11, zr2_12, zr1_0, zr1_1, zr14_0, zr14_1, zr14_2, zr14_3, zr14_4, zr14_6, zr14_7, zr14_10, zr14_11, zr14_12, zr13_0, zr25_0, zr25_1, zr25_2, zr25_3, zr25_4, zr25_6, zr25_7, zr25_10, zr25_11, zr25_12, zr13_1, zr1_2, zr37_0, zr1_3, zr39_0, zr39_1, zr39_2, zr39_5, zr39_7, zr39_8, zr1_4, zr46_1, zr46_2, zr46_3, zr46_4, zr46_0, zr1_5, zr51_2, zr51_10, zr51_0, zr51_1, zr54_1, zr54_2, zr54_3, zr1_6, zr58_1, zr58_2, zr58_3, zr58_0, zr1_7, zr62_2, zr62_3, zr62_0, zr62_1, zr1_8, zr1_9, zr1_10, zr1_15, zr68_2, zr68_3, zr68_4, zr68_5, zr68_7, zr68_8, zr68_9, zr68_12, zr68_13, zr68_14, zr68_22, zr68_23, zr68_24, zr68_26, zr68_35, zr68_36, zr68_37, zr68_38, zr68_39, zr68_40, zr68_41, zr68_42, f_isPlace, e_lies, cp, cr, n10, rf]
      · simp (maxSteps := 5000000) (disch := first | assumption | omega) only [wpo_bind, wpo_some, wpo_gf, wpo_gk, wpo_ld, wpo_pf, wpo_pz, wpo_sd, wpo_sr, wpo_ln, wpo_idv, wpo_irm, wpo_lrm, wpo_ldv, wpo_cpy, mlet, mnar_int, mup_same, mup_cell, mup_slot, ite_true, ite_false, true_and, and_true, eq_self, or_true, true_or, and_self, Int.reduceLT, Int.reduceLE, Int.reduceEq, Int.reduceNe, Int.reduceAdd, Int.reduceSub, Int.reduceMul, Int.reduceNeg, ne_eq, not_false_eq_true, not_true_eq_false, false_or, or_false, zor_inl, zor_inr, Bool.false_eq_true, false_and, and_false, zk1, zk2, zk3, zk4, zk5, zk6, zk7, zk8, zk9, zk10, zk11, zk12, zk13, zk14, zk15, zk16, zk17, zk18, zk19, zk20, zk21, zk22, zk23, zk24, zk25, zk26, zk27, zk28, zk29, zk30, zk31, zk32, zk33, zk34, zk35, zk36, zk37, zk38, zk39, zk40, zk41, zk42, zk43, zk44, zk45, zk46, zk47, zk48, zk49, zk50, zk51, zk52, zk53, zk54, zk55, zk56, zk57, zk58, zk59, zk60, zk61, zk62, zk63, zk64, zk65, zk66, zk67, zk68, zk69, zk70, zk71, zk72, zk73, zk74, zk75, zk76, zk77, zk78, zk79, zk80, zk81, zk82, zk83, zk84, zk85, zk86, zk87, zk88, zk89, zk90, zr2_0, zr2_1, zr2_2, zr2_3, zr2_4, zr2_6, zr2_7, zr2_10, zr2_11, zr2_12, zr1_0, zr1_1, zr14_0, zr14_1, zr14_2, zr14_3, zr14_4, zr14_6, zr14_7, zr14_10, zr14_11, zr14_12, zr13_0, zr25_0, zr25_1, zr25_2, zr25_3, zr25_4, zr25_6, zr25_7, zr25_10, zr25_11, zr25_12, zr13_1, zr1_2, zr37_0, zr1_3, zr39_0, zr39_1, zr39_2, zr39_5, zr39_7, zr39_8, zr1_4, zr46_1, zr46_2, zr46_3, zr46_4, zr46_0, zr1_5, zr51_2, zr51_10, zr51_0, zr51_1, zr54_1, zr54_2, zr54_3, zr1_6, zr58_1, zr58_2, zr58_3, zr58_0, zr1_7, zr62_2, zr62_3, zr62_0, zr62_1, zr1_8, zr1_9, zr1_10, zr1_15, zr68_2, zr68_3, zr68_4, zr68_5, zr68_7, zr68_8, zr68_9, zr68_12, zr68_13, zr68_14, zr68_22, zr68_23, zr68_24, zr68_26, zr68_35, zr68_36, zr68_37, zr68_38, zr68_39, zr68_40, zr68_41, zr68_42, f_isPlace, cp, rf]
