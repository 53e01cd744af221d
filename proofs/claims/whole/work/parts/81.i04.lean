/-! RISE -/
theorem ztAN_cg {A A' : Int → Int} {p : Int} : ∀ n : Nat, (∀ t : Nat, t < n → A' (128 + (t : Int)) = A (128 + (t : Int))) → ztAN A' p n = ztAN A p n := by
  intro n
  induction n with
  | zero => intro _; rfl
  | succ n ih =>
    intro h
    unfold ztAN
    rw [ih (fun t ht => h t (by omega)), h n (by omega)]
theorem ztA_cg {A A' : Int → Int} {p : Int} (h1 : A' 184 = A 184) (h2 : ∀ t, 0 ≤ t → t < A 184 → A' (128 + t) = A (128 + t)) : ztA A' p = ztA A p := by
  unfold ztA
  rw [h1]
  exact ztAN_cg _ (fun t ht => h2 t (by omega) (by omega))
theorem zLm_cg {A A' : Int → Int} {t : Int} {d : (Int → Int) → Int} (h : zLm A t d) (hc : ∀ j, 188 ≤ j → j < 4994 → A' j = A j) : zLm A' t d := by
  obtain ⟨K, V, S, N, h1, h2, ⟨a1, a2, a3⟩, h4, h5⟩ := h
  have N4 := h1.1
  refine ⟨K, V, S, N, h1, h2, ⟨a1, by rw [hc _ (by omega) (by omega)]; exact a2, fun j hj => ?_⟩, h4, h5⟩
  rw [hc _ (by omega) (by omega), hc (2594 + (400 * t + (j : Int))) (by omega) (by omega)]
  exact a3 j hj
/-- accepted: what is beside the road -/
theorem zRs_acc {k : Nat} {σ σ2 : mS} (h : zRs k σ) (a1 : σ2.1 1 14 = 0) (a2 : σ2.1 68 0 = 0) (f : ∀ r, r = 37 ∨ r = 38 ∨ r = 65 ∨ r = 66 ∨ r = 67 ∨ r = 69 ∨ r = 74 ∨ r = 89 ∨ r = 90 → σ2.1 r = σ.1 r) (f1 : ∀ i, i = 11 ∨ i = 12 ∨ i = 13 → σ2.1 1 i = σ.1 1 i) (f68 : ∀ i, i = 6 ∨ i = 10 ∨ i = 11 ∨ i = 43 → σ2.1 68 i = σ.1 68 i) (ha : ∀ p, 0 ≤ p → p < 64 → σ2.1 48 p ≤ σ.1 48 p + 1) (hv : σ2.1 68 1 = σ.1 68 1 + 1) : zRs (k + 1) σ2 := by
  obtain ⟨r1, r2, r3, r4, r5, r6, r7, r8, r9, r10⟩ := h
  refine ⟨a1.trans a2.symm, fun j a b => ?_, ?_, ?_, ?_, ?_, ?_, ?_, fun p a b => ?_, by omega⟩
  · rw [f 67 (by decide), f 69 (by decide)]
    have := r2 j a b
    omega
  · rw [f1 12 (by decide), f68 6 (by decide)]; exact r3
  · rw [f1 13 (by decide), f68 11 (by decide)]; exact r4
  · rw [f 37 (by decide), f68 10 (by decide)]; exact r5
  · rw [f 74 (by decide), f 38 (by decide)]; exact r6
  · rw [f1 11 (by decide), f68 43 (by decide)]; exact r7
  · rw [f 65 (by decide), f 66 (by decide), f 89 (by decide), f 90 (by decide), f68 43 (by decide)]; exact r8
  · have := ha p a b
    have := r9 p a b
    omega
def zset (A : Int → Int) (i v : Int) : Int → Int := fun j => if j = i then v else A j
theorem zset_same {A : Int → Int} {i v : Int} : zset A i v i = v := if_pos rfl
theorem zset_ne {A : Int → Int} {i j v : Int} (h : j ≠ i) : zset A i v j = A j := if_neg h
theorem mup_zset {h : Int → Int → Int} {r i v : Int} : mup h r i v r = zset (h r) i v := by funext j; exact mup_if
set_option maxHeartbeats 8000000 in
theorem s_rise (k : Nat) (hk : k ≤ 1000) (p r : Int) : zStp k (M_RW_rise 1 p r) (M_Mo_rise 68 p r) := by
  intro D A σ hI
  have hI0 := hI
  obtain ⟨q1, q2, q3, q4, q5, q6⟩ := hI
  have hB := q1.1.1
  have hW := q1.1.2.1
  have hR := q1.1.2.2.1
  have h70 := q2.2.2.2.1
  have n10 : ¬ (1 : Int) = 0 := by decide
  by_cases c : (0 ≤ p ∧ p ≤ 63) ∧ (0 ≤ r ∧ r ≤ 31)
  · obtain ⟨cp, cr⟩ := c
    have p0 : 0 ≤ p := cp.1
    have p1 : p < 64 := by omega
    have ag := (q1.1.2.2.2.2.1 p p0 p1)
    have agk := q4.2.2.2.2.2.2.2.2.1 p p0 p1
    have vk := q2.2.2.2.2.2.1
    have e3 : σ.1 3 p = A p := (hR.1 p p0 p1).1
    -- the developers' program
    have b1 := zB_mup (r := 3) (i := p) (v := r) hB (zokr_arr (by decide +kernel))
    have b2 := zB_mup (r := 48) (i := p) (v := σ.1 48 p + 1) b1 (zokr_arr (by decide +kernel))
    have b3 := zB_mup (r := 1) (i := 14) (v := 0) b2 (by decide +kernel)
    have b4 := zB_mup (r := 58) (i := 4) (v := 0) b3 (by decide +kernel)
    have dev : wpo (M_RW_rise 1 p r σ) (fun q => q = (A p, (mup (mup (mup (mup σ.1 3 p r) 48 p (σ.1 48 p + 1)) 1 14 0) 58 4 0, σ.2))) := by
      have w1 : ∀ u : Int, u = σ.1 48 p → w32 (u + 1) = σ.1 48 p + 1 := fun u hu => by rw [w32_in (by omega) (by omega)]; omega
      have ac := e_accept (v := A p) b2
      unfold M_RW_rise M_Air_forgetPlace
      simp (maxSteps := 5000000) (disch := first | assumption | omega) only [wpo_bind, wpo_some, wpo_gf, wpo_gk, wpo_ld, wpo_pf, wpo_pz, wpo_sd, wpo_sr, wpo_ln, wpo_idv, wpo_irm, wpo_lrm, wpo_ldv, wpo_cpy, mlet, mnar_int, mup_same, mup_cell, mup_slot, ite_true, ite_false, true_and, and_true, eq_self, or_true, true_or, and_self, Int.reduceLT, Int.reduceLE, Int.reduceEq, Int.reduceNe, Int.reduceAdd, Int.reduceSub, Int.reduceMul, Int.reduceNeg, ne_eq, not_false_eq_true, not_true_eq_false, false_or, or_false, zor_inl, zor_inr, Bool.false_eq_true, false_and, and_false, zk1, zk2, zk3, zk4, zk5, zk6, zk7, zk8, zk9, zk10, zk11, zk12, zk13, zk14, zk15, zk16, zk17, zk18, zk19, zk20, zk21, zk22, zk23, zk24, zk25, zk26, zk27, zk28, zk29, zk30, zk31, zk32, zk33, zk34, zk35, zk36, zk37, zk38, zk39, zk40, zk41, zk42, zk43, zk44, zk45, zk46, zk47, zk48, zk49, zk50, zk51, zk52, zk53, zk54, zk55, zk56, zk57, zk58, zk59, zk60, zk61, zk62, zk63, zk64, zk65, zk66, zk67, zk68, zk69, zk70, zk71, zk72, zk73, zk74, zk75, zk76, zk77, zk78, zk79, zk80, zk81, zk82, zk83, zk84, zk85, zk86, zk87, zk88, zk89, zk90, zr2_0, zr2_1, zr2_2, zr2_3, zr2_4, zr2_6, zr2_7, zr2_10, zr2_11, zr2_12, zr1_0, zr1_1, zr14_0, zr14_1, zr14_2, zr14_3, zr14_4, zr14_6, zr14_7, zr14_10, zr14_11, zr14_12, zr13_0, zr25_0, zr25_1, zr25_2, zr25_3, zr25_4, zr25_6, zr25_7, zr25_10, zr25_11, zr25_12, zr13_1, zr1_2, zr37_0, zr1_3, zr39_0, zr39_1, zr39_2, zr39_5, zr39_7, zr39_8, zr1_4, zr46_1, zr46_2, zr46_3, zr46_4, zr46_0, zr1_5, zr51_2, zr51_10, zr51_0, zr51_1, zr54_1, zr54_2, zr54_3, zr1_6, zr58_1, zr58_2, zr58_3, zr58_0, zr1_7, zr62_2, zr62_3, zr62_0, zr62_1, zr1_8, zr1_9, zr1_10, zr1_15, zr68_2, zr68_3, zr68_4, zr68_5, zr68_7, zr68_8, zr68_9, zr68_12, zr68_13, zr68_14, zr68_22, zr68_23, zr68_24, zr68_26, zr68_35, zr68_36, zr68_37, zr68_38, zr68_39, zr68_40, zr68_41, zr68_42, e_isPlace, e_within, cp, cr, n10, p0, p1, e3, w1, ac]
    refine wpo_mono dev ?_
    intro q hq
    subst hq
    have fX : ∀ u, u ≠ 1 → u ≠ 3 → u ≠ 48 → u ≠ 58 → mup (mup (mup (mup σ.1 3 p r) 48 p (σ.1 48 p + 1)) 1 14 0) 58 4 0 u = σ.1 u := fun u a b c d => by rw [mup_fun d, mup_fun a, mup_fun c, mup_fun b]
    have x3 : mup (mup (mup (mup σ.1 3 p r) 48 p (σ.1 48 p + 1)) 1 14 0) 58 4 0 3 = zset (σ.1 3) p r := by rw [mup_fun (by decide), mup_fun (by decide), mup_fun (by decide), mup_zset]
    have x48 : mup (mup (mup (mup σ.1 3 p r) 48 p (σ.1 48 p + 1)) 1 14 0) 58 4 0 48 = zset (σ.1 48) p (σ.1 48 p + 1) := by rw [mup_fun (by decide), mup_fun (by decide), mup_zset, mup_fun (by decide)]
    have x1 : ∀ i, mup (mup (mup (mup σ.1 3 p r) 48 p (σ.1 48 p + 1)) 1 14 0) 58 4 0 1 i = if i = 14 then 0 else σ.1 1 i := fun i => by rw [mup_cell (by decide), mup_if, mup_cell (by decide), mup_cell (by decide)]
    have x58 : mup (mup (mup (mup σ.1 3 p r) 48 p (σ.1 48 p + 1)) 1 14 0) 58 4 0 58 4 = 0 := mup_same
    generalize eX : ((mup (mup (mup (mup σ.1 3 p r) 48 p (σ.1 48 p + 1)) 1 14 0) 58 4 0, σ.2) : mS) = X
    have gX : ∀ u, u ≠ 1 → u ≠ 3 → u ≠ 48 → u ≠ 58 → X.1 u = σ.1 u := fun u a b c d => by rw [← eX]; exact fX u a b c d
    have gX2 : X.2 = σ.2 := by rw [← eX]
    have g3 : X.1 3 = zset (σ.1 3) p r := by rw [← eX]; exact x3
    have g48 : X.1 48 = zset (σ.1 48) p (σ.1 48 p + 1) := by rw [← eX]; exact x48
    have g1 : ∀ i, X.1 1 i = if i = 14 then 0 else σ.1 1 i := fun i => by rw [← eX]; exact x1 i
    have g58 : X.1 58 4 = 0 := by rw [← eX]; exact x58
    have gB : zB X := by rw [← eX]; exact b4
    clear x1 x3 x48 x58 fX eX dev b1 b2 b3 b4
    have h70x : X.1 70 = A := (gX 70 (by decide) (by decide) (by decide) (by decide)).trans h70
    have v68 : X.1 68 = σ.1 68 := gX 68 (by decide) (by decide) (by decide) (by decide)
    -- the reference
    have d1 := zB_mup (r := 70) (i := p) (v := r) gB (zokr_arr (by decide +kernel))
    have d2 := zB_mup (r := 68) (i := 0) (v := 0) d1 (by decide +kernel)
    have d3 := zB_mup (r := 68) (i := 1) (v := σ.1 68 1 + 1) d2 (by decide +kernel)
    have ref : wpo (M_Mo_rise 68 p r X) (fun z => z = (A p, (mup (mup (mup X.1 70 p r) 68 0 0) 68 1 (σ.1 68 1 + 1), X.2))) := by
      have rs := f_riseOf (A := A) (p := p) gB h70x p0 p1
      have w1 : ∀ u : Int, u = p → w32 (0 + u) = p := fun u hu => by rw [w32_in (by omega) (by omega)]; omega
      have w2 : ∀ u : Int, u = p → w32 u = p := fun u hu => by rw [w32_in (by omega) (by omega)]; omega
      have c2 : p < 4994 := by omega
      have gd := f_good (v := A p) d1 (by show 0 ≤ mup X.1 70 p r 68 1 ∧ mup X.1 70 p r 68 1 ≤ 100000; rw [mup_cell (by decide), v68]; exact vk)
      have e1 : ((mup X.1 70 p r, X.2) : mS).1 68 1 = σ.1 68 1 := by show mup X.1 70 p r 68 1 = _; rw [mup_cell (by decide), v68]
      rw [e1] at gd
      unfold M_Mo_rise
      simp (maxSteps := 5000000) (disch := first | assumption | omega) only [wpo_bind, wpo_some, wpo_gf, wpo_gk, wpo_ld, wpo_pf, wpo_pz, wpo_sd, wpo_sr, wpo_ln, wpo_idv, wpo_irm, wpo_lrm, wpo_ldv, wpo_cpy, mlet, mnar_int, mup_same, mup_cell, mup_slot, ite_true, ite_false, true_and, and_true, eq_self, or_true, true_or, and_self, Int.reduceLT, Int.reduceLE, Int.reduceEq, Int.reduceNe, Int.reduceAdd, Int.reduceSub, Int.reduceMul, Int.reduceNeg, ne_eq, not_false_eq_true, not_true_eq_false, false_or, or_false, zor_inl, zor_inr, Bool.false_eq_true, false_and, and_false, zk1, zk2, zk3, zk4, zk5, zk6, zk7, zk8, zk9, zk10, zk11, zk12, zk13, zk14, zk15, zk16, zk17, zk18, zk19, zk20, zk21, zk22, zk23, zk24, zk25, zk26, zk27, zk28, zk29, zk30, zk31, zk32, zk33, zk34, zk35, zk36, zk37, zk38, zk39, zk40, zk41, zk42, zk43, zk44, zk45, zk46, zk47, zk48, zk49, zk50, zk51, zk52, zk53, zk54, zk55, zk56, zk57, zk58, zk59, zk60, zk61, zk62, zk63, zk64, zk65, zk66, zk67, zk68, zk69, zk70, zk71, zk72, zk73, zk74, zk75, zk76, zk77, zk78, zk79, zk80, zk81, zk82, zk83, zk84, zk85, zk86, zk87, zk88, zk89, zk90, zr2_0, zr2_1, zr2_2, zr2_3, zr2_4, zr2_6, zr2_7, zr2_10, zr2_11, zr2_12, zr1_0, zr1_1, zr14_0, zr14_1, zr14_2, zr14_3, zr14_4, zr14_6, zr14_7, zr14_10, zr14_11, zr14_12, zr13_0, zr25_0, zr25_1, zr25_2, zr25_3, zr25_4, zr25_6, zr25_7, zr25_10, zr25_11, zr25_12, zr13_1, zr1_2, zr37_0, zr1_3, zr39_0, zr39_1, zr39_2, zr39_5, zr39_7, zr39_8, zr1_4, zr46_1, zr46_2, zr46_3, zr46_4, zr46_0, zr1_5, zr51_2, zr51_10, zr51_0, zr51_1, zr54_1, zr54_2, zr54_3, zr1_6, zr58_1, zr58_2, zr58_3, zr58_0, zr1_7, zr62_2, zr62_3, zr62_0, zr62_1, zr1_8, zr1_9, zr1_10, zr1_15, zr68_2, zr68_3, zr68_4, zr68_5, zr68_7, zr68_8, zr68_9, zr68_12, zr68_13, zr68_14, zr68_22, zr68_23, zr68_24, zr68_26, zr68_35, zr68_36, zr68_37, zr68_38, zr68_39, zr68_40, zr68_41, zr68_42, f_isPlace, f_isInch, cp, cr, n10, rs, w1, w2, p0, c2, gd]
    refine wpo_mono ref ?_
    intro z hz
    subst hz
    refine ⟨rfl, D, zset A p r, ?_⟩
    have y70 : mup (mup (mup X.1 70 p r) 68 0 0) 68 1 (σ.1 68 1 + 1) 70 = zset A p r := by rw [mup_fun (by decide), mup_fun (by decide), mup_zset, h70x]
    have yX : ∀ u, u ≠ 68 → u ≠ 70 → mup (mup (mup X.1 70 p r) 68 0 0) 68 1 (σ.1 68 1 + 1) u = X.1 u := fun u a b => by rw [mup_fun a, mup_fun a, mup_fun b]
    have y68 : ∀ i, mup (mup (mup X.1 70 p r) 68 0 0) 68 1 (σ.1 68 1 + 1) 68 i = if i = 1 then σ.1 68 1 + 1 else if i = 0 then 0 else σ.1 68 i := fun i => by rw [mup_if, mup_if, mup_cell (by decide), v68]
    have cg : ∀ j, j ≠ p → zset A p r j = A j := fun j hj => zset_ne hj
    refine zChg (D := D) (A := A) (σ := σ) (σ1 := X) hI0 hk ?_ (fun t t0 t1 => zLm_cg (q3 t t0 (by rw [← cg 186 (by omega)]; exact t1)) (fun j a b => cg j (by omega))) gB ?_ ⟨by rw [gX2]; exact Int.le_refl _, by rw [gX2]; omega⟩ (by rw [gX2]; omega) (fun u _ => by rw [gX2]) (fun u hu => gX u (by omega) (by omega) (by omega) (by omega)) (zL0_fr q5.1 (fun u hu => gX u (by omega) (by omega) (by omega) (by omega))) ?_ ?_ g58 ?_ d3 rfl (fun u hu => yX u (by omega) (by omega)) y70 ?_ ?_ ?_ ?_
    · -- ranges
      obtain ⟨w1, w2, w3, w4, w5, w6, w7, w8, w9⟩ := hW
      have e184 := cg 184 (by omega)
      refine ⟨fun j j0 j1 => ?_, by rw [e184]; exact w2, fun t t0 t1 => ?_, fun t u t0 t1 u0 u1 e => ?_, by rw [cg 180 (by omega), cg 181 (by omega), cg 182 (by omega), cg 183 (by omega)]; exact w5, by rw [cg 185 (by omega)]; exact w6, fun j j0 j1 => ?_, by rw [cg 186 (by omega)]; exact w8, by rw [cg 186 (by omega), cg 187 (by omega)]; exact w9⟩
      · rw [cg (64 + j) (by omega)]
        have := w1 j j0 j1
        by_cases cj : j = p
        · rw [cj, zset_same]; rw [cj] at this; omega
        · rw [cg j cj]; omega
      · rw [cg _ (by omega), cg (136 + t) (by omega)]; rw [e184] at t1; exact w3 t t0 t1
      · rw [e184] at t1 u1
        rw [cg _ (by omega), cg (128 + u) (by omega)] at e
        exact w4 t u t0 t1 u0 u1 e
      · rw [cg 185 (by omega)] at j1
        rw [cg _ (by omega), cg (145 + 3 * j) (by omega), cg (146 + 3 * j) (by omega), e184]
        exact w7 j j0 j1
    · unfold zN; rw [gX2]; exact q1.2.1
    · -- the road
      obtain ⟨o1, o2, o3, o4, o5, o6, o7, o8⟩ := hR
      have x2 : X.1 2 = σ.1 2 := gX 2 (by decide) (by decide) (by decide) (by decide)
      refine ⟨fun j j0 j1 => ?_, fun t t0 t1 => ?_, by rw [x2, cg 184 (by omega)]; exact o3, fun j j0 j1 => ?_, by rw [x2, cg 186 (by omega)]; exact o5, by rw [x2, cg 187 (by omega)]; exact o6, fun j j0 j1 => ?_, by rw [x2, cg 185 (by omega)]; exact o8⟩
      · show X.1 3 j = _ ∧ X.1 4 j = _ ∧ X.1 5 j = _
        rw [g3, gX 4 (by decide) (by decide) (by decide) (by decide), gX 5 (by decide) (by decide) (by decide) (by decide), cg (64 + j) (by omega), ztA_cg (cg 184 (by omega)) (fun t t0 t1 => cg _ (by omega))]
        refine ⟨?_, (o1 j j0 j1).2⟩
        by_cases cj : j = p
        · rw [cj, zset_same, zset_same]
        · rw [zset_ne cj, zset_ne cj]; exact (o1 j j0 j1).1
      · show X.1 6 t = _ ∧ X.1 7 t = _
        rw [gX 6 (by decide) (by decide) (by decide) (by decide), gX 7 (by decide) (by decide) (by decide) (by decide), cg _ (by omega), cg (136 + t) (by omega)]
        exact o2 t t0 t1
      · show X.1 8 j = _
        rw [gX 8 (by decide) (by decide) (by decide) (by decide), cg _ (by omega)]
        exact o4 j j0 j1
      · show X.1 10 j = _ ∧ X.1 11 j = _ ∧ X.1 12 j = _
        rw [gX 10 (by decide) (by decide) (by decide) (by decide), gX 11 (by decide) (by decide) (by decide) (by decide), gX 12 (by decide) (by decide) (by decide) (by decide), cg _ (by omega), cg (145 + 3 * j) (by omega), cg (146 + 3 * j) (by omega)]
        exact o7 j j0 j1
    · intro t t0 t1
      rw [cg 186 (by omega)] at t1
      show zLaw X (X.1 9 t) (D t)
      rw [gX 9 (by decide) (by decide) (by decide) (by decide)]
      have l := q1.1.2.2.2.1 t t0 t1
      have l' : zLaw σ (σ.1 9 t) (D t) := l
      exact zLaw_frame l' (by rw [gX2]; exact Int.le_refl _) (fun j a b => ⟨gX _ (by have := l'.1.1; omega) (by have := l'.1.1; omega) (by have := l'.1.1; omega) (by have := l'.1.1; omega), by rw [gX2]⟩)
    · intro j j0 j1
      rw [g48]
      have aj := q1.1.2.2.2.2.1 j j0 j1
      have ak := q4.2.2.2.2.2.2.2.2.1 j j0 j1
      by_cases cj : j = p
      · rw [cj, zset_same]
        exact ⟨by omega, by omega, fun e => by omega⟩
      · rw [zset_ne cj]
        refine ⟨Int.le_refl _, by omega, fun _ s i => ?_⟩
        unfold zWd
        rw [cg 187 (by omega), cg j cj, cg (64 + j) (by omega)]
    · show mup (mup (mup X.1 70 p r) 68 0 0) 68 1 (σ.1 68 1 + 1) 68 1 = _
      rw [y68, if_pos rfl]
    · show mup (mup (mup X.1 70 p r) 68 0 0) 68 1 (σ.1 68 1 + 1) 68 25 = _
      rw [y68, if_neg (by decide), if_neg (by decide)]
    · show mup (mup (mup X.1 70 p r) 68 0 0) 68 1 (σ.1 68 1 + 1) 81 = _
      rw [yX 81 (by decide) (by decide)]; exact gX 81 (by decide) (by decide) (by decide) (by decide)
    · refine zRs_acc q4 ?_ ?_ (fun u hu => ?_) (fun i hi => ?_) (fun i hi => ?_) (fun j j0 j1 => ?_) ?_
      · show mup (mup (mup X.1 70 p r) 68 0 0) 68 1 (σ.1 68 1 + 1) 1 14 = 0
        rw [yX 1 (by decide) (by decide), g1, if_pos rfl]
      · show mup (mup (mup X.1 70 p r) 68 0 0) 68 1 (σ.1 68 1 + 1) 68 0 = 0
        rw [y68, if_neg (by decide), if_pos rfl]
      · show mup (mup (mup X.1 70 p r) 68 0 0) 68 1 (σ.1 68 1 + 1) u = _
        rw [yX u (by omega) (by omega)]; exact gX u (by omega) (by omega) (by omega) (by omega)
      · show mup (mup (mup X.1 70 p r) 68 0 0) 68 1 (σ.1 68 1 + 1) 1 i = _
        rw [yX 1 (by decide) (by decide), g1, if_neg (by omega)]
      · show mup (mup (mup X.1 70 p r) 68 0 0) 68 1 (σ.1 68 1 + 1) 68 i = _
        rw [y68, if_neg (by omega), if_neg (by omega)]
      · show mup (mup (mup X.1 70 p r) 68 0 0) 68 1 (σ.1 68 1 + 1) 48 j ≤ _
        rw [yX 48 (by decide) (by decide), g48]
        by_cases cj : j = p
        · rw [cj, zset_same]; omega
        · rw [zset_ne cj]; omega
      · show mup (mup (mup X.1 70 p r) 68 0 0) 68 1 (σ.1 68 1 + 1) 68 1 = _
        rw [y68, if_pos rfl]
  · refine zRefu (by' := -1) (m := 1) hI0 hk (by decide) (by decide) (fun rf => ?_) (fun σ1 hB1 _ rf => ?_)
    · unfold M_RW_rise
      by_cases cp : 0 ≤ p ∧ p ≤ 63
      · have cr : ¬ (0 ≤ r ∧ r ≤ 31) := fun x => c ⟨cp, x⟩
        simp (maxSteps := 5000000) (disch := first | assumption | omega) only [wpo_bind, wpo_some, wpo_gf, wpo_gk, wpo_ld, wpo_pf, wpo_pz, wpo_sd, wpo_sr, wpo_ln, wpo_idv, wpo_irm, wpo_lrm, wpo_ldv, wpo_cpy, mlet, mnar_int, mup_same, mup_cell, mup_slot, ite_true, ite_false, true_and, and_true, eq_self, or_true, true_or, and_self, Int.reduceLT, Int.reduceLE, Int.reduceEq, Int.reduceNe, Int.reduceAdd, Int.reduceSub, Int.reduceMul, Int.reduceNeg, ne_eq, not_false_eq_true, not_true_eq_false, false_or, or_false, zor_inl, zor_inr, Bool.false_eq_true, false_and, and_false, zk1, zk2, zk3, zk4, zk5, zk6, zk7, zk8, zk9, zk10, zk11, zk12, zk13, zk14, zk15, zk16, zk17, zk18, zk19, zk20, zk21, zk22, zk23, zk24, zk25, zk26, zk27, zk28, zk29, zk30, zk31, zk32, zk33, zk34, zk35, zk36, zk37, zk38, zk39, zk40, zk41, zk42, zk43, zk44, zk45, zk46, zk47, zk48, zk49, zk50, zk51, zk52, zk53, zk54, zk55, zk56, zk57, zk58, zk59, zk60, zk61, zk62, zk63, zk64, zk65, zk66, zk67, zk68, zk69, zk70, zk71, zk72, zk73, zk74, zk75, zk76, zk77, zk78, zk79, zk80, zk81, zk82, zk83, zk84, zk85, zk86, zk87, zk88, zk89, zk90, zr2_0, zr2_1, zr2_2, zr2_3, zr2_4, zr2_6, zr2_7, zr2_10, zr2_11, zr2_12, zr1_0, zr1_1, zr14_0, zr14_1, zr14_2, zr14_3, zr14_4, zr14_6, zr14_7, zr14_10, zr14_11, zr14_12, zr13_0, zr25_0, zr25_1, zr25_2, zr25_3, zr25_4, zr25_6, zr25_7, zr25_10, zr25_11, zr25_12, zr13_1, zr1_2, zr37_0, zr1_3, zr39_0, zr39_1, zr39_2, zr39_5, zr39_7, zr39_8, zr1_4, zr46_1, zr46_2, zr46_3, zr46_4, zr46_0, zr1_5, zr51_2, zr51_10, zr51_0, zr51_1, zr54_1, zr54_2, zr54_3, zr1_6, zr58_1, zr58_2, zr58_3, zr58_0, zr1_7, zr62_2, zr62_3, zr62_0, zr62_1, zr1_8, zr1_9, zr1_10, zr1_15, zr68_2, zr68_3, zr68_4, zr68_5, zr68_7, zr68_8, zr68_9, zr68_12, zr68_13, zr68_14, zr68_22, zr68_23, zr68_24, zr68_26, zr68_35, zr68_36, zr68_37, zr68_38, zr68_39, zr68_40, zr68_41, zr68_42, e_isPlace, e_within, cp, cr, n10, rf]
      · simp (maxSteps := 5000000) (disch := first | assumption | omega) only [wpo_bind, wpo_some, wpo_gf, wpo_gk, wpo_ld, wpo_pf, wpo_pz, wpo_sd, wpo_sr, wpo_ln, wpo_idv, wpo_irm, wpo_lrm, wpo_ldv, wpo_cpy, mlet, mnar_int, mup_same, mup_cell, mup_slot, ite_true, ite_false, true_and, and_true, eq_self, or_true, true_or, and_self, Int.reduceLT, Int.reduceLE, Int.reduceEq, Int.reduceNe, Int.reduceAdd, Int.reduceSub, Int.reduceMul, Int.reduceNeg, ne_eq, not_false_eq_true, not_true_eq_false, false_or, or_false, zor_inl, zor_inr, Bool.false_eq_true, false_and, and_false, zk1, zk2, zk3, zk4, zk5, zk6, zk7, zk8, zk9, zk10, zk11, zk12, zk13, zk14, zk15, zk16, zk17, zk18, zk19, zk20, zk21, zk22, zk23, zk24, zk25, zk26, zk27, zk28, zk29, zk30, zk31, zk32, zk33, zk34, zk35, zk36, zk37, zk38, zk39, zk40, zk41, zk42, zk43, zk44, zk45, zk46, zk47, zk48, zk49, zk50, zk51, zk52, zk53, zk54, zk55, zk56, zk57, zk58, zk59, zk60, zk61, zk62, zk63, zk64, zk65, zk66, zk67, zk68, zk69, zk70, zk71, zk72, zk73, zk74, zk75, zk76, zk77, zk78, zk79, zk80, zk81, zk82, zk83, zk84, zk85, zk86, zk87, zk88, zk89, zk90, zr2_0, zr2_1, zr2_2, zr2_3, zr2_4, zr2_6, zr2_7, zr2_10, zr2_11, zr2_12, zr1_0, zr1_1, zr14_0, zr14_1, zr14_2, zr14_3, zr14_4, zr14_6, zr14_7, zr14_10, zr14_11, zr14_12, zr13_0, zr25_0, zr25_1, zr25_2, zr25_3, zr25_4, zr25_6, zr25_7, zr25_10, zr25_11, zr25_12, zr13_1, zr1_2, zr37_0, zr1_3, zr39_0, zr39_1, zr39_2, zr39_5, zr39_7, zr39_8, zr1_4, zr46_1, zr46_2, zr46_3, zr46_4, zr46_0, zr1_5, zr51_2, zr51_10, zr51_0, zr51_1, zr54_1, zr54_2, zr54_3, zr1_6, zr58_1, zr58_2, zr58_3, zr58_0, zr1_7, zr62_2, zr62_3, zr62_0, zr62_1, zr1_8, zr1_9, zr1_10, zr1_15, zr68_2, zr68_3, zr68_4, zr68_5, zr68_7, zr68_8, zr68_9, zr68_12, zr68_13, zr68_14, zr68_22, zr68_23, zr68_24, zr68_26, zr68_35, zr68_36, zr68_37, zr68_38, zr68_39, zr68_40, zr68_41, zr68_42, e_isPlace, cp, rf]
    · unfold M_Mo_rise
      by_cases cp : 0 ≤ p ∧ p ≤ 63
      · have cr : ¬ (0 ≤ r ∧ r ≤ 31) := fun x => c ⟨cp, x⟩
        simp (maxSteps := 5000000) (disch := first | assumption | omega) only [wpo_bind, wpo_some, wpo_gf, wpo_gk, wpo_ld, wpo_pf, wpo_pz, wpo_sd, wpo_sr, wpo_ln, wpo_idv, wpo_irm, wpo_lrm, wpo_ldv, wpo_cpy, mlet, mnar_int, mup_same, mup_cell, mup_slot, ite_true, ite_false, true_and, and_true, eq_self, or_true, true_or, and_self, Int.reduceLT, Int.reduceLE, Int.reduceEq, Int.reduceNe, Int.reduceAdd, Int.reduceSub, Int.reduceMul, Int.reduceNeg, ne_eq, not_false_eq_true, not_true_eq_false, false_or, or_false, zor_inl, zor_inr, Bool.false_eq_true, false_and, and_false, zk1, zk2, zk3, zk4, zk5, zk6, zk7, zk8, zk9, zk10, zk11, zk12, zk13, zk14, zk15, zk16, zk17, zk18, zk19, zk20, zk21, zk22, zk23, zk24, zk25, zk26, zk27, zk28, zk29, zk30, zk31, zk32, zk33, zk34, zk35, zk36, zk37, zk38, zk39, zk40, zk41, zk42, zk43, zk44, zk45, zk46, zk47, zk48, zk49, zk50, zk51, zk52, zk53, zk54, zk55, zk56, zk57, zk58, zk59, zk60, zk61, zk62, zk63, zk64, zk65, zk66, zk67, zk68, zk69, zk70, zk71, zk72, zk73, zk74, zk75, zk76, zk77, zk78, zk79, zk80, zk81, zk82, zk83, zk84, zk85, zk86, zk87, zk88, zk89, zk90, zr2_0, zr2_1, zr2_2, zr2_3, zr2_4, zr2_6, zr2_7, zr2_10, zr2_11, zr2_12, zr1_0, zr1_1, zr14_0, zr14_1, zr14_2, zr14_3, zr14_4, zr14_6, zr14_7, zr14_10, zr14_11, zr14_12, zr13_0, zr25_0, zr25_1, zr25_2, zr25_3, zr25_4, zr25_6, zr25_7, zr25_10, zr25_11, zr25_12, zr13_1, zr1_2, zr37_0, zr1_3, zr39_0, zr39_1, zr39_2, zr39_5, zr39_7, zr39_8, zr1_4, zr46_1, zr46_2, zr46_3, zr46_4, zr46_0, zr1_5, zr51_2, zr51_10, zr51_0, zr51_1, zr54_1, zr54_2, zr54_3, zr1_6, zr58_1, zr58_2, zr58_3, zr58_0, zr1_7, zr62_2, zr62_3, zr62_0, zr62_1, zr1_8, zr1_9, zr1_10, zr1_15, zr68_2, zr68_3, zr68_4, zr68_5, zr68_7, zr68_8, zr68_9, zr68_12, zr68_13, zr68_14, zr68_22, zr68_23, zr68_24, zr68_26, zr68_35, zr68_36, zr68_37, zr68_38, zr68_39, zr68_40, zr68_41, zr68_42, f_isPlace, f_isInch, cp, cr, n10, rf]
      · simp (maxSteps := 5000000) (disch := first | assumption | omega) only [wpo_bind, wpo_some, wpo_gf, wpo_gk, wpo_ld, wpo_pf, wpo_pz, wpo_sd, wpo_sr, wpo_ln, wpo_idv, wpo_irm, wpo_lrm, wpo_ldv, wpo_cpy, mlet, mnar_int, mup_same, mup_cell, mup_slot, ite_true, ite_false, true_and, and_true, eq_self, or_true, true_or, and_self, Int.reduceLT, Int.reduceLE, Int.reduceEq, Int.reduceNe, Int.reduceAdd, Int.reduceSub, Int.reduceMul, Int.reduceNeg, ne_eq, not_false_eq_true, not_true_eq_false, false_or, or_false, zor_inl, zor_inr, Bool.false_eq_true, false_and, and_false, zk1, zk2, zk3, zk4, zk5, zk6, zk7, zk8, zk9, zk10, zk11, zk12, zk13, zk14, zk15, zk16, zk17, zk18, zk19, zk20, zk21, zk22, zk23, zk24, zk25, zk26, zk27, zk28, zk29, zk30, zk31, zk32, zk33, zk34, zk35, zk36, zk37, zk38, zk39, zk40, zk41, zk42, zk43, zk44, zk45, zk46, zk47, zk48, zk49, zk50, zk51, zk52, zk53, zk54, zk55, zk56, zk57, zk58, zk59, zk60, zk61, zk62, zk63, zk64, zk65, zk66, zk67, zk68, zk69, zk70, zk71, zk72, zk73, zk74, zk75, zk76, zk77, zk78, zk79, zk80, zk81, zk82, zk83, zk84, zk85, zk86, zk87, zk88, zk89, zk90, zr2_0, zr2_1, zr2_2, zr2_3, zr2_4, zr2_6, zr2_7, zr2_10, zr2_11, zr2_12, zr1_0, zr1_1, zr14_0, zr14_1, zr14_2, zr14_3, zr14_4, zr14_6, zr14_7, zr14_10, zr14_11, zr14_12, zr13_0, zr25_0, zr25_1, zr25_2, zr25_3, zr25_4, zr25_6, zr25_7, zr25_10, zr25_11, zr25_12, zr13_1, zr1_2, zr37_0, zr1_3, zr39_0, zr39_1, zr39_2, zr39_5, zr39_7, zr39_8, zr1_4, zr46_1, zr46_2, zr46_3, zr46_4, zr46_0, zr1_5, zr51_2, zr51_10, zr51_0, zr51_1, zr54_1, zr54_2, zr54_3, zr1_6, zr58_1, zr58_2, zr58_3, zr58_0, zr1_7, zr62_2, zr62_3, zr62_0, zr62_1, zr1_8, zr1_9, zr1_10, zr1_15, zr68_2, zr68_3, zr68_4, zr68_5, zr68_7, zr68_8, zr68_9, zr68_12, zr68_13, zr68_14, zr68_22, zr68_23, zr68_24, zr68_26, zr68_35, zr68_36, zr68_37, zr68_38, zr68_39, zr68_40, zr68_41, zr68_42, f_isPlace, cp, rf]
