noncomputable section
/-! LAW: the reference reads, and keeps a law -/
def zFq (σ σ' : mS) : Prop := σ'.2 = σ.2 ∧ zB σ' ∧ (∀ r, r ≠ 68 → r ≠ 76 → r ≠ 77 → r ≠ 78 → σ'.1 r = σ.1 r) ∧ ∀ i, i ≠ 10 → i ≠ 11 → i ≠ 15 → i ≠ 16 → i ≠ 17 → i ≠ 18 → σ'.1 68 i = σ.1 68 i
theorem r_reads {T : Int → Int} {σ : mS} {n : Nat} (hB : zB σ) (hn : n ≤ 400) (hL : σ.1 68 10 = (n : Int)) (hT : ∀ j : Nat, j < n → σ.1 74 j = w8 (T j)) (hb : ∀ i : Nat, i < n → 0 ≤ T i ∧ T i < 256) :
    wpo (M_Mo_reads 68 σ) (fun q => zFq σ q.2 ∧ q.2.1 68 10 = 0 ∧ zMt (zKt' T n) (zVt' T n) (zSt' T n) (zfo T n n).1 q.2 ∧ (∀ j : Nat, j < (zfo T n n).1 → zVt' T n j ≤ 1000 → q.2.1 77 j = zVt' T n j) ∧ (((zTxt (zKt' T n) (zVt' T n)).1 = 1 ∧ q.1 = 1 ∧ q.2.1 68 11 = -1) ∨ ((zTxt (zKt' T n) (zVt' T n)).1 = 0 ∧ q.1 = 0 ∧ q.2.1 68 11 = zSt' T n (zTxt (zKt' T n) (zVt' T n)).2.1))) := by
  have hT' := zTx_of hn hb
  unfold M_Mo_reads
  refine wpo_bind.mpr (wpo_gf.mpr ⟨zk68 hB ▸ rfl, ?_⟩)
  rw [hL]
  refine wpo_bind.mpr (wpo_gk.mpr ⟨zk68 hB ▸ rfl, ?_⟩)
  refine wpo_call (r_splits hB hn hT hb) ?_
  intro p ⟨p1, p2⟩
  have mt := zMt_of p1.2.1 p2
  refine wpo_mono (r_text hT'.1 hT'.2 mt.1) ?_
  intro q ⟨q1, q2, q3⟩
  have f77 : q.2.1 77 = p.2.1 77 := q1.2.2.1 77 (by decide)
  refine ⟨⟨q1.1.trans p1.1, q1.2.1, fun r a b c d => (q1.2.2.1 r a).trans (p1.2.2.1 r a b c d), fun i a b c d e f => (q1.2.2.2 i a b d e f).trans (p1.2.2.2 i c)⟩, q2, ⟨q1.2.1, ?_, fun j hj => ?_⟩, fun j hj hv => by rw [f77]; exact mt.2 j hj hv, q3⟩
  · rw [q1.2.2.2 15 (by decide) (by decide) (by decide) (by decide) (by decide)]; exact mt.1.2.1
  · rw [q1.2.2.1 76 (by decide), q1.2.2.1 78 (by decide), f77]; exact mt.1.2.2 j hj
/-- what is kept, with one law more -/
def zLk (A C P : Int → Int) (t N m : Int) : Int → Int := fun j => if 194 + 400 * t ≤ j ∧ j < 194 + 400 * t + m then C (j - (194 + 400 * t)) else if 2594 + 400 * t ≤ j ∧ j < 2594 + 400 * t + m then P (j - (2594 + 400 * t)) else if j = 188 + t then N else A j
set_option maxHeartbeats 4000000 in
theorem r_keep {X : mS} {A : Int → Int} {t vv : Int} {N : Nat} (hB : zB X) (h70 : X.1 70 = zLk A (X.1 76) (X.1 77) t N 0) (h15 : X.1 68 15 = (N : Int)) (hN : N ≤ 400) (t0 : 0 ≤ t) (t1 : t < 6) (h186 : A 186 = t) (v68 : X.1 68 1 = vv) (vk : 0 ≤ vv ∧ vv ≤ 100000) :
    wpo (M_Mo_law_35 68 t 0 X) (fun z => ∃ Z, zPZ (zset (zLk A (X.1 76) (X.1 77) t N N) 186 (t + 1)) X Z ∧ z = (t, (mup (mup Z.1 68 0 0) 68 1 (vv + 1), Z.2))) := by
  unfold M_Mo_law_35
  refine loopN (fun m y => y.1 = (m : Int) ∧ zPZ (zLk A (X.1 76) (X.1 77) t N (m : Int)) X y.2) N _ _ (by omega) ⟨rfl, hB, rfl, fun u _ => rfl, h70⟩ ?_ ?_
  · intro m y hm ⟨y1, z1, z2, z3, z4⟩
    obtain ⟨l2, x⟩ := y
    simp only at y1 z1 z2 z3 z4
    have p0 : 0 ≤ l2 := by omega
    have p1 : l2 < 401 := by omega
    have c : l2 < (N : Int) := by omega
    have x15 : x.1 68 15 = (N : Int) := by rw [z3 68 (by decide)]; exact h15
    have x76 : x.1 76 l2 = X.1 76 l2 := by rw [z3 76 (by decide)]
    have x77 : x.1 77 l2 = X.1 77 l2 := by rw [z3 77 (by decide)]
    have w1 : ∀ u : Int, u = l2 → w32 (u + 1) = l2 + 1 := fun u hu => by rw [w32_in (by omega) (by omega)]; omega
    have w2 : ∀ u : Int, u = t → w32 (400 * u) = 400 * t := fun u hu => by rw [w32_in (by omega) (by omega)]; omega
    have w3 : ∀ u : Int, u = t → w32 (194 + 400 * u) = 194 + 400 * t := fun u hu => by rw [w32_in (by omega) (by omega)]; omega
    have w4 : ∀ u : Int, u = l2 → w32 (194 + 400 * t + u) = 194 + 400 * t + l2 := fun u hu => by rw [w32_in (by omega) (by omega)]; omega
    have w5 : ∀ u : Int, u = t → w32 (2594 + 400 * u) = 2594 + 400 * t := fun u hu => by rw [w32_in (by omega) (by omega)]; omega
    have w6 : ∀ u : Int, u = l2 → w32 (2594 + 400 * t + u) = 2594 + 400 * t + l2 := fun u hu => by rw [w32_in (by omega) (by omega)]; omega
    have d1 : 0 ≤ 194 + 400 * t + l2 ∧ 194 + 400 * t + l2 < 4994 := by omega
    have d2 : 0 ≤ 2594 + 400 * t + l2 ∧ 2594 + 400 * t + l2 < 4994 := by omega
    have b1 := zB_mup (r := 70) (i := 194 + 400 * t + l2) (v := X.1 76 l2) z1 (zokr_arr (by decide +kernel))
    have b2 := zB_mup (r := 70) (i := 2594 + 400 * t + l2) (v := X.1 77 l2) b1 (zokr_arr (by decide +kernel))
    have e : B_Mo_law_35 68 t l2 x = some (Sum.inl (l2 + 1, (mup (mup x.1 70 (194 + 400 * t + l2) (X.1 76 l2)) 70 (2594 + 400 * t + l2) (X.1 77 l2), x.2))) := wpo_is (by
      unfold B_Mo_law_35
      simp (maxSteps := 5000000) (disch := first | assumption | omega) only [wpo_bind, wpo_some, wpo_gf, wpo_gk, wpo_ld, wpo_pf, wpo_pz, wpo_sd, wpo_sr, wpo_ln, wpo_idv, wpo_irm, wpo_lrm, wpo_ldv, wpo_cpy, mlet, mnar_int, mup_same, mup_cell, mup_slot, ite_true, ite_false, true_and, and_true, eq_self, or_true, true_or, and_self, Int.reduceLT, Int.reduceLE, Int.reduceEq, Int.reduceNe, Int.reduceAdd, Int.reduceSub, Int.reduceMul, Int.reduceNeg, ne_eq, not_false_eq_true, not_true_eq_false, false_or, or_false, zor_inl, zor_inr, Bool.false_eq_true, false_and, and_false, zk1, zk2, zk3, zk4, zk5, zk6, zk7, zk8, zk9, zk10, zk11, zk12, zk13, zk14, zk15, zk16, zk17, zk18, zk19, zk20, zk21, zk22, zk23, zk24, zk25, zk26, zk27, zk28, zk29, zk30, zk31, zk32, zk33, zk34, zk35, zk36, zk37, zk38, zk39, zk40, zk41, zk42, zk43, zk44, zk45, zk46, zk47, zk48, zk49, zk50, zk51, zk52, zk53, zk54, zk55, zk56, zk57, zk58, zk59, zk60, zk61, zk62, zk63, zk64, zk65, zk66, zk67, zk68, zk69, zk70, zk71, zk72, zk73, zk74, zk75, zk76, zk77, zk78, zk79, zk80, zk81, zk82, zk83, zk84, zk85, zk86, zk87, zk88, zk89, zk90, zr2_0, zr2_1, zr2_2, zr2_3, zr2_4, zr2_6, zr2_7, zr2_10, zr2_11, zr2_12, zr1_0, zr1_1, zr14_0, zr14_1, zr14_2, zr14_3, zr14_4, zr14_6, zr14_7, zr14_10, zr14_11, zr14_12, zr13_0, zr25_0, zr25_1, zr25_2, zr25_3, zr25_4, zr25_6, zr25_7, zr25_10, zr25_11, zr25_12, zr13_1, zr1_2, zr37_0, zr1_3, zr39_0, zr39_1, zr39_2, zr39_5, zr39_7, zr39_8, zr1_4, zr46_1, zr46_2, zr46_3, zr46_4, zr46_0, zr1_5, zr51_2, zr51_10, zr51_0, zr51_1, zr54_1, zr54_2, zr54_3, zr1_6, zr58_1, zr58_2, zr58_3, zr58_0, zr1_7, zr62_2, zr62_3, zr62_0, zr62_1, zr1_8, zr1_9, zr1_10, zr1_15, zr68_2, zr68_3, zr68_4, zr68_5, zr68_7, zr68_8, zr68_9, zr68_12, zr68_13, zr68_14, zr68_22, zr68_23, zr68_24, zr68_26, zr68_35, zr68_36, zr68_37, zr68_38, zr68_39, zr68_40, zr68_41, zr68_42, x15, c, p0, p1, x76, x77, w1, w2, w3, w4, w5, w6, d1, d2])
    refine ⟨_, e, ?_, b2, z2, fun u hu => ?_, ?_⟩
    · show l2 + 1 = ((m + 1 : Nat) : Int)
      omega
    · show mup (mup x.1 70 (194 + 400 * t + l2) (X.1 76 l2)) 70 (2594 + 400 * t + l2) (X.1 77 l2) u = _
      rw [mup_fun hu, mup_fun hu]; exact z3 u hu
    · funext j
      show mup (mup x.1 70 (194 + 400 * t + l2) (X.1 76 l2)) 70 (2594 + 400 * t + l2) (X.1 77 l2) 70 j = _
      rw [mup_if, mup_if, z4]
      unfold zLk
      by_cases c1 : j = 2594 + 400 * t + l2
      · rw [if_pos c1, if_neg (by omega), if_pos (by omega)]
        exact congrArg (X.1 77) (by omega)
      · rw [if_neg c1]
        by_cases c2 : j = 194 + 400 * t + l2
        · rw [if_pos c2, if_pos (by omega)]
          exact congrArg (X.1 76) (by omega)
        · rw [if_neg c2]
          by_cases c3 : 194 + 400 * t ≤ j ∧ j < 194 + 400 * t + (m : Int)
          · rw [if_pos c3, if_pos (by omega)]
          · rw [if_neg c3, if_neg (c := 194 + 400 * t ≤ j ∧ j < 194 + 400 * t + ((m + 1 : Nat) : Int)) (by omega)]
            by_cases c4 : 2594 + 400 * t ≤ j ∧ j < 2594 + 400 * t + (m : Int)
            · rw [if_pos c4, if_pos (by omega)]
            · rw [if_neg c4, if_neg (c := 2594 + 400 * t ≤ j ∧ j < 2594 + 400 * t + ((m + 1 : Nat) : Int)) (by omega)]
  · intro y ⟨y1, z1, z2, z3, z4⟩
    obtain ⟨l2, x⟩ := y
    simp only at y1 z1 z2 z3 z4
    have c : ¬ l2 < (N : Int) := by omega
    have x15 : x.1 68 15 = (N : Int) := by rw [z3 68 (by decide)]; exact h15
    have x186 : x.1 70 186 = t := by
      rw [z4]
      unfold zLk
      rw [if_neg (by omega), if_neg (by omega), if_neg (by omega)]; exact h186
    have w1 : ∀ u : Int, u = t → w32 (u + 1) = t + 1 := fun u hu => by rw [w32_in (by omega) (by omega)]; omega
    have b1 := zB_mup (r := 70) (i := 186) (v := t + 1) z1 (zokr_arr (by decide +kernel))
    have pz : zPZ (zset (zLk A (X.1 76) (X.1 77) t N N) 186 (t + 1)) X (mup x.1 70 186 (t + 1), x.2) := by
      refine ⟨b1, z2, fun u hu => (mup_fun hu).trans (z3 u hu), ?_⟩
      show mup x.1 70 186 (t + 1) 70 = _
      rw [mup_zset, z4]
    have gd := f_good2 (v := t) pz v68 vk
    have e : B_Mo_law_35 68 t l2 x = some (Sum.inr (t, (mup (mup (mup x.1 70 186 (t + 1)) 68 0 0) 68 1 (vv + 1), x.2))) := wpo_is (by
      unfold B_Mo_law_35
      simp (maxSteps := 5000000) (disch := first | assumption | omega) only [wpo_bind, wpo_some, wpo_gf, wpo_gk, wpo_ld, wpo_pf, wpo_pz, wpo_sd, wpo_sr, wpo_ln, wpo_idv, wpo_irm, wpo_lrm, wpo_ldv, wpo_cpy, mlet, mnar_int, mup_same, mup_cell, mup_slot, ite_true, ite_false, true_and, and_true, eq_self, or_true, true_or, and_self, Int.reduceLT, Int.reduceLE, Int.reduceEq, Int.reduceNe, Int.reduceAdd, Int.reduceSub, Int.reduceMul, Int.reduceNeg, ne_eq, not_false_eq_true, not_true_eq_false, false_or, or_false, zor_inl, zor_inr, Bool.false_eq_true, false_and, and_false, zk1, zk2, zk3, zk4, zk5, zk6, zk7, zk8, zk9, zk10, zk11, zk12, zk13, zk14, zk15, zk16, zk17, zk18, zk19, zk20, zk21, zk22, zk23, zk24, zk25, zk26, zk27, zk28, zk29, zk30, zk31, zk32, zk33, zk34, zk35, zk36, zk37, zk38, zk39, zk40, zk41, zk42, zk43, zk44, zk45, zk46, zk47, zk48, zk49, zk50, zk51, zk52, zk53, zk54, zk55, zk56, zk57, zk58, zk59, zk60, zk61, zk62, zk63, zk64, zk65, zk66, zk67, zk68, zk69, zk70, zk71, zk72, zk73, zk74, zk75, zk76, zk77, zk78, zk79, zk80, zk81, zk82, zk83, zk84, zk85, zk86, zk87, zk88, zk89, zk90, zr2_0, zr2_1, zr2_2, zr2_3, zr2_4, zr2_6, zr2_7, zr2_10, zr2_11, zr2_12, zr1_0, zr1_1, zr14_0, zr14_1, zr14_2, zr14_3, zr14_4, zr14_6, zr14_7, zr14_10, zr14_11, zr14_12, zr13_0, zr25_0, zr25_1, zr25_2, zr25_3, zr25_4, zr25_6, zr25_7, zr25_10, zr25_11, zr25_12, zr13_1, zr1_2, zr37_0, zr1_3, zr39_0, zr39_1, zr39_2, zr39_5, zr39_7, zr39_8, zr1_4, zr46_1, zr46_2, zr46_3, zr46_4, zr46_0, zr1_5, zr51_2, zr51_10, zr51_0, zr51_1, zr54_1, zr54_2, zr54_3, zr1_6, zr58_1, zr58_2, zr58_3, zr58_0, zr1_7, zr62_2, zr62_3, zr62_0, zr62_1, zr1_8, zr1_9, zr1_10, zr1_15, zr68_2, zr68_3, zr68_4, zr68_5, zr68_7, zr68_8, zr68_9, zr68_12, zr68_13, zr68_14, zr68_22, zr68_23, zr68_24, zr68_26, zr68_35, zr68_36, zr68_37, zr68_38, zr68_39, zr68_40, zr68_41, zr68_42, x15, c, x186, w1, gd])
    exact ⟨_, e, _, pz, rfl⟩
/-- a law is refused by both: the tapes are empty, a fault may be told -/
theorem zRefL {k : Nat} {D : Int → (Int → Int) → Int} {A : Int → Int} {σ U V : mS} {by' m : Int} (h : zInv k D A σ) (hm : m = -by') (hb : 1 ≤ m ∧ m ≤ 6)
    (u2 : U.2 = σ.2) (uf : ∀ r, r ≠ 1 → r ≠ 37 → ¬ (39 ≤ r ∧ r ≤ 45) → U.1 r = σ.1 r) (u1 : ∀ i, i ≠ 13 → U.1 1 i = σ.1 1 i) (u37 : U.1 37 1 = 0)
    (vB : zB V) (v2 : V.2 = U.2) (vf : ∀ r, r ≠ 68 → r ≠ 76 → r ≠ 77 → r ≠ 78 → V.1 r = mup (mup U.1 1 14 by') 67 m (U.1 67 m + 1) r) (v68 : ∀ i, i ≠ 10 → i ≠ 11 → i ≠ 15 → i ≠ 16 → i ≠ 17 → i ≠ 18 → V.1 68 i = σ.1 68 i) (v10 : V.1 68 10 = 0) (vfa : U.1 1 13 = V.1 68 11) :
    zInv (k + 1) D A (mup (mup V.1 68 0 by') 69 m (V.1 69 m + 1), V.2) := by
  obtain ⟨q1, q2, q3, ⟨r1, r2, r3, r4, r5, r6, r7, r8, r9, r10⟩, q5, q6⟩ := h
  have b2 := zB_mup (r := 68) (i := 0) (v := by') vB (by decide +kernel)
  have b3 := zB_mup (r := 69) (i := m) (v := V.1 69 m + 1) b2 (zokr_arr (by decide +kernel))
  have e69 : V.1 69 = σ.1 69 := by rw [vf 69 (by decide) (by decide) (by decide) (by decide), mup_fun (by decide), mup_fun (by decide)]; exact uf 69 (by decide) (by decide) (by decide)
  have e67 : U.1 67 = σ.1 67 := uf 67 (by decide) (by decide) (by decide)
  have p1 : ∀ i, mup (mup V.1 68 0 by') 69 m (V.1 69 m + 1) 1 i = if i = 14 then by' else U.1 1 i := fun i => by rw [mup_cell (by decide), mup_cell (by decide), vf 1 (by decide) (by decide) (by decide) (by decide), mup_cell (by decide), mup_if]
  have p67 : ∀ i, mup (mup V.1 68 0 by') 69 m (V.1 69 m + 1) 67 i = if i = m then σ.1 67 m + 1 else σ.1 67 i := fun i => by rw [mup_cell (by decide), mup_cell (by decide), vf 67 (by decide) (by decide) (by decide) (by decide), mup_if, mup_cell (by decide), e67]
  have p69 : ∀ i, mup (mup V.1 68 0 by') 69 m (V.1 69 m + 1) 69 i = if i = m then σ.1 69 m + 1 else σ.1 69 i := fun i => by rw [mup_if, mup_cell (by decide), e69]
  have p68 : ∀ i, mup (mup V.1 68 0 by') 69 m (V.1 69 m + 1) 68 i = if i = 0 then by' else V.1 68 i := fun i => by rw [mup_cell (by decide), mup_if]
  have p37 : mup (mup V.1 68 0 by') 69 m (V.1 69 m + 1) 37 1 = 0 := by rw [mup_cell (by decide), mup_cell (by decide), vf 37 (by decide) (by decide) (by decide) (by decide), mup_cell (by decide), mup_cell (by decide)]; exact u37
  have pf' : ∀ r, (r ≠ 1 ∧ r ≠ 37 ∧ r ≠ 67 ∧ r ≠ 68 ∧ r ≠ 69) ∧ (r ≠ 76 ∧ r ≠ 77 ∧ r ≠ 78) ∧ ¬ (39 ≤ r ∧ r ≤ 45) → mup (mup V.1 68 0 by') 69 m (V.1 69 m + 1) r = σ.1 r := fun r x => by
    rw [mup_fun (by omega), mup_fun (by omega), vf r (by omega) (by omega) (by omega) (by omega), mup_fun (by omega), mup_fun (by omega)]; exact uf r (by omega) (by omega) (by omega)
  generalize eY : ((mup (mup V.1 68 0 by') 69 m (V.1 69 m + 1), V.2) : mS) = Y
  have g1 : ∀ i, Y.1 1 i = if i = 14 then by' else U.1 1 i := fun i => by rw [← eY]; exact p1 i
  have g67 : ∀ i, Y.1 67 i = if i = m then σ.1 67 m + 1 else σ.1 67 i := fun i => by rw [← eY]; exact p67 i
  have g69 : ∀ i, Y.1 69 i = if i = m then σ.1 69 m + 1 else σ.1 69 i := fun i => by rw [← eY]; exact p69 i
  have g68 : ∀ i, Y.1 68 i = if i = 0 then by' else V.1 68 i := fun i => by rw [← eY]; exact p68 i
  have g37 : Y.1 37 1 = 0 := by rw [← eY]; exact p37
  have gf' : ∀ r, (r ≠ 1 ∧ r ≠ 37 ∧ r ≠ 67 ∧ r ≠ 68 ∧ r ≠ 69) ∧ (r ≠ 76 ∧ r ≠ 77 ∧ r ≠ 78) ∧ ¬ (39 ≤ r ∧ r ≤ 45) → Y.1 r = σ.1 r := fun r x => by rw [← eY]; exact pf' r x
  have gB : zB Y := by rw [← eY]; exact b3
  have g2 : Y.2 = σ.2 := by rw [← eY]; exact v2.trans u2
  clear eY p1 p67 p69 p68 p37 pf' b2 b3
  have s68 : ∀ i, i ≠ 0 → i ≠ 10 ∧ i ≠ 11 ∧ i ≠ 15 ∧ i ≠ 16 ∧ i ≠ 17 ∧ i ≠ 18 → Y.1 68 i = σ.1 68 i := fun i x y => by rw [g68, if_neg x]; exact v68 i y.1 y.2.1 y.2.2.1 y.2.2.2.1 y.2.2.2.2.1 y.2.2.2.2.2
  refine ⟨zQ_fr q1 g2 gB (fun r hr => gf' r (by omega)), ?_, q3, ⟨?_, ?_, ?_, ?_, ?_, ?_, ?_, ?_, ?_, ?_⟩, ?_, ?_⟩
  · obtain ⟨_, hW, hb', hA, hM, hv, hc⟩ := q2
    exact ⟨gB, hW, hb', by rw [gf' 70 (by decide)]; exact hA, hM, by rw [s68 1 (by decide) (by decide)]; exact hv, by rw [s68 1 (by decide) (by decide), s68 25 (by decide) (by decide), gf' 80 (by decide), gf' 81 (by decide)]; exact hc⟩
  · rw [g1, if_pos rfl, g68, if_pos rfl]
  · intro j j0 j1
    have rj := r2 j j0 j1
    have rm := r2 m (by omega) (by omega)
    rw [g67, g69]
    by_cases cj : j = m
    · rw [if_pos cj, if_pos cj]; omega
    · rw [if_neg cj, if_neg cj]; omega
  · rw [g1, if_neg (by decide), u1 12 (by decide), s68 6 (by decide) (by decide)]; exact r3
  · rw [g1, if_neg (by decide), g68, if_neg (by decide)]; exact vfa
  · rw [g37, g68, if_neg (by decide), v10]; decide
  · rw [gf' 74 (by decide), gf' 38 (by decide)]; exact r6
  · rw [g1, if_neg (by decide), u1 11 (by decide), s68 43 (by decide) (by decide)]; exact r7
  · rw [gf' 65 (by decide), gf' 66 (by decide), gf' 89 (by decide), gf' 90 (by decide), s68 43 (by decide) (by decide)]; exact r8
  · intro p p0 p1
    rw [gf' 48 (by decide)]
    have := r9 p p0 p1
    omega
  · rw [s68 1 (by decide) (by decide)]; omega
  · exact zIm_fr q5 (zL0_fr q5.1 (fun r hr => gf' r (by omega))) (fun r hr => gf' r (by omega)) (fun b b0 _ _ _ j j0 j1 => gf' _ (by omega)) (fun r _ => by rw [g2]) (by rw [g2]; exact Int.le_refl _)
  · unfold zCn
    rw [gf' 47 (by decide), g2]
    exact ⟨by have := q6.1; omega, by have := q6.2; omega⟩
end
