/-! THE REFERENCE's split, whole -/
theorem sgn255 : ∀ t : Nat, t < 256 → w32 (100 + iand (w8 (t : Int)) 255) = 100 + (t : Int) := by decide +kernel
theorem zsrt_258 {b : Int} : zsrt b = 258 ↔ (97 ≤ b ∧ b ≤ 122) ∨ b = 258 := by
  unfold zsrt
  split
  · omega
  · split <;> omega
theorem zsrt_257 {b : Int} : zsrt b = 257 ↔ (48 ≤ b ∧ b ≤ 57) ∨ b = 257 := by
  unfold zsrt
  split
  · omega
  · split <;> omega
theorem w8_small {b : Int} (h : 0 ≤ b ∧ b < 256) : (97 ≤ w8 b ∧ w8 b ≤ 122) ↔ zsrt b = 258 := by
  rw [zsrt_258, w8_b h]; split <;> omega
theorem w8_digit {b : Int} (h : 0 ≤ b ∧ b < 256) : (48 ≤ w8 b ∧ w8 b ≤ 57) ↔ zsrt b = 257 := by
  rw [zsrt_257, w8_b h]; split <;> omega
theorem w8_blank {b : Int} (h : 0 ≤ b ∧ b < 256) : w8 b = 32 ↔ b = 32 := by rw [w8_b h]; split <;> omega
/-- what one token's reading must show -/
def zSq (T : Int → Int) (n : Nat) (to : Nat) (σ : mS) (z : (Int × mS) ⊕ (Int × mS)) : Prop := ∃ σ2, z = Sum.inl ((to : Int), σ2) ∧ zFz σ σ2 ∧ zTm (zfo T n to) σ2
theorem zad_j {x : zTs} {k s v : Int} : (zad x k s v).1 = x.1 + 1 ∧ (∀ j : Nat, j < x.1 → (zad x k s v).2.1 j = x.2.1 j ∧ (zad x k s v).2.2.1 j = x.2.2.1 j ∧ (zad x k s v).2.2.2 j = x.2.2.2 j) ∧ (zad x k s v).2.1 x.1 = k ∧ (zad x k s v).2.2.1 x.1 = s ∧ (zad x k s v).2.2.2 x.1 = v :=
  ⟨rfl, fun j hj => ⟨zud_ne (by omega), zud_ne (by omega), zud_ne (by omega)⟩, zud_same, zud_same, zud_same⟩
theorem zvr00 : zvr 0 0 := ⟨by decide, Or.inl ⟨rfl, by decide⟩⟩
set_option maxHeartbeats 4000000 in
theorem r_50s {T : Int → Int} {n k : Nat} {σ : mS} (hB : zB σ) (hx : (zfo T n k).1 ≤ 400) (h : zTm (zfo T n k) σ) (tb : 0 ≤ T k ∧ T k < 256) (c7 : zsrt (T k) ≠ 257) (c8 : zsrt (T k) ≠ 258) (c3 : T k ≠ 32) : wpo (M_Mo_splits_50 68 n k (w8 (T k)) ((k + 1 : Nat) : Int) σ) (zSq T n (k + 1) σ) := by
  have h1 := h.1
  have c0 : 0 ≤ ((zfo T n k).1 : Int) := by omega
  have c1 : ((zfo T n k).1 : Int) < 401 := by omega
  have es : zsrt (T k) = T k := by
    unfold zsrt at c7 c8 ⊢
    split
    · rename_i g; rw [if_pos g] at c8; omega
    · rename_i g
      rw [if_neg g] at c7
      split
      · rename_i g'; rw [if_pos g'] at c7; omega
      · rfl
  have ef : zfo T n (k + 1) = zad (zfo T n k) (T k) k 0 := by
    show zsp T n k (zfo T n k) = _
    unfold zsp
    rw [if_neg c7, if_neg c8, if_neg (by rw [es]; exact c3), es]
  have ec : ∀ u : Int, u = w8 (T k) → w32 (100 + iand u 255) = 100 + T k := fun u hu => by
    have := sgn255 (T k).toNat (by omega)
    rw [Int.toNat_of_nonneg tb.1] at this
    rw [hu]; exact this
  obtain ⟨f3, m3⟩ := r_mark (s := (k : Int)) (kd := 100 + T k) hB h
  have sm : ∀ X : mS, M_Mo_isSmall (w8 (T k)) X = some (0, X) := fun X => by rw [r_small, if_neg (fun g => c8 ((w8_small tb).mp g))]
  have dg : ∀ X : mS, M_Mo_isDigit (w8 (T k)) X = some (0, X) := fun X => by rw [r_digit, if_neg (fun g => c7 ((w8_digit tb).mp g))]
  obtain ⟨a1, a2, a3, a4, a5⟩ := zad_j (x := zfo T n k) (k := T k) (s := (k : Int)) (v := 0)
  have fin := r_87n (n := (n : Int)) (to := ((k + 1 : Nat) : Int)) (l5 := (k : Int)) (b := w8 (T k)) f3.2.1 hx (fun g => c7 ((w8_digit tb).mp g)) m3 a1 a2 ⟨by rw [a3]; unfold zphi; rw [if_neg (by omega), if_neg (by omega), if_pos (by omega)], a4, by rw [a5]; exact zvr00⟩
  generalize hQ : zSq T n (k + 1) σ = Q
  unfold M_Mo_splits_50
  simp (maxSteps := 5000000) (disch := first | assumption | omega) only [wpo_bind, wpo_some, wpo_gf, wpo_gk, wpo_ld, wpo_pf, wpo_pz, wpo_sd, wpo_sr, wpo_ln, wpo_idv, wpo_irm, wpo_lrm, wpo_ldv, wpo_cpy, mlet, mnar_int, mup_same, mup_cell, mup_slot, ite_true, ite_false, true_and, and_true, eq_self, or_true, true_or, and_self, Int.reduceLT, Int.reduceLE, Int.reduceEq, Int.reduceNe, Int.reduceAdd, Int.reduceSub, Int.reduceMul, Int.reduceNeg, ne_eq, not_false_eq_true, not_true_eq_false, false_or, or_false, zor_inl, zor_inr, Bool.false_eq_true, false_and, and_false, zk1, zk2, zk3, zk4, zk5, zk6, zk7, zk8, zk9, zk10, zk11, zk12, zk13, zk14, zk15, zk16, zk17, zk18, zk19, zk20, zk21, zk22, zk23, zk24, zk25, zk26, zk27, zk28, zk29, zk30, zk31, zk32, zk33, zk34, zk35, zk36, zk37, zk38, zk39, zk40, zk41, zk42, zk43, zk44, zk45, zk46, zk47, zk48, zk49, zk50, zk51, zk52, zk53, zk54, zk55, zk56, zk57, zk58, zk59, zk60, zk61, zk62, zk63, zk64, zk65, zk66, zk67, zk68, zk69, zk70, zk71, zk72, zk73, zk74, zk75, zk76, zk77, zk78, zk79, zk80, zk81, zk82, zk83, zk84, zk85, zk86, zk87, zk88, zk89, zk90, zr2_0, zr2_1, zr2_2, zr2_3, zr2_4, zr2_6, zr2_7, zr2_10, zr2_11, zr2_12, zr1_0, zr1_1, zr14_0, zr14_1, zr14_2, zr14_3, zr14_4, zr14_6, zr14_7, zr14_10, zr14_11, zr14_12, zr13_0, zr25_0, zr25_1, zr25_2, zr25_3, zr25_4, zr25_6, zr25_7, zr25_10, zr25_11, zr25_12, zr13_1, zr1_2, zr37_0, zr1_3, zr39_0, zr39_1, zr39_2, zr39_5, zr39_7, zr39_8, zr1_4, zr46_1, zr46_2, zr46_3, zr46_4, zr46_0, zr1_5, zr51_2, zr51_10, zr51_0, zr51_1, zr54_1, zr54_2, zr54_3, zr1_6, zr58_1, zr58_2, zr58_3, zr58_0, zr1_7, zr62_2, zr62_3, zr62_0, zr62_1, zr1_8, zr1_9, zr1_10, zr1_15, zr68_2, zr68_3, zr68_4, zr68_5, zr68_7, zr68_8, zr68_9, zr68_12, zr68_13, zr68_14, zr68_22, zr68_23, zr68_24, zr68_26, zr68_35, zr68_36, zr68_37, zr68_38, zr68_39, zr68_40, zr68_41, zr68_42, h1, c0, c1, sm, dg, ec]
  refine wpo_mono fin ?_
  intro z ⟨σ2, z1, z2, z3⟩
  rw [← hQ]
  exact ⟨σ2, z1, f3.trans z2, by rw [ef]; exact z3⟩
set_option maxHeartbeats 4000000 in
theorem r_50w {T : Int → Int} {n k to : Nat} {σ : mS} (hB : zB σ) (hn : n ≤ 400) (hx : (zfo T n k).1 ≤ 400) (h : zTm (zfo T n k) σ) (tb : 0 ≤ T k ∧ T k < 256) (c8 : zsrt (T k) = 258) (hb : zah T k ≠ 258) (ht : to = zwe T n 401 k) (hkt : k < to) (htn : to ≤ n) (hr : ∀ i : Nat, k ≤ i → i < to → zsrt (T i) = 258) (h74 : ∀ j : Nat, k ≤ j → j < to → σ.1 74 j = T j) : wpo (M_Mo_splits_50 68 n k (w8 (T k)) (to : Int) σ) (zSq T n to σ) := by
  have h1 := h.1
  have c0 : 0 ≤ ((zfo T n k).1 : Int) := by omega
  have c1 : ((zfo T n k).1 : Int) < 401 := by omega
  have ef := zfo_let (n := n) c8 hb to hkt hr
  rw [← ht] at ef
  obtain ⟨f3, m3⟩ := r_mark (s := (k : Int)) (kd := zphi (zwk T k to)) hB h
  have sm : ∀ X : mS, M_Mo_isSmall (w8 (T k)) X = some (1, X) := fun X => by rw [r_small, if_pos ((w8_small tb).mpr c8)]
  have n10 : ¬ (1 : Int) = 0 := by decide
  obtain ⟨a1, a2, a3, a4, a5⟩ := zad_j (x := zfo T n k) (k := zwk T k to) (s := (k : Int)) (v := 0)
  have nd : ¬ (48 ≤ w8 (T k) ∧ w8 (T k) ≤ 57) := fun g => by have := (w8_digit tb).mp g; omega
  have fin := r_87n (n := (n : Int)) (to := (to : Int)) (l5 := (k : Int)) (b := w8 (T k)) f3.2.1 hx nd m3 a1 a2 ⟨by rw [a3], a4, by rw [a5]; exact zvr00⟩
  have f1 := zFz_arr (r := 78) (i := ((zfo T n k).1 : Int)) (v := (k : Int)) hB (by decide)
  have f2 := zFz_arr (r := 77) (i := ((zfo T n k).1 : Int)) (v := 0) f1.2.1 (by decide)
  have hB2 := f2.2.1
  have wo := r_wordOf (T := T) (i := k) (e := to) hB2 (by omega) (by omega) (fun j a b => by rw [f2.2.2.1 74 (by decide) (by decide) (by decide) (by decide), f1.2.2.1 74 (by decide) (by decide) (by decide) (by decide)]; exact h74 j a b)
  generalize hQ : zSq T n to σ = Q
  unfold M_Mo_splits_50
  simp (maxSteps := 5000000) (disch := first | assumption | omega) only [wpo_bind, wpo_some, wpo_gf, wpo_gk, wpo_ld, wpo_pf, wpo_pz, wpo_sd, wpo_sr, wpo_ln, wpo_idv, wpo_irm, wpo_lrm, wpo_ldv, wpo_cpy, mlet, mnar_int, mup_same, mup_cell, mup_slot, ite_true, ite_false, true_and, and_true, eq_self, or_true, true_or, and_self, Int.reduceLT, Int.reduceLE, Int.reduceEq, Int.reduceNe, Int.reduceAdd, Int.reduceSub, Int.reduceMul, Int.reduceNeg, ne_eq, not_false_eq_true, not_true_eq_false, false_or, or_false, zor_inl, zor_inr, Bool.false_eq_true, false_and, and_false, zk1, zk2, zk3, zk4, zk5, zk6, zk7, zk8, zk9, zk10, zk11, zk12, zk13, zk14, zk15, zk16, zk17, zk18, zk19, zk20, zk21, zk22, zk23, zk24, zk25, zk26, zk27, zk28, zk29, zk30, zk31, zk32, zk33, zk34, zk35, zk36, zk37, zk38, zk39, zk40, zk41, zk42, zk43, zk44, zk45, zk46, zk47, zk48, zk49, zk50, zk51, zk52, zk53, zk54, zk55, zk56, zk57, zk58, zk59, zk60, zk61, zk62, zk63, zk64, zk65, zk66, zk67, zk68, zk69, zk70, zk71, zk72, zk73, zk74, zk75, zk76, zk77, zk78, zk79, zk80, zk81, zk82, zk83, zk84, zk85, zk86, zk87, zk88, zk89, zk90, zr2_0, zr2_1, zr2_2, zr2_3, zr2_4, zr2_6, zr2_7, zr2_10, zr2_11, zr2_12, zr1_0, zr1_1, zr14_0, zr14_1, zr14_2, zr14_3, zr14_4, zr14_6, zr14_7, zr14_10, zr14_11, zr14_12, zr13_0, zr25_0, zr25_1, zr25_2, zr25_3, zr25_4, zr25_6, zr25_7, zr25_10, zr25_11, zr25_12, zr13_1, zr1_2, zr37_0, zr1_3, zr39_0, zr39_1, zr39_2, zr39_5, zr39_7, zr39_8, zr1_4, zr46_1, zr46_2, zr46_3, zr46_4, zr46_0, zr1_5, zr51_2, zr51_10, zr51_0, zr51_1, zr54_1, zr54_2, zr54_3, zr1_6, zr58_1, zr58_2, zr58_3, zr58_0, zr1_7, zr62_2, zr62_3, zr62_0, zr62_1, zr1_8, zr1_9, zr1_10, zr1_15, zr68_2, zr68_3, zr68_4, zr68_5, zr68_7, zr68_8, zr68_9, zr68_12, zr68_13, zr68_14, zr68_22, zr68_23, zr68_24, zr68_26, zr68_35, zr68_36, zr68_37, zr68_38, zr68_39, zr68_40, zr68_41, zr68_42, h1, c0, c1, sm, n10, wo]
  refine wpo_mono fin ?_
  intro z ⟨σ2, z1, z2, z3⟩
  rw [← hQ]
  exact ⟨σ2, z1, f3.trans z2, by rw [ef]; exact z3⟩
set_option maxHeartbeats 4000000 in
theorem r_50d {T : Int → Int} {n k to : Nat} {σ : mS} (hB : zB σ) (hn : n ≤ 400) (hx : (zfo T n k).1 ≤ 400) (hg : ∀ m : Nat, m ≤ n → ∀ j : Nat, j < (zfo T n m).1 → 0 ≤ (zfo T n m).2.2.2 j) (h : zTm (zfo T n k) σ) (tb : ∀ i : Nat, i < n → 0 ≤ T i ∧ T i < 256) (c7 : zsrt (T k) = 257) (hb : zah T k ≠ 257) (hkt : k < to) (htn : to ≤ n) (hr : ∀ i : Nat, k ≤ i → i < to → zsrt (T i) = 257) (h74 : ∀ j : Nat, k ≤ j → j < to → σ.1 74 j = T j) : wpo (M_Mo_splits_50 68 n k (w8 (T k)) (to : Int) σ) (zSq T n to σ) := by
  have h1 := h.1
  have tk := tb k (by omega)
  have c0 : 0 ≤ ((zfo T n k).1 : Int) := by omega
  have c1 : ((zfo T n k).1 : Int) < 401 := by omega
  obtain ⟨f3, m3⟩ := r_mark (s := (k : Int)) (kd := 50) hB h
  have sm : ∀ X : mS, M_Mo_isSmall (w8 (T k)) X = some (0, X) := fun X => by rw [r_small, if_neg (fun g => by have := (w8_small tk).mp g; omega)]
  have dw := (w8_digit tk).mpr c7
  have dg : ∀ X : mS, M_Mo_isDigit (w8 (T k)) X = some (1, X) := fun X => by rw [r_digit, if_pos dw]
  have n10 : ¬ (1 : Int) = 0 := by decide
  have dig : ∀ i : Nat, k ≤ i → i < to → 48 ≤ T i ∧ T i ≤ 57 := fun i a b => by
    have := zsrt_257.mp (hr i a b)
    have := tb i (by omega)
    omega
  have loop : ∀ X : mS, zFz σ X → zTw (zfo T n k) 50 k 0 X → wpo (M_Mo_splits_87 68 n (w8 (T k)) to k X) (fun z => ∃ σ2, z = Sum.inl ((to : Int), σ2) ∧ zFz X σ2 ∧ zTm (zfo T n to) σ2) := by
    intro X fX wX
    unfold M_Mo_splits_87
    refine miter_mN (fun q y => ∃ (m : Nat) (a : Int), k ≤ m ∧ m ≤ to ∧ q = to - m ∧ y.1 = (m : Int) ∧ zFz X y.2 ∧ zTw (zfo T n k) 50 k a y.2 ∧ (0 ≤ a ∧ a ≤ 20000000) ∧ ((m = k ∧ a = 0) ∨ (k < m ∧ zvr a ((zfo T n m).2.2.2 (zfo T n k).1)))) ?_ (to - k) _ (by omega) ⟨k, 0, Nat.le_refl k, by omega, rfl, rfl, zFz.rfl' fX.2.1, wX, by decide, Or.inl ⟨rfl, rfl⟩⟩
    intro q y ⟨m, a, km, mt, hq, y1, y2, y3, ab, y4⟩
    obtain ⟨mm, Y⟩ := y
    simp only at y1 y2 y3
    subst y1
    show wpo (B_Mo_splits_87 68 n (w8 (T k)) to m Y) _
    by_cases c : m < to
    · have dm := dig m km c
      have t74 : Y.1 74 m = T m := by rw [y2.2.2.1 74 (by decide) (by decide) (by decide) (by decide), fX.2.2.1 74 (by decide) (by decide) (by decide) (by decide)]; exact h74 m km c
      refine wpo_mono (r_87step (n := (n : Int)) (to := (to : Int)) y2.2.1 hx dw y3 ab (by omega) (by omega) dm t74) ?_
      intro z ⟨Z, z1, z2, z3⟩
      rw [z1]
      refine ⟨to - (m + 1), by omega, m + 1, _, by omega, by omega, rfl, rfl, y2.trans z2, z3, ?_, Or.inr ⟨by omega, ?_⟩⟩
      · split <;> omega
      · rcases y4 with ⟨e, e0⟩ | ⟨lt, vr⟩
        · subst e
          rw [e0]
          have ev : (zfo T n (m + 1)).2.2.2 (zfo T n m).1 = T m - 48 := by
            show (zsp T n m (zfo T n m)).2.2.2 _ = _
            unfold zsp
            rw [if_pos c7, if_neg hb]
            exact zud_same
          rw [ev, if_neg (by decide)]
          exact ⟨by omega, Or.inl ⟨by omega, by omega⟩⟩
        · rw [zfo_dval c7 hb lt (fun i x y => hr i x (by omega))]
          refine zvr_step vr dm (hg m (by omega) _ ?_)
          rw [(zfo_dig (n := n) c7 hb m lt (fun i x y => hr i x (by omega))).1]
          omega
    · have em : m = to := by omega
      subst em
      rcases y4 with ⟨e, _⟩ | ⟨lt, vr⟩
      · omega
      · obtain ⟨i1, i2, i3, i4⟩ := zfo_dig (n := n) c7 hb m hkt hr
        unfold B_Mo_splits_87
        rw [if_neg (Int.lt_irrefl _)]
        have e127 := r_127 (n := (n : Int)) (to := (m : Int)) (y := zfo T n m) y2.2.1 hx y3 i1 (fun j hj => ⟨by rw [i2]; exact zud_ne (by omega), by rw [i3]; exact zud_ne (by omega), i4 j (by omega)⟩) ⟨by rw [i2, zud_same]; rfl, by rw [i3]; exact zud_same, vr⟩
        exact wpo_call e127 (fun z ⟨Z, z1, z2, z3⟩ => wpo_some.mpr ⟨Z, z1, y2.trans z2, z3⟩)
  have lp := loop _ f3 m3
  generalize hQ : zSq T n to σ = Q
  unfold M_Mo_splits_50
  simp (maxSteps := 5000000) (disch := first | assumption | omega) only [wpo_bind, wpo_some, wpo_gf, wpo_gk, wpo_ld, wpo_pf, wpo_pz, wpo_sd, wpo_sr, wpo_ln, wpo_idv, wpo_irm, wpo_lrm, wpo_ldv, wpo_cpy, mlet, mnar_int, mup_same, mup_cell, mup_slot, ite_true, ite_false, true_and, and_true, eq_self, or_true, true_or, and_self, Int.reduceLT, Int.reduceLE, Int.reduceEq, Int.reduceNe, Int.reduceAdd, Int.reduceSub, Int.reduceMul, Int.reduceNeg, ne_eq, not_false_eq_true, not_true_eq_false, false_or, or_false, zor_inl, zor_inr, Bool.false_eq_true, false_and, and_false, zk1, zk2, zk3, zk4, zk5, zk6, zk7, zk8, zk9, zk10, zk11, zk12, zk13, zk14, zk15, zk16, zk17, zk18, zk19, zk20, zk21, zk22, zk23, zk24, zk25, zk26, zk27, zk28, zk29, zk30, zk31, zk32, zk33, zk34, zk35, zk36, zk37, zk38, zk39, zk40, zk41, zk42, zk43, zk44, zk45, zk46, zk47, zk48, zk49, zk50, zk51, zk52, zk53, zk54, zk55, zk56, zk57, zk58, zk59, zk60, zk61, zk62, zk63, zk64, zk65, zk66, zk67, zk68, zk69, zk70, zk71, zk72, zk73, zk74, zk75, zk76, zk77, zk78, zk79, zk80, zk81, zk82, zk83, zk84, zk85, zk86, zk87, zk88, zk89, zk90, zr2_0, zr2_1, zr2_2, zr2_3, zr2_4, zr2_6, zr2_7, zr2_10, zr2_11, zr2_12, zr1_0, zr1_1, zr14_0, zr14_1, zr14_2, zr14_3, zr14_4, zr14_6, zr14_7, zr14_10, zr14_11, zr14_12, zr13_0, zr25_0, zr25_1, zr25_2, zr25_3, zr25_4, zr25_6, zr25_7, zr25_10, zr25_11, zr25_12, zr13_1, zr1_2, zr37_0, zr1_3, zr39_0, zr39_1, zr39_2, zr39_5, zr39_7, zr39_8, zr1_4, zr46_1, zr46_2, zr46_3, zr46_4, zr46_0, zr1_5, zr51_2, zr51_10, zr51_0, zr51_1, zr54_1, zr54_2, zr54_3, zr1_6, zr58_1, zr58_2, zr58_3, zr58_0, zr1_7, zr62_2, zr62_3, zr62_0, zr62_1, zr1_8, zr1_9, zr1_10, zr1_15, zr68_2, zr68_3, zr68_4, zr68_5, zr68_7, zr68_8, zr68_9, zr68_12, zr68_13, zr68_14, zr68_22, zr68_23, zr68_24, zr68_26, zr68_35, zr68_36, zr68_37, zr68_38, zr68_39, zr68_40, zr68_41, zr68_42, h1, c0, c1, sm, dg, n10]
  refine wpo_mono lp ?_
  intro z ⟨σ2, z1, z2, z3⟩
  rw [← hQ]
  exact ⟨σ2, z1, f3.trans z2, z3⟩
