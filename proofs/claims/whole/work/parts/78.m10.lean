noncomputable section
/-- the water seen so far: how many, the highest, the lowest -/
def zWaG (D : Int → (Int → Int) → Int) (A : Int → Int) : Nat → Int × Int × Int → Int × Int × Int := fun k x => if zWh D A (A 180) (A 181) (A 183) k = 2 then (x.1 + 1, (k : Int) - 100, if x.2.2 = -1000000 then (k : Int) - 100 else x.2.2) else x
def zWaP (D : Int → (Int → Int) → Int) (A : Int → Int) (k : Nat) : Bool := decide (zWh D A (A 180) (A 181) (A 183) k = 2)
theorem zWa_spec (D : Int → (Int → Int) → Int) (A : Int → Int) : ∀ n : Nat, n ≤ 100 → zit (zWaG D A) (0, -1000000, -1000000) n = (zit (zRayG (zWh D A (A 180) (A 181) (A 183)) 2) 0 n, (zla (zWaP D A) n).elim (-1000000) (fun k => (k : Int) - 100), (zsr (zWaP D A) n).elim (-1000000) (fun k => (k : Int) - 100)) := by
  intro n
  induction n with
  | zero => intro _; rfl
  | succ n ih =>
    intro hn
    have e := ih (by omega)
    show zWaG D A n (zit (zWaG D A) (0, -1000000, -1000000) n) = (zRayG (zWh D A (A 180) (A 181) (A 183)) 2 n (zit (zRayG (zWh D A (A 180) (A 181) (A 183)) 2) 0 n), (if zWaP D A n = true then some n else zla (zWaP D A) n).elim (-1000000) (fun k => (k : Int) - 100), (match zsr (zWaP D A) n with | some k => some k | none => if zWaP D A n = true then some n else none).elim (-1000000) (fun k => (k : Int) - 100))
    rw [e]
    unfold zWaG zRayG
    by_cases c : zWh D A (A 180) (A 181) (A 183) n = 2
    · have p : zWaP D A n = true := decide_eq_true c
      rw [if_pos c, if_pos c, if_pos p, if_pos p]
      cases es : zsr (zWaP D A) n with
      | none => rfl
      | some k =>
        have := (zsr_some es).2.1
        have ne : ¬ ((k : Int) - 100 = -1000000) := by omega
        show (_, _, if (k : Int) - 100 = -1000000 then _ else _) = _
        rw [if_neg ne]
        rfl
    · have p : ¬ zWaP D A n = true := by unfold zWaP; rw [decide_eq_true_eq]; exact c
      rw [if_neg c, if_neg c, if_neg p, if_neg p]
      cases es : zsr (zWaP D A) n with
      | none => rfl
      | some k => rfl
theorem zHw_la (D : Int → (Int → Int) → Int) (A : Int → Int) : (zHw D A).elim (-1000000) (fun k => -1 - (k : Int)) = (zla (zWaP D A) 100).elim (-1000000) (fun k => (k : Int) - 100) ∧ (zHw D A = none ↔ zla (zWaP D A) 100 = none) := by
  rcases zla_spec (zWaP D A) 100 with ⟨e, h⟩ | ⟨j, e, h1, h2, h3⟩
  · have : zHw D A = none := by
      unfold zHw
      refine zsr_none ?_
      intro k hk
      have := h (99 - k) (by omega)
      unfold zWaP at this
      have e2 : ((99 - k : Nat) : Int) = 99 - (k : Int) := by omega
      rw [e2] at this
      exact this
    rw [this, e]
    exact ⟨rfl, Iff.rfl.trans (by simp)⟩
  · have : zHw D A = some (99 - j) := by
      unfold zHw
      refine zsr_hit ?_ ?_ (by omega)
      · have e2 : (99 - ((99 - j : Nat) : Int)) = (j : Int) := by omega
        show decide (zWh D A (A 180) (A 181) (A 183) (99 - ((99 - j : Nat) : Int)) = 2) = true
        rw [e2]; exact h2
      · intro i hi
        have := h3 (99 - i) (by omega) (by omega)
        unfold zWaP at this
        have e2 : ((99 - i : Nat) : Int) = 99 - (i : Int) := by omega
        rw [e2] at this
        exact this
    rw [this, e]
    refine ⟨?_, by simp⟩
    show -1 - ((99 - j : Nat) : Int) = (j : Int) - 100
    omega
theorem zRay_zero (f : Int → Int) (t : Int) : ∀ n : Nat, (zit (zRayG f t) 0 n = 0 ↔ ∀ j : Nat, j < n → f j ≠ t) := by
  intro n
  induction n with
  | zero => exact ⟨fun _ j h => absurd h (Nat.not_lt_zero _), fun _ => rfl⟩
  | succ n ih =>
    have b := zit_cnt (g := zRayG f t) (fun k x => by unfold zRayG; split <;> omega) 0 n
    show zRayG f t n (zit (zRayG f t) 0 n) = 0 ↔ _
    unfold zRayG at ih b ⊢
    by_cases c : f n = t
    · rw [if_pos c]
      constructor
      · intro x; omega
      · intro x; exact absurd c (x n (by omega))
    · rw [if_neg c, ih]
      constructor
      · intro x j hj
        by_cases d : j = n
        · rw [d]; exact c
        · exact x j (by omega)
      · intro x j hj; exact x j (by omega)
set_option maxHeartbeats 4000000 in
theorem m_water {D : Int → (Int → Int) → Int} {A : Int → Int} {σ : mS} {w : Int} (h : zMQ D A σ) : wpo (M_Mo_water 68 w σ) (fun q => zMQ D A q.2 ∧ zKm σ q.2 ∧ q.1 = aWater D A w) := by
  have hB := h.1
  have tm := h.2.1.2.2.2.2.1
  have hl := zHw_la D A
  unfold M_Mo_water
  by_cases c1 : 0 ≤ w ∧ w ≤ 3
  · (try simp (disch := first | assumption | omega) only [wpo_bind, wpo_some, wpo_gf, wpo_gk, wpo_ld, wpo_pf, wpo_pz, wpo_sd, wpo_sr, wpo_ln, wpo_idv, wpo_irm, wpo_lrm, wpo_ldv, wpo_cpy, mlet, mnar_int, mup_same, mup_cell, mup_slot, ite_true, ite_false, true_and, and_true, eq_self, or_true, true_or, and_self, Int.reduceLT, Int.reduceLE, Int.reduceEq, Int.reduceNe, Int.reduceAdd, Int.reduceSub, Int.reduceMul, Int.reduceNeg, ne_eq, not_false_eq_true, not_true_eq_false, false_or, or_false, zor_inl, zor_inr, Bool.false_eq_true, false_and, and_false, zk1, zk2, zk3, zk4, zk5, zk6, zk7, zk8, zk9, zk10, zk11, zk12, zk13, zk14, zk15, zk16, zk17, zk18, zk19, zk20, zk21, zk22, zk23, zk24, zk25, zk26, zk27, zk28, zk29, zk30, zk31, zk32, zk33, zk34, zk35, zk36, zk37, zk38, zk39, zk40, zk41, zk42, zk43, zk44, zk45, zk46, zk47, zk48, zk49, zk50, zk51, zk52, zk53, zk54, zk55, zk56, zk57, zk58, zk59, zk60, zk61, zk62, zk63, zk64, zk65, zk66, zk67, zk68, zk69, zk70, zk71, zk72, zk73, zk74, zk75, zk76, zk77, zk78, zk79, zk80, zk81, zk82, zk83, zk84, zk85, zk86, zk87, zk88, zk89, zk90, zr2_0, zr2_1, zr2_2, zr2_3, zr2_4, zr2_6, zr2_7, zr2_10, zr2_11, zr2_12, zr1_0, zr1_1, zr14_0, zr14_1, zr14_2, zr14_3, zr14_4, zr14_6, zr14_7, zr14_10, zr14_11, zr14_12, zr13_0, zr25_0, zr25_1, zr25_2, zr25_3, zr25_4, zr25_6, zr25_7, zr25_10, zr25_11, zr25_12, zr13_1, zr1_2, zr37_0, zr1_3, zr39_0, zr39_1, zr39_2, zr39_5, zr39_7, zr39_8, zr1_4, zr46_1, zr46_2, zr46_3, zr46_4, zr46_0, zr1_5, zr51_2, zr51_10, zr51_0, zr51_1, zr54_1, zr54_2, zr54_3, zr1_6, zr58_1, zr58_2, zr58_3, zr58_0, zr1_7, zr62_2, zr62_3, zr62_0, zr62_1, zr1_8, zr1_9, zr1_10, zr1_15, zr68_2, zr68_3, zr68_4, zr68_5, zr68_7, zr68_8, zr68_9, zr68_12, zr68_13, zr68_14, zr68_22, zr68_23, zr68_24, zr68_26, zr68_35, zr68_36, zr68_37, zr68_38, zr68_39, zr68_40, zr68_41, zr68_42, e_lies, c1])
    unfold M_Mo_water_15
    refine loopH (fun k x y => y.1 = x.1 ∧ y.2.1 = x.2.1 ∧ y.2.2.1 = x.2.2 ∧ y.2.2.2.1 = (k : Int) - 100 ∧ zMQ D A y.2.2.2.2 ∧ zKm σ y.2.2.2.2) (zWaG D A) (0, -1000000, -1000000) 100 _ _ (by decide) ⟨rfl, rfl, rfl, rfl, h, zKm.rfl' hB⟩ ?_ ?_
    · intro k x y hk hx ⟨y1, y2, y3, y4, y5, y6⟩
      obtain ⟨l2, l3, l4, l5, σ'⟩ := y
      obtain ⟨x1, x2, x3⟩ := x
      simp only at y1 y2 y3 y4 y5 y6
      subst y1; subst y2; subst y3; subst y4
      have hB' := y5.1
      have c2 : (k : Int) - 100 < 0 := by omega
      have w2 : w32 ((k : Int) - 100 + 1) = ((k + 1 : Nat) : Int) - 100 := by rw [w32_in (by omega) (by omega)]; omega
      have rg := zit_cnt (g := zRayG (zWh D A (A 180) (A 181) (A 183)) 2) (fun k x => by unfold zRayG; split <;> omega) 0 k
      rw [zWa_spec D A k (by omega)] at hx
      have hx1 := congrArg Prod.fst hx
      simp only at hx1
      rw [← hx1] at rg
      have w1 : w32 (l2 + 1) = l2 + 1 := w32_in (by omega) (by omega)
      show wpo (B_Mo_water_15 68 w l2 l3 l4 ((k : Int) - 100) σ') _
      unfold B_Mo_water_15
      (try simp (disch := first | assumption | omega) only [wpo_bind, wpo_some, wpo_gf, wpo_gk, wpo_ld, wpo_pf, wpo_pz, wpo_sd, wpo_sr, wpo_ln, wpo_idv, wpo_irm, wpo_lrm, wpo_ldv, wpo_cpy, mlet, mnar_int, mup_same, mup_cell, mup_slot, ite_true, ite_false, true_and, and_true, eq_self, or_true, true_or, and_self, Int.reduceLT, Int.reduceLE, Int.reduceEq, Int.reduceNe, Int.reduceAdd, Int.reduceSub, Int.reduceMul, Int.reduceNeg, ne_eq, not_false_eq_true, not_true_eq_false, false_or, or_false, zor_inl, zor_inr, Bool.false_eq_true, false_and, and_false, zk1, zk2, zk3, zk4, zk5, zk6, zk7, zk8, zk9, zk10, zk11, zk12, zk13, zk14, zk15, zk16, zk17, zk18, zk19, zk20, zk21, zk22, zk23, zk24, zk25, zk26, zk27, zk28, zk29, zk30, zk31, zk32, zk33, zk34, zk35, zk36, zk37, zk38, zk39, zk40, zk41, zk42, zk43, zk44, zk45, zk46, zk47, zk48, zk49, zk50, zk51, zk52, zk53, zk54, zk55, zk56, zk57, zk58, zk59, zk60, zk61, zk62, zk63, zk64, zk65, zk66, zk67, zk68, zk69, zk70, zk71, zk72, zk73, zk74, zk75, zk76, zk77, zk78, zk79, zk80, zk81, zk82, zk83, zk84, zk85, zk86, zk87, zk88, zk89, zk90, zr2_0, zr2_1, zr2_2, zr2_3, zr2_4, zr2_6, zr2_7, zr2_10, zr2_11, zr2_12, zr1_0, zr1_1, zr14_0, zr14_1, zr14_2, zr14_3, zr14_4, zr14_6, zr14_7, zr14_10, zr14_11, zr14_12, zr13_0, zr25_0, zr25_1, zr25_2, zr25_3, zr25_4, zr25_6, zr25_7, zr25_10, zr25_11, zr25_12, zr13_1, zr1_2, zr37_0, zr1_3, zr39_0, zr39_1, zr39_2, zr39_5, zr39_7, zr39_8, zr1_4, zr46_1, zr46_2, zr46_3, zr46_4, zr46_0, zr1_5, zr51_2, zr51_10, zr51_0, zr51_1, zr54_1, zr54_2, zr54_3, zr1_6, zr58_1, zr58_2, zr58_3, zr58_0, zr1_7, zr62_2, zr62_3, zr62_0, zr62_1, zr1_8, zr1_9, zr1_10, zr1_15, zr68_2, zr68_3, zr68_4, zr68_5, zr68_7, zr68_8, zr68_9, zr68_12, zr68_13, zr68_14, zr68_22, zr68_23, zr68_24, zr68_26, zr68_35, zr68_36, zr68_37, zr68_38, zr68_39, zr68_40, zr68_41, zr68_42, c2])
      refine wpo_mono (m_goesNow y5 (a := (k : Int) - 100) (by omega)) ?_
      intro q ⟨q1, qk, qr⟩
      have hBq := q1.1
      have e27 : q.2.1 68 27 = zWh D A (A 180) (A 181) (A 183) k := qr.1
      have kk := y6.trans qk.1
      unfold zWaG
      by_cases d1 : zWh D A (A 180) (A 181) (A 183) k = 2
      · by_cases d2 : l4 = -1000000
        · (try simp (disch := first | assumption | omega) only [wpo_bind, wpo_some, wpo_gf, wpo_gk, wpo_ld, wpo_pf, wpo_pz, wpo_sd, wpo_sr, wpo_ln, wpo_idv, wpo_irm, wpo_lrm, wpo_ldv, wpo_cpy, mlet, mnar_int, mup_same, mup_cell, mup_slot, ite_true, ite_false, true_and, and_true, eq_self, or_true, true_or, and_self, Int.reduceLT, Int.reduceLE, Int.reduceEq, Int.reduceNe, Int.reduceAdd, Int.reduceSub, Int.reduceMul, Int.reduceNeg, ne_eq, not_false_eq_true, not_true_eq_false, false_or, or_false, zor_inl, zor_inr, Bool.false_eq_true, false_and, and_false, zk1, zk2, zk3, zk4, zk5, zk6, zk7, zk8, zk9, zk10, zk11, zk12, zk13, zk14, zk15, zk16, zk17, zk18, zk19, zk20, zk21, zk22, zk23, zk24, zk25, zk26, zk27, zk28, zk29, zk30, zk31, zk32, zk33, zk34, zk35, zk36, zk37, zk38, zk39, zk40, zk41, zk42, zk43, zk44, zk45, zk46, zk47, zk48, zk49, zk50, zk51, zk52, zk53, zk54, zk55, zk56, zk57, zk58, zk59, zk60, zk61, zk62, zk63, zk64, zk65, zk66, zk67, zk68, zk69, zk70, zk71, zk72, zk73, zk74, zk75, zk76, zk77, zk78, zk79, zk80, zk81, zk82, zk83, zk84, zk85, zk86, zk87, zk88, zk89, zk90, zr2_0, zr2_1, zr2_2, zr2_3, zr2_4, zr2_6, zr2_7, zr2_10, zr2_11, zr2_12, zr1_0, zr1_1, zr14_0, zr14_1, zr14_2, zr14_3, zr14_4, zr14_6, zr14_7, zr14_10, zr14_11, zr14_12, zr13_0, zr25_0, zr25_1, zr25_2, zr25_3, zr25_4, zr25_6, zr25_7, zr25_10, zr25_11, zr25_12, zr13_1, zr1_2, zr37_0, zr1_3, zr39_0, zr39_1, zr39_2, zr39_5, zr39_7, zr39_8, zr1_4, zr46_1, zr46_2, zr46_3, zr46_4, zr46_0, zr1_5, zr51_2, zr51_10, zr51_0, zr51_1, zr54_1, zr54_2, zr54_3, zr1_6, zr58_1, zr58_2, zr58_3, zr58_0, zr1_7, zr62_2, zr62_3, zr62_0, zr62_1, zr1_8, zr1_9, zr1_10, zr1_15, zr68_2, zr68_3, zr68_4, zr68_5, zr68_7, zr68_8, zr68_9, zr68_12, zr68_13, zr68_14, zr68_22, zr68_23, zr68_24, zr68_26, zr68_35, zr68_36, zr68_37, zr68_38, zr68_39, zr68_40, zr68_41, zr68_42, e27, d1, d2, w1, w2])
          exact ⟨q1, kk⟩
        · (try simp (disch := first | assumption | omega) only [wpo_bind, wpo_some, wpo_gf, wpo_gk, wpo_ld, wpo_pf, wpo_pz, wpo_sd, wpo_sr, wpo_ln, wpo_idv, wpo_irm, wpo_lrm, wpo_ldv, wpo_cpy, mlet, mnar_int, mup_same, mup_cell, mup_slot, ite_true, ite_false, true_and, and_true, eq_self, or_true, true_or, and_self, Int.reduceLT, Int.reduceLE, Int.reduceEq, Int.reduceNe, Int.reduceAdd, Int.reduceSub, Int.reduceMul, Int.reduceNeg, ne_eq, not_false_eq_true, not_true_eq_false, false_or, or_false, zor_inl, zor_inr, Bool.false_eq_true, false_and, and_false, zk1, zk2, zk3, zk4, zk5, zk6, zk7, zk8, zk9, zk10, zk11, zk12, zk13, zk14, zk15, zk16, zk17, zk18, zk19, zk20, zk21, zk22, zk23, zk24, zk25, zk26, zk27, zk28, zk29, zk30, zk31, zk32, zk33, zk34, zk35, zk36, zk37, zk38, zk39, zk40, zk41, zk42, zk43, zk44, zk45, zk46, zk47, zk48, zk49, zk50, zk51, zk52, zk53, zk54, zk55, zk56, zk57, zk58, zk59, zk60, zk61, zk62, zk63, zk64, zk65, zk66, zk67, zk68, zk69, zk70, zk71, zk72, zk73, zk74, zk75, zk76, zk77, zk78, zk79, zk80, zk81, zk82, zk83, zk84, zk85, zk86, zk87, zk88, zk89, zk90, zr2_0, zr2_1, zr2_2, zr2_3, zr2_4, zr2_6, zr2_7, zr2_10, zr2_11, zr2_12, zr1_0, zr1_1, zr14_0, zr14_1, zr14_2, zr14_3, zr14_4, zr14_6, zr14_7, zr14_10, zr14_11, zr14_12, zr13_0, zr25_0, zr25_1, zr25_2, zr25_3, zr25_4, zr25_6, zr25_7, zr25_10, zr25_11, zr25_12, zr13_1, zr1_2, zr37_0, zr1_3, zr39_0, zr39_1, zr39_2, zr39_5, zr39_7, zr39_8, zr1_4, zr46_1, zr46_2, zr46_3, zr46_4, zr46_0, zr1_5, zr51_2, zr51_10, zr51_0, zr51_1, zr54_1, zr54_2, zr54_3, zr1_6, zr58_1, zr58_2, zr58_3, zr58_0, zr1_7, zr62_2, zr62_3, zr62_0, zr62_1, zr1_8, zr1_9, zr1_10, zr1_15, zr68_2, zr68_3, zr68_4, zr68_5, zr68_7, zr68_8, zr68_9, zr68_12, zr68_13, zr68_14, zr68_22, zr68_23, zr68_24, zr68_26, zr68_35, zr68_36, zr68_37, zr68_38, zr68_39, zr68_40, zr68_41, zr68_42, e27, d1, d2, w1, w2])
          exact ⟨q1, kk⟩
      · (try simp (disch := first | assumption | omega) only [wpo_bind, wpo_some, wpo_gf, wpo_gk, wpo_ld, wpo_pf, wpo_pz, wpo_sd, wpo_sr, wpo_ln, wpo_idv, wpo_irm, wpo_lrm, wpo_ldv, wpo_cpy, mlet, mnar_int, mup_same, mup_cell, mup_slot, ite_true, ite_false, true_and, and_true, eq_self, or_true, true_or, and_self, Int.reduceLT, Int.reduceLE, Int.reduceEq, Int.reduceNe, Int.reduceAdd, Int.reduceSub, Int.reduceMul, Int.reduceNeg, ne_eq, not_false_eq_true, not_true_eq_false, false_or, or_false, zor_inl, zor_inr, Bool.false_eq_true, false_and, and_false, zk1, zk2, zk3, zk4, zk5, zk6, zk7, zk8, zk9, zk10, zk11, zk12, zk13, zk14, zk15, zk16, zk17, zk18, zk19, zk20, zk21, zk22, zk23, zk24, zk25, zk26, zk27, zk28, zk29, zk30, zk31, zk32, zk33, zk34, zk35, zk36, zk37, zk38, zk39, zk40, zk41, zk42, zk43, zk44, zk45, zk46, zk47, zk48, zk49, zk50, zk51, zk52, zk53, zk54, zk55, zk56, zk57, zk58, zk59, zk60, zk61, zk62, zk63, zk64, zk65, zk66, zk67, zk68, zk69, zk70, zk71, zk72, zk73, zk74, zk75, zk76, zk77, zk78, zk79, zk80, zk81, zk82, zk83, zk84, zk85, zk86, zk87, zk88, zk89, zk90, zr2_0, zr2_1, zr2_2, zr2_3, zr2_4, zr2_6, zr2_7, zr2_10, zr2_11, zr2_12, zr1_0, zr1_1, zr14_0, zr14_1, zr14_2, zr14_3, zr14_4, zr14_6, zr14_7, zr14_10, zr14_11, zr14_12, zr13_0, zr25_0, zr25_1, zr25_2, zr25_3, zr25_4, zr25_6, zr25_7, zr25_10, zr25_11, zr25_12, zr13_1, zr1_2, zr37_0, zr1_3, zr39_0, zr39_1, zr39_2, zr39_5, zr39_7, zr39_8, zr1_4, zr46_1, zr46_2, zr46_3, zr46_4, zr46_0, zr1_5, zr51_2, zr51_10, zr51_0, zr51_1, zr54_1, zr54_2, zr54_3, zr1_6, zr58_1, zr58_2, zr58_3, zr58_0, zr1_7, zr62_2, zr62_3, zr62_0, zr62_1, zr1_8, zr1_9, zr1_10, zr1_15, zr68_2, zr68_3, zr68_4, zr68_5, zr68_7, zr68_8, zr68_9, zr68_12, zr68_13, zr68_14, zr68_22, zr68_23, zr68_24, zr68_26, zr68_35, zr68_36, zr68_37, zr68_38, zr68_39, zr68_40, zr68_41, zr68_42, e27, d1, w2])
        exact ⟨q1, kk⟩
    · intro x y hx ⟨y1, y2, y3, y4, y5, y6⟩
      obtain ⟨l2, l3, l4, l5, σ'⟩ := y
      rw [zWa_spec D A 100 (by omega)] at hx
      simp only at y1 y2 y3 y4 y5 y6
      rw [hx] at y1 y2 y3
      simp only at y1 y2 y3
      have hB' := y5.1
      subst y4
      have c2 : ¬ (((100 : Nat) : Int) - 100 < 0) := by decide
      show wpo (B_Mo_water_15 68 w l2 l3 l4 (((100 : Nat) : Int) - 100) σ') _
      unfold B_Mo_water_15
      rw [if_neg c2]
      by_cases w0 : w = 0
      · rw [if_pos w0]
        refine wpo_some.mpr ⟨y5, y6, ?_⟩
        show l2 = _
        unfold aWater; rw [if_pos w0]; exact y1
      · rw [if_neg w0]
        have ea : aWater D A w = (zHw D A).elim (-1000000) (fun k => if w = 1 then -1 - (k : Int) else if w = 2 then (zsr (fun k => decide (zWh D A (A 180) (A 181) (A 183) k = 2)) 100).elim (-1000000) (fun k => (k : Int) - 100) else if w = 3 then A 182 + (zlo (zS0 D A (-1 - (k : Int))) (zK (zS0 D A (-1 - (k : Int)))) : Int) else -1000000) := by unfold aWater; rw [if_neg w0]
        rw [ea]
        have lw : (zsr (zWaP D A) 100) = zsr (fun k => decide (zWh D A (A 180) (A 181) (A 183) k = 2)) 100 := rfl
        unfold M_Mo_water_46
        by_cases n0 : l2 = 0
        · rw [if_pos n0]
          have hz : ∀ j : Nat, j < 100 → zWh D A (A 180) (A 181) (A 183) j ≠ 2 := (zRay_zero _ _ 100).mp (by rw [← y1]; exact n0)
          have np : ∀ j, j < 100 → zWaP D A j = false := fun j hj => decide_eq_false (hz j hj)
          have n1 : zla (zWaP D A) 100 = none := by
            rcases zla_spec (zWaP D A) 100 with ⟨e, _⟩ | ⟨j, _, h1, h2, _⟩
            · exact e
            · rw [np j h1] at h2; exact absurd h2 (by decide)
          have n2 : zHw D A = none := hl.2.mpr n1
          have n3 : zsr (zWaP D A) 100 = none := zsr_none np
          rw [n1] at y2
          rw [n3] at y3
          rw [n2]
          by_cases w1 : w = 1
          · rw [if_pos w1]
            exact wpo_some.mpr ⟨y5, y6, y2⟩
          · rw [if_neg w1]
            exact wpo_some.mpr ⟨y5, y6, y3⟩
        · rw [if_neg n0]
          cases eh : zHw D A with
          | none =>
            exfalso
            apply n0
            rw [y1]
            refine (zRay_zero _ _ 100).mpr ?_
            intro j hj
            have n1 := hl.2.mp eh
            rcases zla_spec (zWaP D A) 100 with ⟨_, g⟩ | ⟨i, e, _⟩
            · exact of_decide_eq_false (g j hj)
            · rw [e] at n1; cases n1
          | some kk =>
            have k100 : kk < 100 := (zsr_some (by unfold zHw at eh; exact eh)).2.1
            have hi : l3 = -1 - (kk : Int) := by
              rw [y2, ← hl.1, eh]; rfl
            by_cases c3 : w < 3
            · rw [if_pos c3]
              by_cases w1 : w = 1
              · rw [if_pos w1]
                refine wpo_some.mpr ⟨y5, y6, ?_⟩
                show l3 = if w = 1 then _ else _
                rw [if_pos w1]; exact hi
              · rw [if_neg w1]
                refine wpo_some.mpr ⟨y5, y6, ?_⟩
                show l4 = if w = 1 then _ else if w = 2 then _ else _
                rw [if_neg w1, if_pos (by omega)]; exact y3
            · rw [if_neg c3]
              have w3 : w = 3 := by omega
              subst w3
              subst hi
              (try simp (disch := first | assumption | omega) only [wpo_bind, wpo_some, wpo_gf, wpo_gk, wpo_ld, wpo_pf, wpo_pz, wpo_sd, wpo_sr, wpo_ln, wpo_idv, wpo_irm, wpo_lrm, wpo_ldv, wpo_cpy, mlet, mnar_int, mup_same, mup_cell, mup_slot, ite_true, ite_false, true_and, and_true, eq_self, or_true, true_or, and_self, Int.reduceLT, Int.reduceLE, Int.reduceEq, Int.reduceNe, Int.reduceAdd, Int.reduceSub, Int.reduceMul, Int.reduceNeg, ne_eq, not_false_eq_true, not_true_eq_false, false_or, or_false, zor_inl, zor_inr, Bool.false_eq_true, false_and, and_false, zk1, zk2, zk3, zk4, zk5, zk6, zk7, zk8, zk9, zk10, zk11, zk12, zk13, zk14, zk15, zk16, zk17, zk18, zk19, zk20, zk21, zk22, zk23, zk24, zk25, zk26, zk27, zk28, zk29, zk30, zk31, zk32, zk33, zk34, zk35, zk36, zk37, zk38, zk39, zk40, zk41, zk42, zk43, zk44, zk45, zk46, zk47, zk48, zk49, zk50, zk51, zk52, zk53, zk54, zk55, zk56, zk57, zk58, zk59, zk60, zk61, zk62, zk63, zk64, zk65, zk66, zk67, zk68, zk69, zk70, zk71, zk72, zk73, zk74, zk75, zk76, zk77, zk78, zk79, zk80, zk81, zk82, zk83, zk84, zk85, zk86, zk87, zk88, zk89, zk90, zr2_0, zr2_1, zr2_2, zr2_3, zr2_4, zr2_6, zr2_7, zr2_10, zr2_11, zr2_12, zr1_0, zr1_1, zr14_0, zr14_1, zr14_2, zr14_3, zr14_4, zr14_6, zr14_7, zr14_10, zr14_11, zr14_12, zr13_0, zr25_0, zr25_1, zr25_2, zr25_3, zr25_4, zr25_6, zr25_7, zr25_10, zr25_11, zr25_12, zr13_1, zr1_2, zr37_0, zr1_3, zr39_0, zr39_1, zr39_2, zr39_5, zr39_7, zr39_8, zr1_4, zr46_1, zr46_2, zr46_3, zr46_4, zr46_0, zr1_5, zr51_2, zr51_10, zr51_0, zr51_1, zr54_1, zr54_2, zr54_3, zr1_6, zr58_1, zr58_2, zr58_3, zr58_0, zr1_7, zr62_2, zr62_3, zr62_0, zr62_1, zr1_8, zr1_9, zr1_10, zr1_15, zr68_2, zr68_3, zr68_4, zr68_5, zr68_7, zr68_8, zr68_9, zr68_12, zr68_13, zr68_14, zr68_22, zr68_23, zr68_24, zr68_26, zr68_35, zr68_36, zr68_37, zr68_38, zr68_39, zr68_40, zr68_41, zr68_42])
              have ab : -500 ≤ -1 - (kk : Int) ∧ -1 - (kk : Int) ≤ 500 := by omega
              refine wpo_mono (m_goesNow y5 ab) ?_
              intro q ⟨q1, qk, qr⟩
              have hBq := q1.1
              have hAq := q1.2.2.2.1
              have hS : zSok (zS0 D A (-1 - (kk : Int))) := h.sok tm.2.1 tm.2.2.2 ab (by decide) (by decide)
              have kb := zK_bd hS
              have e0 : ze (zS0 D A (-1 - (kk : Int))) = A 182 := rfl
              rw [e0] at kb
              have we := tm.2.2.1
              (try simp (disch := first | assumption | omega) only [wpo_bind, wpo_some, wpo_gf, wpo_gk, wpo_ld, wpo_pf, wpo_pz, wpo_sd, wpo_sr, wpo_ln, wpo_idv, wpo_irm, wpo_lrm, wpo_ldv, wpo_cpy, mlet, mnar_int, mup_same, mup_cell, mup_slot, ite_true, ite_false, true_and, and_true, eq_self, or_true, true_or, and_self, Int.reduceLT, Int.reduceLE, Int.reduceEq, Int.reduceNe, Int.reduceAdd, Int.reduceSub, Int.reduceMul, Int.reduceNeg, ne_eq, not_false_eq_true, not_true_eq_false, false_or, or_false, zor_inl, zor_inr, Bool.false_eq_true, false_and, and_false, zk1, zk2, zk3, zk4, zk5, zk6, zk7, zk8, zk9, zk10, zk11, zk12, zk13, zk14, zk15, zk16, zk17, zk18, zk19, zk20, zk21, zk22, zk23, zk24, zk25, zk26, zk27, zk28, zk29, zk30, zk31, zk32, zk33, zk34, zk35, zk36, zk37, zk38, zk39, zk40, zk41, zk42, zk43, zk44, zk45, zk46, zk47, zk48, zk49, zk50, zk51, zk52, zk53, zk54, zk55, zk56, zk57, zk58, zk59, zk60, zk61, zk62, zk63, zk64, zk65, zk66, zk67, zk68, zk69, zk70, zk71, zk72, zk73, zk74, zk75, zk76, zk77, zk78, zk79, zk80, zk81, zk82, zk83, zk84, zk85, zk86, zk87, zk88, zk89, zk90, zr2_0, zr2_1, zr2_2, zr2_3, zr2_4, zr2_6, zr2_7, zr2_10, zr2_11, zr2_12, zr1_0, zr1_1, zr14_0, zr14_1, zr14_2, zr14_3, zr14_4, zr14_6, zr14_7, zr14_10, zr14_11, zr14_12, zr13_0, zr25_0, zr25_1, zr25_2, zr25_3, zr25_4, zr25_6, zr25_7, zr25_10, zr25_11, zr25_12, zr13_1, zr1_2, zr37_0, zr1_3, zr39_0, zr39_1, zr39_2, zr39_5, zr39_7, zr39_8, zr1_4, zr46_1, zr46_2, zr46_3, zr46_4, zr46_0, zr1_5, zr51_2, zr51_10, zr51_0, zr51_1, zr54_1, zr54_2, zr54_3, zr1_6, zr58_1, zr58_2, zr58_3, zr58_0, zr1_7, zr62_2, zr62_3, zr62_0, zr62_1, zr1_8, zr1_9, zr1_10, zr1_15, zr68_2, zr68_3, zr68_4, zr68_5, zr68_7, zr68_8, zr68_9, zr68_12, zr68_13, zr68_14, zr68_22, zr68_23, zr68_24, zr68_26, zr68_35, zr68_36, zr68_37, zr68_38, zr68_39, zr68_40, zr68_41, zr68_42, hAq])
              have res : wpo (M_Mo_water_63 68 (A 182) (A 182) q.2) (fun r => r = (A 182 + (zlo (zS0 D A (-1 - (kk : Int))) (zK (zS0 D A (-1 - (kk : Int)))) : Int), q.2)) := by
                generalize eS : zS0 D A (-1 - (kk : Int)) = S at *
                have pl : zpl S = A 182 + (zK S : Int) := by unfold zpl; rw [e0]
                have e28 := qr.2.1
                rw [pl] at e28
                have hh := qr.2.2.2.2.2.2.2.1
                rw [e0] at hh
                unfold M_Mo_water_63
                have st : ((A 182, A 182, q.2) : Int × Int × mS) = (A 182 + (zlo S (0 - 1) : Int), A 182 + ((0 : Nat) : Int), q.2) := by
                  show (A 182, A 182, q.2) = (A 182 + ((0 : Nat) : Int), A 182 + ((0 : Nat) : Int), q.2)
                  rw [show A 182 + ((0 : Nat) : Int) = A 182 by omega]
                rw [st]
                refine loopG (fun k (_ : Unit) => (A 182 + (zlo S (k - 1) : Int), A 182 + (k : Int), q.2)) (fun _ x => x) () (zK S + 1) _ (by omega) ?_ ?_
                · intro k _ hk _
                  have zl := zlo_le S (k - 1)
                  have d0 : ¬ A 182 + (zK S : Int) < A 182 + (k : Int) := by omega
                  have d1 : 0 ≤ A 182 + (k : Int) := by omega
                  have d2 : A 182 + (k : Int) < 64 := by omega
                  have d3 : 0 ≤ A 182 + (zlo S (k - 1) : Int) := by omega
                  have d4 : A 182 + (zlo S (k - 1) : Int) < 64 := by omega
                  have g1 := hh k (by omega)
                  have g2 := hh (zlo S (k - 1)) (by omega)
                  have w' : w32 (A 182 + (k : Int) + 1) = A 182 + ((k + 1 : Nat) : Int) := by rw [w32_in (by omega) (by omega)]; omega
                  have sc : zlo S (k + 1 - 1) = if zH S k < zH S (zlo S (k - 1)) then k else zlo S (k - 1) := by
                    cases k with
                    | zero => show (0 : Nat) = if zH S 0 < zH S (zlo S 0) then 0 else zlo S 0; split <;> rfl
                    | succ k => rfl
                  show wpo (B_Mo_water_63 68 (A 182 + (zlo S (k - 1) : Int)) (A 182 + (k : Int)) q.2) (zor (fun y => y = (A 182 + (zlo S (k + 1 - 1) : Int), A 182 + ((k + 1 : Nat) : Int), q.2)) _)
                  rw [sc]
                  unfold B_Mo_water_63
                  by_cases d : zH S k < zH S (zlo S (k - 1))
                  · (try simp (disch := first | assumption | omega) only [wpo_bind, wpo_some, wpo_gf, wpo_gk, wpo_ld, wpo_pf, wpo_pz, wpo_sd, wpo_sr, wpo_ln, wpo_idv, wpo_irm, wpo_lrm, wpo_ldv, wpo_cpy, mlet, mnar_int, mup_same, mup_cell, mup_slot, ite_true, ite_false, true_and, and_true, eq_self, or_true, true_or, and_self, Int.reduceLT, Int.reduceLE, Int.reduceEq, Int.reduceNe, Int.reduceAdd, Int.reduceSub, Int.reduceMul, Int.reduceNeg, ne_eq, not_false_eq_true, not_true_eq_false, false_or, or_false, zor_inl, zor_inr, Bool.false_eq_true, false_and, and_false, zk1, zk2, zk3, zk4, zk5, zk6, zk7, zk8, zk9, zk10, zk11, zk12, zk13, zk14, zk15, zk16, zk17, zk18, zk19, zk20, zk21, zk22, zk23, zk24, zk25, zk26, zk27, zk28, zk29, zk30, zk31, zk32, zk33, zk34, zk35, zk36, zk37, zk38, zk39, zk40, zk41, zk42, zk43, zk44, zk45, zk46, zk47, zk48, zk49, zk50, zk51, zk52, zk53, zk54, zk55, zk56, zk57, zk58, zk59, zk60, zk61, zk62, zk63, zk64, zk65, zk66, zk67, zk68, zk69, zk70, zk71, zk72, zk73, zk74, zk75, zk76, zk77, zk78, zk79, zk80, zk81, zk82, zk83, zk84, zk85, zk86, zk87, zk88, zk89, zk90, zr2_0, zr2_1, zr2_2, zr2_3, zr2_4, zr2_6, zr2_7, zr2_10, zr2_11, zr2_12, zr1_0, zr1_1, zr14_0, zr14_1, zr14_2, zr14_3, zr14_4, zr14_6, zr14_7, zr14_10, zr14_11, zr14_12, zr13_0, zr25_0, zr25_1, zr25_2, zr25_3, zr25_4, zr25_6, zr25_7, zr25_10, zr25_11, zr25_12, zr13_1, zr1_2, zr37_0, zr1_3, zr39_0, zr39_1, zr39_2, zr39_5, zr39_7, zr39_8, zr1_4, zr46_1, zr46_2, zr46_3, zr46_4, zr46_0, zr1_5, zr51_2, zr51_10, zr51_0, zr51_1, zr54_1, zr54_2, zr54_3, zr1_6, zr58_1, zr58_2, zr58_3, zr58_0, zr1_7, zr62_2, zr62_3, zr62_0, zr62_1, zr1_8, zr1_9, zr1_10, zr1_15, zr68_2, zr68_3, zr68_4, zr68_5, zr68_7, zr68_8, zr68_9, zr68_12, zr68_13, zr68_14, zr68_22, zr68_23, zr68_24, zr68_26, zr68_35, zr68_36, zr68_37, zr68_38, zr68_39, zr68_40, zr68_41, zr68_42, e28, d0, d1, d2, d3, d4, g1, g2, d, w'])
                  · (try simp (disch := first | assumption | omega) only [wpo_bind, wpo_some, wpo_gf, wpo_gk, wpo_ld, wpo_pf, wpo_pz, wpo_sd, wpo_sr, wpo_ln, wpo_idv, wpo_irm, wpo_lrm, wpo_ldv, wpo_cpy, mlet, mnar_int, mup_same, mup_cell, mup_slot, ite_true, ite_false, true_and, and_true, eq_self, or_true, true_or, and_self, Int.reduceLT, Int.reduceLE, Int.reduceEq, Int.reduceNe, Int.reduceAdd, Int.reduceSub, Int.reduceMul, Int.reduceNeg, ne_eq, not_false_eq_true, not_true_eq_false, false_or, or_false, zor_inl, zor_inr, Bool.false_eq_true, false_and, and_false, zk1, zk2, zk3, zk4, zk5, zk6, zk7, zk8, zk9, zk10, zk11, zk12, zk13, zk14, zk15, zk16, zk17, zk18, zk19, zk20, zk21, zk22, zk23, zk24, zk25, zk26, zk27, zk28, zk29, zk30, zk31, zk32, zk33, zk34, zk35, zk36, zk37, zk38, zk39, zk40, zk41, zk42, zk43, zk44, zk45, zk46, zk47, zk48, zk49, zk50, zk51, zk52, zk53, zk54, zk55, zk56, zk57, zk58, zk59, zk60, zk61, zk62, zk63, zk64, zk65, zk66, zk67, zk68, zk69, zk70, zk71, zk72, zk73, zk74, zk75, zk76, zk77, zk78, zk79, zk80, zk81, zk82, zk83, zk84, zk85, zk86, zk87, zk88, zk89, zk90, zr2_0, zr2_1, zr2_2, zr2_3, zr2_4, zr2_6, zr2_7, zr2_10, zr2_11, zr2_12, zr1_0, zr1_1, zr14_0, zr14_1, zr14_2, zr14_3, zr14_4, zr14_6, zr14_7, zr14_10, zr14_11, zr14_12, zr13_0, zr25_0, zr25_1, zr25_2, zr25_3, zr25_4, zr25_6, zr25_7, zr25_10, zr25_11, zr25_12, zr13_1, zr1_2, zr37_0, zr1_3, zr39_0, zr39_1, zr39_2, zr39_5, zr39_7, zr39_8, zr1_4, zr46_1, zr46_2, zr46_3, zr46_4, zr46_0, zr1_5, zr51_2, zr51_10, zr51_0, zr51_1, zr54_1, zr54_2, zr54_3, zr1_6, zr58_1, zr58_2, zr58_3, zr58_0, zr1_7, zr62_2, zr62_3, zr62_0, zr62_1, zr1_8, zr1_9, zr1_10, zr1_15, zr68_2, zr68_3, zr68_4, zr68_5, zr68_7, zr68_8, zr68_9, zr68_12, zr68_13, zr68_14, zr68_22, zr68_23, zr68_24, zr68_26, zr68_35, zr68_36, zr68_37, zr68_38, zr68_39, zr68_40, zr68_41, zr68_42, e28, d0, d1, d2, d3, d4, g1, g2, d, w'])
                · intro _ _
                  have d0 : A 182 + (zK S : Int) < A 182 + ((zK S + 1 : Nat) : Int) := by omega
                  show wpo (B_Mo_water_63 68 (A 182 + (zlo S (zK S + 1 - 1) : Int)) (A 182 + ((zK S + 1 : Nat) : Int)) q.2) _
                  unfold B_Mo_water_63
                  (try simp (disch := first | assumption | omega) only [wpo_bind, wpo_some, wpo_gf, wpo_gk, wpo_ld, wpo_pf, wpo_pz, wpo_sd, wpo_sr, wpo_ln, wpo_idv, wpo_irm, wpo_lrm, wpo_ldv, wpo_cpy, mlet, mnar_int, mup_same, mup_cell, mup_slot, ite_true, ite_false, true_and, and_true, eq_self, or_true, true_or, and_self, Int.reduceLT, Int.reduceLE, Int.reduceEq, Int.reduceNe, Int.reduceAdd, Int.reduceSub, Int.reduceMul, Int.reduceNeg, ne_eq, not_false_eq_true, not_true_eq_false, false_or, or_false, zor_inl, zor_inr, Bool.false_eq_true, false_and, and_false, zk1, zk2, zk3, zk4, zk5, zk6, zk7, zk8, zk9, zk10, zk11, zk12, zk13, zk14, zk15, zk16, zk17, zk18, zk19, zk20, zk21, zk22, zk23, zk24, zk25, zk26, zk27, zk28, zk29, zk30, zk31, zk32, zk33, zk34, zk35, zk36, zk37, zk38, zk39, zk40, zk41, zk42, zk43, zk44, zk45, zk46, zk47, zk48, zk49, zk50, zk51, zk52, zk53, zk54, zk55, zk56, zk57, zk58, zk59, zk60, zk61, zk62, zk63, zk64, zk65, zk66, zk67, zk68, zk69, zk70, zk71, zk72, zk73, zk74, zk75, zk76, zk77, zk78, zk79, zk80, zk81, zk82, zk83, zk84, zk85, zk86, zk87, zk88, zk89, zk90, zr2_0, zr2_1, zr2_2, zr2_3, zr2_4, zr2_6, zr2_7, zr2_10, zr2_11, zr2_12, zr1_0, zr1_1, zr14_0, zr14_1, zr14_2, zr14_3, zr14_4, zr14_6, zr14_7, zr14_10, zr14_11, zr14_12, zr13_0, zr25_0, zr25_1, zr25_2, zr25_3, zr25_4, zr25_6, zr25_7, zr25_10, zr25_11, zr25_12, zr13_1, zr1_2, zr37_0, zr1_3, zr39_0, zr39_1, zr39_2, zr39_5, zr39_7, zr39_8, zr1_4, zr46_1, zr46_2, zr46_3, zr46_4, zr46_0, zr1_5, zr51_2, zr51_10, zr51_0, zr51_1, zr54_1, zr54_2, zr54_3, zr1_6, zr58_1, zr58_2, zr58_3, zr58_0, zr1_7, zr62_2, zr62_3, zr62_0, zr62_1, zr1_8, zr1_9, zr1_10, zr1_15, zr68_2, zr68_3, zr68_4, zr68_5, zr68_7, zr68_8, zr68_9, zr68_12, zr68_13, zr68_14, zr68_22, zr68_23, zr68_24, zr68_26, zr68_35, zr68_36, zr68_37, zr68_38, zr68_39, zr68_40, zr68_41, zr68_42, e28, d0])
                  rfl
              refine wpo_mono res ?_
              rintro r rfl
              exact ⟨q1, y6.trans qk.1, rfl⟩
  · (try simp (disch := first | assumption | omega) only [wpo_bind, wpo_some, wpo_gf, wpo_gk, wpo_ld, wpo_pf, wpo_pz, wpo_sd, wpo_sr, wpo_ln, wpo_idv, wpo_irm, wpo_lrm, wpo_ldv, wpo_cpy, mlet, mnar_int, mup_same, mup_cell, mup_slot, ite_true, ite_false, true_and, and_true, eq_self, or_true, true_or, and_self, Int.reduceLT, Int.reduceLE, Int.reduceEq, Int.reduceNe, Int.reduceAdd, Int.reduceSub, Int.reduceMul, Int.reduceNeg, ne_eq, not_false_eq_true, not_true_eq_false, false_or, or_false, zor_inl, zor_inr, Bool.false_eq_true, false_and, and_false, zk1, zk2, zk3, zk4, zk5, zk6, zk7, zk8, zk9, zk10, zk11, zk12, zk13, zk14, zk15, zk16, zk17, zk18, zk19, zk20, zk21, zk22, zk23, zk24, zk25, zk26, zk27, zk28, zk29, zk30, zk31, zk32, zk33, zk34, zk35, zk36, zk37, zk38, zk39, zk40, zk41, zk42, zk43, zk44, zk45, zk46, zk47, zk48, zk49, zk50, zk51, zk52, zk53, zk54, zk55, zk56, zk57, zk58, zk59, zk60, zk61, zk62, zk63, zk64, zk65, zk66, zk67, zk68, zk69, zk70, zk71, zk72, zk73, zk74, zk75, zk76, zk77, zk78, zk79, zk80, zk81, zk82, zk83, zk84, zk85, zk86, zk87, zk88, zk89, zk90, zr2_0, zr2_1, zr2_2, zr2_3, zr2_4, zr2_6, zr2_7, zr2_10, zr2_11, zr2_12, zr1_0, zr1_1, zr14_0, zr14_1, zr14_2, zr14_3, zr14_4, zr14_6, zr14_7, zr14_10, zr14_11, zr14_12, zr13_0, zr25_0, zr25_1, zr25_2, zr25_3, zr25_4, zr25_6, zr25_7, zr25_10, zr25_11, zr25_12, zr13_1, zr1_2, zr37_0, zr1_3, zr39_0, zr39_1, zr39_2, zr39_5, zr39_7, zr39_8, zr1_4, zr46_1, zr46_2, zr46_3, zr46_4, zr46_0, zr1_5, zr51_2, zr51_10, zr51_0, zr51_1, zr54_1, zr54_2, zr54_3, zr1_6, zr58_1, zr58_2, zr58_3, zr58_0, zr1_7, zr62_2, zr62_3, zr62_0, zr62_1, zr1_8, zr1_9, zr1_10, zr1_15, zr68_2, zr68_3, zr68_4, zr68_5, zr68_7, zr68_8, zr68_9, zr68_12, zr68_13, zr68_14, zr68_22, zr68_23, zr68_24, zr68_26, zr68_35, zr68_36, zr68_37, zr68_38, zr68_39, zr68_40, zr68_41, zr68_42, e_lies, c1])
    refine ⟨h, zKm.rfl' hB, ?_⟩
    unfold aWater
    rw [if_neg (by omega)]
    cases zHw D A with
    | none => rfl
    | some k => show _ = if w = 1 then _ else if w = 2 then _ else if w = 3 then _ else _; rw [if_neg (by omega), if_neg (by omega), if_neg (by omega)]
end
