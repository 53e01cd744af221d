/-! A TEXT is read by the developers' program -/
def zFin (K : Nat → Int) (r : zRc) : zRc := if r.1 = 1 ∧ K r.2.1 ≠ 256 then (0, r.2.1, 0, fun _ => 10) else r
def zPt (K V : Nat → Int) (S : Nat → Int) (N : Nat) (r : zRc) (σ : mS) (q : Int × mS) : Prop := zFc σ q.2 ∧ ((r.1 = 1 ∧ q.1 = -1 ∧ ∃ (m : Nat) (s fl : Int), zCs K V N m r.2.1 r.2.2.1 s fl r.2.2.2 q.2) ∨ (r.1 = 0 ∧ q.1 = S r.2.1))
theorem d_51 {K V S : Nat → Int} {N a : Nat} {σ : mS} (hN : N ≤ 400) (h : zTk K V N σ) (hS : ∀ j : Nat, j ≤ N → σ.1 41 j = S j) (ha : σ.1 39 4 = (a : Int)) (h1 : a ≤ N) : M_Reader_readText_51 39 σ = some (S a, σ) := by
  have : wpo (M_Reader_readText_51 39 σ) (fun q => q = (S a, σ)) := by
    have hB := h.1
    have c2 : 0 ≤ (a : Int) := by omega
    have c3 : (a : Int) < 401 := by omega
    have k := hS a h1
    unfold M_Reader_readText_51
    simp (maxSteps := 5000000) (disch := first | assumption | omega) only [wpo_bind, wpo_some, wpo_gf, wpo_gk, wpo_ld, wpo_pf, wpo_pz, wpo_sd, wpo_sr, wpo_ln, wpo_idv, wpo_irm, wpo_lrm, wpo_ldv, wpo_cpy, mlet, mnar_int, mup_same, mup_cell, mup_slot, ite_true, ite_false, true_and, and_true, eq_self, or_true, true_or, and_self, Int.reduceLT, Int.reduceLE, Int.reduceEq, Int.reduceNe, Int.reduceAdd, Int.reduceSub, Int.reduceMul, Int.reduceNeg, ne_eq, not_false_eq_true, not_true_eq_false, false_or, or_false, zor_inl, zor_inr, Bool.false_eq_true, false_and, and_false, zk1, zk2, zk3, zk4, zk5, zk6, zk7, zk8, zk9, zk10, zk11, zk12, zk13, zk14, zk15, zk16, zk17, zk18, zk19, zk20, zk21, zk22, zk23, zk24, zk25, zk26, zk27, zk28, zk29, zk30, zk31, zk32, zk33, zk34, zk35, zk36, zk37, zk38, zk39, zk40, zk41, zk42, zk43, zk44, zk45, zk46, zk47, zk48, zk49, zk50, zk51, zk52, zk53, zk54, zk55, zk56, zk57, zk58, zk59, zk60, zk61, zk62, zk63, zk64, zk65, zk66, zk67, zk68, zk69, zk70, zk71, zk72, zk73, zk74, zk75, zk76, zk77, zk78, zk79, zk80, zk81, zk82, zk83, zk84, zk85, zk86, zk87, zk88, zk89, zk90, zr2_0, zr2_1, zr2_2, zr2_3, zr2_4, zr2_6, zr2_7, zr2_10, zr2_11, zr2_12, zr1_0, zr1_1, zr14_0, zr14_1, zr14_2, zr14_3, zr14_4, zr14_6, zr14_7, zr14_10, zr14_11, zr14_12, zr13_0, zr25_0, zr25_1, zr25_2, zr25_3, zr25_4, zr25_6, zr25_7, zr25_10, zr25_11, zr25_12, zr13_1, zr1_2, zr37_0, zr1_3, zr39_0, zr39_1, zr39_2, zr39_5, zr39_7, zr39_8, zr1_4, zr46_1, zr46_2, zr46_3, zr46_4, zr46_0, zr1_5, zr51_2, zr51_10, zr51_0, zr51_1, zr54_1, zr54_2, zr54_3, zr1_6, zr58_1, zr58_2, zr58_3, zr58_0, zr1_7, zr62_2, zr62_3, zr62_0, zr62_1, zr1_8, zr1_9, zr1_10, zr1_15, zr68_2, zr68_3, zr68_4, zr68_5, zr68_7, zr68_8, zr68_9, zr68_12, zr68_13, zr68_14, zr68_22, zr68_23, zr68_24, zr68_26, zr68_35, zr68_36, zr68_37, zr68_38, zr68_39, zr68_40, zr68_41, zr68_42, ha, c2, c3, k]
  obtain ⟨y, e, rfl⟩ := this
  exact e
theorem d_43 {K V S : Nat → Int} {N m a p : Nat} {s fl : Int} {g : (Int → Int) → Int} {σ0 σ : mS} (hT : zTx K V N) (h : zCs K V N m a p s fl g σ) (hF : zFc σ0 σ) (hS : ∀ j : Nat, j ≤ N → σ.1 41 j = S j) : wpo (M_Reader_readText_43 39 1 σ) (zPt K V S N (zFin K (1, a, p, g)) σ0) := by
  obtain ⟨⟨tk, at', aN, p50, s00, sa, flb⟩, hr⟩ := h
  have hB := tk.1
  have kh := d_kind (a := a) hT.1 tk at'.1 aN
  have e51 := d_51 hT.1 tk hS at'.1 aN
  have n10 : ¬ (1 : Int) = 0 := by decide
  by_cases c : K a = 256
  · have ef : zFin K (1, a, p, g) = (1, a, p, g) := if_neg (fun x => x.2 c)
    rw [ef]
    have po : zPt K V S N (1, a, p, g) σ0 (-1, σ) := ⟨hF, Or.inl ⟨rfl, rfl, m, s, fl, ⟨tk, at', aN, p50, s00, sa, flb⟩, hr⟩⟩
    generalize zPt K V S N (1, a, p, g) σ0 = Q at *
    unfold M_Reader_readText_43
    simp (maxSteps := 5000000) (disch := first | assumption | omega) only [wpo_bind, wpo_some, wpo_gf, wpo_gk, wpo_ld, wpo_pf, wpo_pz, wpo_sd, wpo_sr, wpo_ln, wpo_idv, wpo_irm, wpo_lrm, wpo_ldv, wpo_cpy, mlet, mnar_int, mup_same, mup_cell, mup_slot, ite_true, ite_false, true_and, and_true, eq_self, or_true, true_or, and_self, Int.reduceLT, Int.reduceLE, Int.reduceEq, Int.reduceNe, Int.reduceAdd, Int.reduceSub, Int.reduceMul, Int.reduceNeg, ne_eq, not_false_eq_true, not_true_eq_false, false_or, or_false, zor_inl, zor_inr, Bool.false_eq_true, false_and, and_false, zk1, zk2, zk3, zk4, zk5, zk6, zk7, zk8, zk9, zk10, zk11, zk12, zk13, zk14, zk15, zk16, zk17, zk18, zk19, zk20, zk21, zk22, zk23, zk24, zk25, zk26, zk27, zk28, zk29, zk30, zk31, zk32, zk33, zk34, zk35, zk36, zk37, zk38, zk39, zk40, zk41, zk42, zk43, zk44, zk45, zk46, zk47, zk48, zk49, zk50, zk51, zk52, zk53, zk54, zk55, zk56, zk57, zk58, zk59, zk60, zk61, zk62, zk63, zk64, zk65, zk66, zk67, zk68, zk69, zk70, zk71, zk72, zk73, zk74, zk75, zk76, zk77, zk78, zk79, zk80, zk81, zk82, zk83, zk84, zk85, zk86, zk87, zk88, zk89, zk90, zr2_0, zr2_1, zr2_2, zr2_3, zr2_4, zr2_6, zr2_7, zr2_10, zr2_11, zr2_12, zr1_0, zr1_1, zr14_0, zr14_1, zr14_2, zr14_3, zr14_4, zr14_6, zr14_7, zr14_10, zr14_11, zr14_12, zr13_0, zr25_0, zr25_1, zr25_2, zr25_3, zr25_4, zr25_6, zr25_7, zr25_10, zr25_11, zr25_12, zr13_1, zr1_2, zr37_0, zr1_3, zr39_0, zr39_1, zr39_2, zr39_5, zr39_7, zr39_8, zr1_4, zr46_1, zr46_2, zr46_3, zr46_4, zr46_0, zr1_5, zr51_2, zr51_10, zr51_0, zr51_1, zr54_1, zr54_2, zr54_3, zr1_6, zr58_1, zr58_2, zr58_3, zr58_0, zr1_7, zr62_2, zr62_3, zr62_0, zr62_1, zr1_8, zr1_9, zr1_10, zr1_15, zr68_2, zr68_3, zr68_4, zr68_5, zr68_7, zr68_8, zr68_9, zr68_12, zr68_13, zr68_14, zr68_22, zr68_23, zr68_24, zr68_26, zr68_35, zr68_36, zr68_37, zr68_38, zr68_39, zr68_40, zr68_41, zr68_42, n10, kh, c]
    exact po
  · have ef : zFin K (1, a, p, g) = (0, a, 0, fun _ => 10) := if_pos ⟨rfl, c⟩
    rw [ef]
    have po : zPt K V S N (0, a, 0, fun _ => 10) σ0 (S a, σ) := ⟨hF, Or.inr ⟨rfl, rfl⟩⟩
    generalize zPt K V S N (0, a, 0, fun _ => 10) σ0 = Q at *
    unfold M_Reader_readText_43
    simp (maxSteps := 5000000) (disch := first | assumption | omega) only [wpo_bind, wpo_some, wpo_gf, wpo_gk, wpo_ld, wpo_pf, wpo_pz, wpo_sd, wpo_sr, wpo_ln, wpo_idv, wpo_irm, wpo_lrm, wpo_ldv, wpo_cpy, mlet, mnar_int, mup_same, mup_cell, mup_slot, ite_true, ite_false, true_and, and_true, eq_self, or_true, true_or, and_self, Int.reduceLT, Int.reduceLE, Int.reduceEq, Int.reduceNe, Int.reduceAdd, Int.reduceSub, Int.reduceMul, Int.reduceNeg, ne_eq, not_false_eq_true, not_true_eq_false, false_or, or_false, zor_inl, zor_inr, Bool.false_eq_true, false_and, and_false, zk1, zk2, zk3, zk4, zk5, zk6, zk7, zk8, zk9, zk10, zk11, zk12, zk13, zk14, zk15, zk16, zk17, zk18, zk19, zk20, zk21, zk22, zk23, zk24, zk25, zk26, zk27, zk28, zk29, zk30, zk31, zk32, zk33, zk34, zk35, zk36, zk37, zk38, zk39, zk40, zk41, zk42, zk43, zk44, zk45, zk46, zk47, zk48, zk49, zk50, zk51, zk52, zk53, zk54, zk55, zk56, zk57, zk58, zk59, zk60, zk61, zk62, zk63, zk64, zk65, zk66, zk67, zk68, zk69, zk70, zk71, zk72, zk73, zk74, zk75, zk76, zk77, zk78, zk79, zk80, zk81, zk82, zk83, zk84, zk85, zk86, zk87, zk88, zk89, zk90, zr2_0, zr2_1, zr2_2, zr2_3, zr2_4, zr2_6, zr2_7, zr2_10, zr2_11, zr2_12, zr1_0, zr1_1, zr14_0, zr14_1, zr14_2, zr14_3, zr14_4, zr14_6, zr14_7, zr14_10, zr14_11, zr14_12, zr13_0, zr25_0, zr25_1, zr25_2, zr25_3, zr25_4, zr25_6, zr25_7, zr25_10, zr25_11, zr25_12, zr13_1, zr1_2, zr37_0, zr1_3, zr39_0, zr39_1, zr39_2, zr39_5, zr39_7, zr39_8, zr1_4, zr46_1, zr46_2, zr46_3, zr46_4, zr46_0, zr1_5, zr51_2, zr51_10, zr51_0, zr51_1, zr54_1, zr54_2, zr54_3, zr1_6, zr58_1, zr58_2, zr58_3, zr58_0, zr1_7, zr62_2, zr62_3, zr62_0, zr62_1, zr1_8, zr1_9, zr1_10, zr1_15, zr68_2, zr68_3, zr68_4, zr68_5, zr68_7, zr68_8, zr68_9, zr68_12, zr68_13, zr68_14, zr68_22, zr68_23, zr68_24, zr68_26, zr68_35, zr68_36, zr68_37, zr68_38, zr68_39, zr68_40, zr68_41, zr68_42, n10, kh, c, e51]
    exact po
/-- what does not go on -/
theorem d_29no {K V S : Nat → Int} {N b : Nat} {r : zRc} {i : Int} {σ0 σ : mS} (hT : zTx K V N) (tk : zTk K V N σ) (hb : σ.1 39 4 = (b : Int)) (hN : b ≤ N) (hF : zFc σ0 σ) (hS : ∀ j : Nat, j ≤ N → σ.1 41 j = S j) (hr : r.1 = 0 ∧ r.2.1 = b) : ∀ M, wpo (miter (fun s : Int × Int × mS => B_Reader_readText_29 39 s.1 s.2.1 s.2.2) (M + 1) (0, i, σ)) (zPt K V S N r σ0) := by
  intro M
  have e51 := d_51 hT.1 tk hS hb hN
  have e43 : M_Reader_readText_43 39 0 σ = some (S b, σ) := by unfold M_Reader_readText_43; rw [if_pos rfl]; exact e51
  unfold miter
  refine wpo_call (Q := fun z => z = Sum.inr (S b, σ)) ?_ ?_
  · show wpo (B_Reader_readText_29 39 0 i σ) _
    unfold B_Reader_readText_29
    by_cases c : i < 400
    · rw [if_pos c, if_pos rfl, e43]; exact wpo_bind.mpr (wpo_some.mpr (wpo_some.mpr rfl))
    · rw [if_neg c, e43]; exact wpo_bind.mpr (wpo_some.mpr (wpo_some.mpr rfl))
  · intro z hz
    rw [hz]
    exact wpo_some.mpr ⟨hF, Or.inr ⟨hr.1, by rw [hr.2]⟩⟩
set_option maxHeartbeats 4000000 in
theorem d_29 {K V S : Nat → Int} {N : Nat} (hT : zTx K V N) : ∀ (n M m a p : Nat) (s fl i : Int) (g : (Int → Int) → Int) (σ0 σ : mS), n + 1 < M → N < a + n → zCs K V N m a p s fl g σ → zFc σ0 σ → i = (m : Int) - 1 → (∀ j : Nat, j ≤ N → σ0.1 41 j = S j) →
    wpo (miter (fun s : Int × Int × mS => B_Reader_readText_29 39 s.1 s.2.1 s.2.2) M (1, i, σ)) (zPt K V S N (zFin K (zCz K V n m a p g)) σ0) := by
  have n10 : ¬ (1 : Int) = 0 := by decide
  intro n
  induction n with
  | zero => intro M m a p s fl i g σ0 σ _ h1 h2; have := h2.1.2.2.1; omega
  | succ n ih =>
    intro M m a p s fl i g σ0 σ hM hn hC hF hi hS
    obtain ⟨M, rfl⟩ : ∃ K, M = K + 1 := ⟨M - 1, by omega⟩
    have hC0 := hC
    obtain ⟨⟨tk, at', aN, p50, s00, sa, flb⟩, c9, m12, hcl, hst, hng⟩ := hC
    have hB := tk.1
    have N4 := hT.1
    have tt := d_takes (k := 59) N4 tk at'.1 aN
    have hS' : ∀ j : Nat, j ≤ N → σ.1 41 j = S j := fun j hj => by rw [hF.2.2.1 41 (by decide) (by decide) (by decide) (by decide)]; exact hS j hj
    have i4 : i < 400 := by omega
    unfold miter
    by_cases c : K a = 59
    · rw [if_pos c] at tt
      have ne : a ≠ N := by intro e; rw [e, hT.2.1] at c; omega
      obtain ⟨tf, ta, t43⟩ := zPre_tok (b := a + 1) hB at'
      have hB1 := tf.2.1
      have wi : ∀ u : Int, u = i → w32 (u + 1) = i + 1 := fun u hu => by rw [w32_in (by omega) (by omega)]; omega
      have cs1 : zCs K V N m (a + 1) p s fl g (mup σ.1 39 4 ((a + 1 : Nat) : Int), σ.2) := by
        refine ⟨⟨tk.fr tf, ta, by omega, p50, s00, by omega, flb⟩, ?_, m12, ?_, ?_, hng⟩
        · rw [tf.2.2.2.1 9 (by decide) (by decide) (by decide) (by decide)]; exact c9
        · rw [tf.2.2.1 44 (by decide) (by decide), tf.2.2.1 45 (by decide) (by decide)]
          show zCls (mup σ.1 39 4 ((a + 1 : Nat) : Int) 43) _ _ _ _ _
          rw [t43]; exact hcl
        · rw [tf.2.2.1 45 (by decide) (by decide)]; exact hst
      have cl := d_clause hT cs1
      have ok := zCla_ok hT m (a + 1) p g (by omega) p50
      refine wpo_call (Q := fun z => ∃ q : Int × mS, z = Sum.inl (q.1, i + 1, q.2) ∧ zPc K V N m (zCla K V m (a + 1) p g) (mup σ.1 39 4 ((a + 1 : Nat) : Int), σ.2) q) ?_ ?_
      · show wpo (B_Reader_readText_29 39 1 i σ) _
        unfold B_Reader_readText_29
        simp (maxSteps := 5000000) (disch := first | assumption | omega) only [wpo_bind, wpo_some, wpo_gf, wpo_gk, wpo_ld, wpo_pf, wpo_pz, wpo_sd, wpo_sr, wpo_ln, wpo_idv, wpo_irm, wpo_lrm, wpo_ldv, wpo_cpy, mlet, mnar_int, mup_same, mup_cell, mup_slot, ite_true, ite_false, true_and, and_true, eq_self, or_true, true_or, and_self, Int.reduceLT, Int.reduceLE, Int.reduceEq, Int.reduceNe, Int.reduceAdd, Int.reduceSub, Int.reduceMul, Int.reduceNeg, ne_eq, not_false_eq_true, not_true_eq_false, false_or, or_false, zor_inl, zor_inr, Bool.false_eq_true, false_and, and_false, zk1, zk2, zk3, zk4, zk5, zk6, zk7, zk8, zk9, zk10, zk11, zk12, zk13, zk14, zk15, zk16, zk17, zk18, zk19, zk20, zk21, zk22, zk23, zk24, zk25, zk26, zk27, zk28, zk29, zk30, zk31, zk32, zk33, zk34, zk35, zk36, zk37, zk38, zk39, zk40, zk41, zk42, zk43, zk44, zk45, zk46, zk47, zk48, zk49, zk50, zk51, zk52, zk53, zk54, zk55, zk56, zk57, zk58, zk59, zk60, zk61, zk62, zk63, zk64, zk65, zk66, zk67, zk68, zk69, zk70, zk71, zk72, zk73, zk74, zk75, zk76, zk77, zk78, zk79, zk80, zk81, zk82, zk83, zk84, zk85, zk86, zk87, zk88, zk89, zk90, zr2_0, zr2_1, zr2_2, zr2_3, zr2_4, zr2_6, zr2_7, zr2_10, zr2_11, zr2_12, zr1_0, zr1_1, zr14_0, zr14_1, zr14_2, zr14_3, zr14_4, zr14_6, zr14_7, zr14_10, zr14_11, zr14_12, zr13_0, zr25_0, zr25_1, zr25_2, zr25_3, zr25_4, zr25_6, zr25_7, zr25_10, zr25_11, zr25_12, zr13_1, zr1_2, zr37_0, zr1_3, zr39_0, zr39_1, zr39_2, zr39_5, zr39_7, zr39_8, zr1_4, zr46_1, zr46_2, zr46_3, zr46_4, zr46_0, zr1_5, zr51_2, zr51_10, zr51_0, zr51_1, zr54_1, zr54_2, zr54_3, zr1_6, zr58_1, zr58_2, zr58_3, zr58_0, zr1_7, zr62_2, zr62_3, zr62_0, zr62_1, zr1_8, zr1_9, zr1_10, zr1_15, zr68_2, zr68_3, zr68_4, zr68_5, zr68_7, zr68_8, zr68_9, zr68_12, zr68_13, zr68_14, zr68_22, zr68_23, zr68_24, zr68_26, zr68_35, zr68_36, zr68_37, zr68_38, zr68_39, zr68_40, zr68_41, zr68_42, i4, n10, tt, wi]
        exact wpo_mono cl (fun q hq => ⟨q, rfl, hq⟩)
      · intro z ⟨q, hz, q1, q2⟩
        rw [hz]
        unfold zCz
        rw [if_pos c]
        rcases q2 with ⟨r1, r2, s', fl', r3⟩ | ⟨r1, r2, r3⟩
        · rw [if_pos r1, r2]
          rcases ok with ⟨k1, k2, k3, k4⟩ | ⟨k1, _⟩
          · exact ih M (m + 1) _ _ s' fl' (i + 1) _ σ0 q.2 (by omega) (by omega) r3 (hF.trans (tf.fc.trans q1)) (by omega) hS
          · omega
        · rw [if_neg (by omega), r2]
          obtain ⟨M, rfl⟩ : ∃ K, M = K + 1 := ⟨M - 1, by omega⟩
          have ef : zFin K (zCla K V m (a + 1) p g) = zCla K V m (a + 1) p g := by unfold zFin; rw [if_neg (fun x => by omega)]
          rw [ef]
          rcases ok with ⟨k1, _⟩ | ⟨k1, k2, k3⟩
          · omega
          · exact d_29no hT ((tk.fr tf).fc q1) r3 k3 (hF.trans (tf.fc.trans q1)) (fun j hj => by rw [q1.2.2.1 41 (by decide) (by decide) (by decide) (by decide), tf.2.2.1 41 (by decide) (by decide)]; exact hS' j hj) ⟨r1, rfl⟩ M
    · rw [if_neg c] at tt
      have m43 := d_43 hT hC0 hF hS'
      unfold zCz
      rw [if_neg c]
      refine wpo_call (Q := fun z => ∃ q : Int × mS, z = Sum.inr q ∧ zPt K V S N (zFin K (1, a, p, g)) σ0 q) ?_ ?_
      · show wpo (B_Reader_readText_29 39 1 i σ) _
        unfold B_Reader_readText_29
        rw [if_pos i4, if_neg n10]
        refine wpo_bind.mpr (wpo_gk.mpr ⟨zk39 hB ▸ rfl, ?_⟩)
        rw [tt]
        refine wpo_bind.mpr (wpo_some.mpr ?_)
        rw [if_pos rfl]
        exact wpo_call m43 (fun q hq => wpo_some.mpr ⟨q, rfl, hq⟩)
      · intro z ⟨q, hz, hq⟩
        rw [hz]
        exact wpo_some.mpr hq
set_option maxHeartbeats 4000000 in
/-- what is read, once it is split -/
theorem d_text {K V S : Nat → Int} {N : Nat} (hT : zTx K V N) {σ : mS} (tk : zTk K V N σ) (hS : ∀ j : Nat, j ≤ N → σ.1 41 j = S j) :
    wpo ((pf 6 4 39 0 σ).bind fun σ => (pf 6 6 39 0 σ).bind fun σ => (pf 6 9 39 0 σ).bind fun σ => (pf 6 10 39 0 σ).bind fun σ => (pz 6 11 39 0 σ).bind fun σ => (gk 6 39 σ).bind fun _ => (M_Reader_readClause 39 σ).bind fun p3 => M_Reader_readText_29 39 p3.1 0 p3.2) (zPt K V S N (zTxt K V) σ) := by
  have hB := tk.1
  have f1 : zFc σ (mup (mup (mup (mup (mup σ.1 39 4 0) 39 6 0) 39 9 0) 39 10 0) 39 11 0, σ.2) := by
    have b1 := zB_mup (r := 39) (i := 4) (v := 0) hB (by decide +kernel)
    have b2 := zB_mup (r := 39) (i := 6) (v := 0) b1 (by decide +kernel)
    have b3 := zB_mup (r := 39) (i := 9) (v := 0) b2 (by decide +kernel)
    have b4 := zB_mup (r := 39) (i := 10) (v := 0) b3 (by decide +kernel)
    have b5 := zB_mup (r := 39) (i := 11) (v := 0) b4 (by decide +kernel)
    refine ⟨rfl, b5, fun r a1 _ _ _ => ?_, fun i a1 a2 a3 a4 a5 => ?_⟩
    · show mup (mup (mup (mup (mup σ.1 39 4 0) 39 6 0) 39 9 0) 39 10 0) 39 11 0 r = σ.1 r
      rw [mup_fun a1, mup_fun a1, mup_fun a1, mup_fun a1, mup_fun a1]
    · show mup (mup (mup (mup (mup σ.1 39 4 0) 39 6 0) 39 9 0) 39 10 0) 39 11 0 39 i = σ.1 39 i
      rw [mup_slot a5, mup_slot a4, mup_slot a3, mup_slot a2, mup_slot a1]
  have cs0 : zCs K V N 0 0 0 0 0 (fun _ => 10) (mup (mup (mup (mup (mup σ.1 39 4 0) 39 6 0) 39 9 0) 39 10 0) 39 11 0, σ.2) := by
    refine ⟨⟨tk.fc f1, ⟨?_, ?_, ?_, ?_⟩, by omega, by omega, by omega, by omega, Or.inl rfl⟩, ?_, by omega, rfl, rfl, fun _ => fun _ _ _ => rfl⟩
    · show mup (mup (mup (mup (mup σ.1 39 4 0) 39 6 0) 39 9 0) 39 10 0) 39 11 0 39 4 = 0
      rw [mup_slot (by decide), mup_slot (by decide), mup_slot (by decide), mup_slot (by decide), mup_same]
    · show mup (mup (mup (mup (mup σ.1 39 4 0) 39 6 0) 39 9 0) 39 10 0) 39 11 0 39 10 = 0
      rw [mup_slot (by decide), mup_same]
    · show mup (mup (mup (mup (mup σ.1 39 4 0) 39 6 0) 39 9 0) 39 10 0) 39 11 0 39 6 = 0
      rw [mup_slot (by decide), mup_slot (by decide), mup_slot (by decide), mup_same]
    · show mup (mup (mup (mup (mup σ.1 39 4 0) 39 6 0) 39 9 0) 39 10 0) 39 11 0 39 11 = 0
      exact mup_same
    · show mup (mup (mup (mup (mup σ.1 39 4 0) 39 6 0) 39 9 0) 39 10 0) 39 11 0 39 9 = 0
      rw [mup_slot (by decide), mup_slot (by decide), mup_same]
  have cl := d_clause hT cs0
  have ok := zCla_ok hT 0 0 0 (fun _ => 10) (by omega) (by omega)
  have hBx := f1.2.1
  generalize eX : ((mup (mup (mup (mup (mup σ.1 39 4 0) 39 6 0) 39 9 0) 39 10 0) 39 11 0, σ.2) : mS) = X at *
  have N4 := hT.1
  refine wpo_mono (Q := zPt K V S N (if (zCla K V 0 0 0 (fun _ => 10)).1 = 1 then zFin K (zCz K V 401 1 (zCla K V 0 0 0 (fun _ => 10)).2.1 (zCla K V 0 0 0 (fun _ => 10)).2.2.1 (zCla K V 0 0 0 (fun _ => 10)).2.2.2) else zCla K V 0 0 0 (fun _ => 10)) σ) ?_ (fun q hq => hq)
  generalize eR : zCla K V 0 0 0 (fun _ => 10) = R at *
  generalize hQ : zPt K V S N (if R.1 = 1 then zFin K (zCz K V 401 1 R.2.1 R.2.2.1 R.2.2.2) else R) σ = Q
  simp (maxSteps := 5000000) (disch := first | assumption | omega) only [wpo_bind, wpo_some, wpo_gf, wpo_gk, wpo_ld, wpo_pf, wpo_pz, wpo_sd, wpo_sr, wpo_ln, wpo_idv, wpo_irm, wpo_lrm, wpo_ldv, wpo_cpy, mlet, mnar_int, mup_same, mup_cell, mup_slot, ite_true, ite_false, true_and, and_true, eq_self, or_true, true_or, and_self, Int.reduceLT, Int.reduceLE, Int.reduceEq, Int.reduceNe, Int.reduceAdd, Int.reduceSub, Int.reduceMul, Int.reduceNeg, ne_eq, not_false_eq_true, not_true_eq_false, false_or, or_false, zor_inl, zor_inr, Bool.false_eq_true, false_and, and_false, zk1, zk2, zk3, zk4, zk5, zk6, zk7, zk8, zk9, zk10, zk11, zk12, zk13, zk14, zk15, zk16, zk17, zk18, zk19, zk20, zk21, zk22, zk23, zk24, zk25, zk26, zk27, zk28, zk29, zk30, zk31, zk32, zk33, zk34, zk35, zk36, zk37, zk38, zk39, zk40, zk41, zk42, zk43, zk44, zk45, zk46, zk47, zk48, zk49, zk50, zk51, zk52, zk53, zk54, zk55, zk56, zk57, zk58, zk59, zk60, zk61, zk62, zk63, zk64, zk65, zk66, zk67, zk68, zk69, zk70, zk71, zk72, zk73, zk74, zk75, zk76, zk77, zk78, zk79, zk80, zk81, zk82, zk83, zk84, zk85, zk86, zk87, zk88, zk89, zk90, zr2_0, zr2_1, zr2_2, zr2_3, zr2_4, zr2_6, zr2_7, zr2_10, zr2_11, zr2_12, zr1_0, zr1_1, zr14_0, zr14_1, zr14_2, zr14_3, zr14_4, zr14_6, zr14_7, zr14_10, zr14_11, zr14_12, zr13_0, zr25_0, zr25_1, zr25_2, zr25_3, zr25_4, zr25_6, zr25_7, zr25_10, zr25_11, zr25_12, zr13_1, zr1_2, zr37_0, zr1_3, zr39_0, zr39_1, zr39_2, zr39_5, zr39_7, zr39_8, zr1_4, zr46_1, zr46_2, zr46_3, zr46_4, zr46_0, zr1_5, zr51_2, zr51_10, zr51_0, zr51_1, zr54_1, zr54_2, zr54_3, zr1_6, zr58_1, zr58_2, zr58_3, zr58_0, zr1_7, zr62_2, zr62_3, zr62_0, zr62_1, zr1_8, zr1_9, zr1_10, zr1_15, zr68_2, zr68_3, zr68_4, zr68_5, zr68_7, zr68_8, zr68_9, zr68_12, zr68_13, zr68_14, zr68_22, zr68_23, zr68_24, zr68_26, zr68_35, zr68_36, zr68_37, zr68_38, zr68_39, zr68_40, zr68_41, zr68_42, eX]
  refine wpo_mono cl ?_
  intro q ⟨q1, q2⟩
  subst hQ
  have hSq : ∀ j : Nat, j ≤ N → q.2.1 41 j = S j := fun j hj => by rw [q1.2.2.1 41 (by decide) (by decide) (by decide) (by decide), f1.2.2.1 41 (by decide) (by decide) (by decide) (by decide)]; exact hS j hj
  unfold M_Reader_readText_29
  rcases q2 with ⟨r1, r2, s', fl', r3⟩ | ⟨r1, r2, r3⟩
  · rw [if_pos r1, r2]
    exact d_29 hT 401 mN 1 _ _ s' fl' 0 _ σ q.2 (by rw [mN_eq]; decide) (by omega) r3 (f1.trans q1) (by decide) hS
  · rw [if_neg (by omega), r2]
    rcases ok with ⟨k1, _⟩ | ⟨k1, k2, k3⟩
    · omega
    · have := d_29no hT ((tk.fc f1).fc q1) r3 k3 (f1.trans q1) hSq (i := 0) (r := R) ⟨r1, rfl⟩ 99999
      rw [mN_eq]
      exact this
