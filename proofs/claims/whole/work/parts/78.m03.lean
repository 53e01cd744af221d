noncomputable section
def zFg (σ σ' : mS) : Prop := σ'.2 = σ.2 ∧ zB σ' ∧ (∀ r, r ≠ 68 → r ≠ 82 → σ'.1 r = σ.1 r) ∧ (∀ j, j ≤ 26 ∨ 35 ≤ j → σ'.1 68 j = σ.1 68 j)
theorem zFg.rfl' {σ : mS} (h : zB σ) : zFg σ σ := ⟨rfl, h, fun _ _ _ => rfl, fun _ _ => rfl⟩
theorem zFg.trans {σ σ' σ'' : mS} (h : zFg σ σ') (h' : zFg σ' σ'') : zFg σ σ'' := ⟨h'.1.trans h.1, h'.2.1, fun r a b => (h'.2.2.1 r a b).trans (h.2.2.1 r a b), fun j a => (h'.2.2.2 j a).trans (h.2.2.2 j a)⟩
theorem zFg.slot {σ : mS} {i v : Int} (h : zB σ) (hi : 27 ≤ i ∧ i ≤ 34) (ok : zokr 68 i = true) : zFg σ (mup σ.1 68 i v, σ.2) := by
  refine ⟨rfl, zB_mup h ok, fun r a _ => mup_fun a, fun j hj => ?_⟩
  show mup σ.1 68 i v 68 j = _
  exact mup_slot (by omega)
theorem zFg.height {σ : mS} {i v : Int} (h : zB σ) : zFg σ (mup σ.1 82 i v, σ.2) := by
  refine ⟨rfl, zB_mup h (zokr_arr (by decide +kernel)), fun r _ a => mup_fun a, fun j hj => ?_⟩
  show mup σ.1 82 i v 68 j = _
  exact mup_cell (by decide)
theorem zMQ.fg {D : Int → (Int → Int) → Int} {A : Int → Int} {σ σ' : mS} (h : zMQ D A σ) (f : zFg σ σ') : zMQ D A σ' := by
  obtain ⟨hB, hW, hb, hA, hM, hv, hc⟩ := h
  have f1 := f.2.2.2 1 (by decide)
  have f25 := f.2.2.2 25 (by decide)
  refine ⟨f.2.1, hW, hb, by rw [f.2.2.1 70 (by decide) (by decide)]; exact hA, hM, by rw [f1]; exact hv, ?_⟩
  rw [f25, f1, f.2.2.1 81 (by decide) (by decide), f.2.2.1 80 (by decide) (by decide)]
  exact hc
theorem zWarm.fg {D : Int → (Int → Int) → Int} {A : Int → Int} {hr : Int} {σ σ' : mS} (h : zWarm D A hr σ) (f : zFg σ σ') : zWarm D A hr σ' := by
  unfold zWarm at h ⊢; rw [f.2.2.1 80 (by decide) (by decide)]; exact h
theorem zKm.of_fg {σ σ' : mS} (f : zFg σ σ') : zKm σ σ' := ⟨f.1, f.2.1, fun r x => f.2.2.1 r (by omega) (by omega), fun i x => f.2.2.2 i (by omega)⟩
theorem f_draws {σ : mS} {m : Int} (hB : zB σ) (h0 : 0 ≤ σ.1 68 34) (h1 : σ.1 68 34 ≤ 1000002) (hm : 0 < m) : M_Mo_draws 68 m σ = some (zdraw (σ.1 68 34) % m, (mup σ.1 68 34 (zdraw (σ.1 68 34)), σ.2)) := by
  have : wpo (M_Mo_draws 68 m σ) (fun q => q = (zdraw (σ.1 68 34) % m, (mup σ.1 68 34 (zdraw (σ.1 68 34)), σ.2))) := by
    have a1 : w64 (1103 * σ.1 68 34) = σ.1 68 34 * 1103 := by rw [Int.mul_comm]; exact w64_in (by omega) (by omega)
    have a2 : w64 (σ.1 68 34 * 1103 + 12345) = σ.1 68 34 * 1103 + 12345 := w64_in (by omega) (by omega)
    have a3 : Int.tmod (σ.1 68 34 * 1103 + 12345) 1000003 = zdraw (σ.1 68 34) := by
      rw [Int.tmod_eq_emod_of_nonneg (by omega)]; rfl
    have b := zdraw_bd (σ.1 68 34)
    have a4 : w32 (zdraw (σ.1 68 34)) = zdraw (σ.1 68 34) := w32_in (by omega) (by omega)
    have a5 : Int.tmod (zdraw (σ.1 68 34)) m = zdraw (σ.1 68 34) % m := Int.tmod_eq_emod_of_nonneg b.1
    have m0 : ¬ m = 0 := by omega
    unfold M_Mo_draws
    (try simp (disch := first | assumption | omega) only [wpo_bind, wpo_some, wpo_gf, wpo_gk, wpo_ld, wpo_pf, wpo_pz, wpo_sd, wpo_sr, wpo_ln, wpo_idv, wpo_irm, wpo_lrm, wpo_ldv, wpo_cpy, mlet, mnar_int, mup_same, mup_cell, mup_slot, ite_true, ite_false, true_and, and_true, eq_self, or_true, true_or, and_self, Int.reduceLT, Int.reduceLE, Int.reduceEq, Int.reduceNe, Int.reduceAdd, Int.reduceSub, Int.reduceMul, Int.reduceNeg, ne_eq, not_false_eq_true, not_true_eq_false, false_or, or_false, zor_inl, zor_inr, Bool.false_eq_true, false_and, and_false, zk1, zk2, zk3, zk4, zk5, zk6, zk7, zk8, zk9, zk10, zk11, zk12, zk13, zk14, zk15, zk16, zk17, zk18, zk19, zk20, zk21, zk22, zk23, zk24, zk25, zk26, zk27, zk28, zk29, zk30, zk31, zk32, zk33, zk34, zk35, zk36, zk37, zk38, zk39, zk40, zk41, zk42, zk43, zk44, zk45, zk46, zk47, zk48, zk49, zk50, zk51, zk52, zk53, zk54, zk55, zk56, zk57, zk58, zk59, zk60, zk61, zk62, zk63, zk64, zk65, zk66, zk67, zk68, zk69, zk70, zk71, zk72, zk73, zk74, zk75, zk76, zk77, zk78, zk79, zk80, zk81, zk82, zk83, zk84, zk85, zk86, zk87, zk88, zk89, zk90, zr2_0, zr2_1, zr2_2, zr2_3, zr2_4, zr2_6, zr2_7, zr2_10, zr2_11, zr2_12, zr1_0, zr1_1, zr14_0, zr14_1, zr14_2, zr14_3, zr14_4, zr14_6, zr14_7, zr14_10, zr14_11, zr14_12, zr13_0, zr25_0, zr25_1, zr25_2, zr25_3, zr25_4, zr25_6, zr25_7, zr25_10, zr25_11, zr25_12, zr13_1, zr1_2, zr37_0, zr1_3, zr39_0, zr39_1, zr39_2, zr39_5, zr39_7, zr39_8, zr1_4, zr46_1, zr46_2, zr46_3, zr46_4, zr46_0, zr1_5, zr51_2, zr51_10, zr51_0, zr51_1, zr54_1, zr54_2, zr54_3, zr1_6, zr58_1, zr58_2, zr58_3, zr58_0, zr1_7, zr62_2, zr62_3, zr62_0, zr62_1, zr1_8, zr1_9, zr1_10, zr1_15, zr68_2, zr68_3, zr68_4, zr68_5, zr68_7, zr68_8, zr68_9, zr68_12, zr68_13, zr68_14, zr68_22, zr68_23, zr68_24, zr68_26, zr68_35, zr68_36, zr68_37, zr68_38, zr68_39, zr68_40, zr68_41, zr68_42, a1, a2, a3, a4, a5, m0])
  obtain ⟨y, e, rfl⟩ := this
  exact e
theorem f_warmer {D : Int → (Int → Int) → Int} {A : Int → Int} {σ : mS} {hr p i : Int} (hB : zB σ) (hw : zWarm D A hr σ) (hb : ∀ s p i, -50 ≤ zWd D A s p i ∧ zWd D A s p i ≤ 99) (h0 : 0 ≤ hr) (h1 : hr < 24) (p0 : 0 ≤ p) (p1 : p < 64) (i0 : 0 ≤ i) (i1 : i < 32) : M_Mo_warmer 68 p i hr σ = some (zpull (zWd D A hr) p i, σ) := by
  have : wpo (M_Mo_warmer 68 p i hr σ) (fun q => q = (zpull (zWd D A hr) p i, σ)) := by
    have w1 : w32 (64 * hr) = 64 * hr := w32_in (by omega) (by omega)
    have w2 : w32 (64 * hr + p) = 64 * hr + p := w32_in (by omega) (by omega)
    have w3 : w32 ((64 * hr + p) * 32) = (64 * hr + p) * 32 := w32_in (by omega) (by omega)
    have n1 : znr (w32 (i - 1)) 0 31 = if i - 1 < 0 then 0 else i - 1 := by
      rw [w32_in (by omega) (by omega)]; unfold znr; split
      · rfl
      · rw [if_neg (by omega)]
    have n2 : znr (w32 (i + 1)) 0 31 = if 31 < i + 1 then 31 else i + 1 := by
      rw [w32_in (by omega) (by omega)]; unfold znr; rw [if_neg (by omega)]
    have j1 : 0 ≤ (if i - 1 < 0 then 0 else i - 1) ∧ (if i - 1 < 0 then 0 else i - 1) < 32 := by split <;> omega
    have j2 : 0 ≤ (if 31 < i + 1 then 31 else i + 1) ∧ (if 31 < i + 1 then 31 else i + 1) < 32 := by split <;> omega
    have v1 := hw p _ p0 p1 j1.1 j1.2
    have v2 := hw p _ p0 p1 j2.1 j2.2
    have b1 := hb hr p (if i - 1 < 0 then 0 else i - 1)
    have b2 := hb hr p (if 31 < i + 1 then 31 else i + 1)
    unfold zpull
    generalize (if i - 1 < 0 then 0 else i - 1) = a at *
    generalize (if 31 < i + 1 then 31 else i + 1) = b at *
    have w4 : w32 ((64 * hr + p) * 32 + a) = (64 * hr + p) * 32 + a := w32_in (by omega) (by omega)
    have w5 : w32 ((64 * hr + p) * 32 + b) = (64 * hr + p) * 32 + b := w32_in (by omega) (by omega)
    have x0 : 0 ≤ (64 * hr + p) * 32 + a := by omega
    have x1 : (64 * hr + p) * 32 + a < 49152 := by omega
    have x2 : 0 ≤ (64 * hr + p) * 32 + b := by omega
    have x3 : (64 * hr + p) * 32 + b < 49152 := by omega
    have w6 : w32 (zWd D A hr p a - zWd D A hr p b) = zWd D A hr p a - zWd D A hr p b := w32_in (by omega) (by omega)
    unfold M_Mo_warmer
    (try simp (disch := first | assumption | omega) only [wpo_bind, wpo_some, wpo_gf, wpo_gk, wpo_ld, wpo_pf, wpo_pz, wpo_sd, wpo_sr, wpo_ln, wpo_idv, wpo_irm, wpo_lrm, wpo_ldv, wpo_cpy, mlet, mnar_int, mup_same, mup_cell, mup_slot, ite_true, ite_false, true_and, and_true, eq_self, or_true, true_or, and_self, Int.reduceLT, Int.reduceLE, Int.reduceEq, Int.reduceNe, Int.reduceAdd, Int.reduceSub, Int.reduceMul, Int.reduceNeg, ne_eq, not_false_eq_true, not_true_eq_false, false_or, or_false, zor_inl, zor_inr, Bool.false_eq_true, false_and, and_false, zk1, zk2, zk3, zk4, zk5, zk6, zk7, zk8, zk9, zk10, zk11, zk12, zk13, zk14, zk15, zk16, zk17, zk18, zk19, zk20, zk21, zk22, zk23, zk24, zk25, zk26, zk27, zk28, zk29, zk30, zk31, zk32, zk33, zk34, zk35, zk36, zk37, zk38, zk39, zk40, zk41, zk42, zk43, zk44, zk45, zk46, zk47, zk48, zk49, zk50, zk51, zk52, zk53, zk54, zk55, zk56, zk57, zk58, zk59, zk60, zk61, zk62, zk63, zk64, zk65, zk66, zk67, zk68, zk69, zk70, zk71, zk72, zk73, zk74, zk75, zk76, zk77, zk78, zk79, zk80, zk81, zk82, zk83, zk84, zk85, zk86, zk87, zk88, zk89, zk90, zr2_0, zr2_1, zr2_2, zr2_3, zr2_4, zr2_6, zr2_7, zr2_10, zr2_11, zr2_12, zr1_0, zr1_1, zr14_0, zr14_1, zr14_2, zr14_3, zr14_4, zr14_6, zr14_7, zr14_10, zr14_11, zr14_12, zr13_0, zr25_0, zr25_1, zr25_2, zr25_3, zr25_4, zr25_6, zr25_7, zr25_10, zr25_11, zr25_12, zr13_1, zr1_2, zr37_0, zr1_3, zr39_0, zr39_1, zr39_2, zr39_5, zr39_7, zr39_8, zr1_4, zr46_1, zr46_2, zr46_3, zr46_4, zr46_0, zr1_5, zr51_2, zr51_10, zr51_0, zr51_1, zr54_1, zr54_2, zr54_3, zr1_6, zr58_1, zr58_2, zr58_3, zr58_0, zr1_7, zr62_2, zr62_3, zr62_0, zr62_1, zr1_8, zr1_9, zr1_10, zr1_15, zr68_2, zr68_3, zr68_4, zr68_5, zr68_7, zr68_8, zr68_9, zr68_12, zr68_13, zr68_14, zr68_22, zr68_23, zr68_24, zr68_26, zr68_35, zr68_36, zr68_37, zr68_38, zr68_39, zr68_40, zr68_41, zr68_42, w1, w2, w3, f_nearest, n1, n2, w4, w5, x0, x1, x2, x3, v1, v2, w6])
  obtain ⟨y, e, rfl⟩ := this
  exact e
theorem f_ends {σ : mS} {a b c d : Int} (hB : zB σ) : M_Mo_ends 68 a b c d σ = some (0, (mup (mup (mup (mup σ.1 68 27 a) 68 28 b) 68 29 c) 68 30 d, σ.2)) := by
  have : wpo (M_Mo_ends 68 a b c d σ) (fun q => q = (0, (mup (mup (mup (mup σ.1 68 27 a) 68 28 b) 68 29 c) 68 30 d, σ.2))) := by
    unfold M_Mo_ends
    (try simp (disch := first | assumption | omega) only [wpo_bind, wpo_some, wpo_gf, wpo_gk, wpo_ld, wpo_pf, wpo_pz, wpo_sd, wpo_sr, wpo_ln, wpo_idv, wpo_irm, wpo_lrm, wpo_ldv, wpo_cpy, mlet, mnar_int, mup_same, mup_cell, mup_slot, ite_true, ite_false, true_and, and_true, eq_self, or_true, true_or, and_self, Int.reduceLT, Int.reduceLE, Int.reduceEq, Int.reduceNe, Int.reduceAdd, Int.reduceSub, Int.reduceMul, Int.reduceNeg, ne_eq, not_false_eq_true, not_true_eq_false, false_or, or_false, zor_inl, zor_inr, Bool.false_eq_true, false_and, and_false, zk1, zk2, zk3, zk4, zk5, zk6, zk7, zk8, zk9, zk10, zk11, zk12, zk13, zk14, zk15, zk16, zk17, zk18, zk19, zk20, zk21, zk22, zk23, zk24, zk25, zk26, zk27, zk28, zk29, zk30, zk31, zk32, zk33, zk34, zk35, zk36, zk37, zk38, zk39, zk40, zk41, zk42, zk43, zk44, zk45, zk46, zk47, zk48, zk49, zk50, zk51, zk52, zk53, zk54, zk55, zk56, zk57, zk58, zk59, zk60, zk61, zk62, zk63, zk64, zk65, zk66, zk67, zk68, zk69, zk70, zk71, zk72, zk73, zk74, zk75, zk76, zk77, zk78, zk79, zk80, zk81, zk82, zk83, zk84, zk85, zk86, zk87, zk88, zk89, zk90, zr2_0, zr2_1, zr2_2, zr2_3, zr2_4, zr2_6, zr2_7, zr2_10, zr2_11, zr2_12, zr1_0, zr1_1, zr14_0, zr14_1, zr14_2, zr14_3, zr14_4, zr14_6, zr14_7, zr14_10, zr14_11, zr14_12, zr13_0, zr25_0, zr25_1, zr25_2, zr25_3, zr25_4, zr25_6, zr25_7, zr25_10, zr25_11, zr25_12, zr13_1, zr1_2, zr37_0, zr1_3, zr39_0, zr39_1, zr39_2, zr39_5, zr39_7, zr39_8, zr1_4, zr46_1, zr46_2, zr46_3, zr46_4, zr46_0, zr1_5, zr51_2, zr51_10, zr51_0, zr51_1, zr54_1, zr54_2, zr54_3, zr1_6, zr58_1, zr58_2, zr58_3, zr58_0, zr1_7, zr62_2, zr62_3, zr62_0, zr62_1, zr1_8, zr1_9, zr1_10, zr1_15, zr68_2, zr68_3, zr68_4, zr68_5, zr68_7, zr68_8, zr68_9, zr68_12, zr68_13, zr68_14, zr68_22, zr68_23, zr68_24, zr68_26, zr68_35, zr68_36, zr68_37, zr68_38, zr68_39, zr68_40, zr68_41, zr68_42])
  obtain ⟨y, e, rfl⟩ := this
  exact e
/-- what stands behind a ray of the reference -/
def zRm (S : zSc) (tr : Int) (σ : mS) : Prop := σ.1 68 27 = zwh S ∧ σ.1 68 28 = zpl S ∧ σ.1 68 29 = zth S ∧ σ.1 68 30 = zic S ∧ σ.1 68 31 = zH S (zlo S (zK S)) ∧ σ.1 68 32 = (ztu S (zK S)).1 ∧ σ.1 68 33 = zsl S ∧ (∀ k : Nat, k ≤ zK S → σ.1 82 (ze S + k) = zH S k) ∧ (0 ≤ tr → σ.1 68 34 = zd S (zK S))
/-- the state of its loop -/
def zgm (S : zSc) (tr : Int) (k : Nat) (sign more : Int) (σ : mS) : Prop :=
  (more = 1 ∧ ze S + k < 63 ∧ σ.1 68 33 = zs S k ∧ sign = (ztu S (k + 1)).2 ∧ σ.1 68 32 = (ztu S (k + 1)).1 ∧ σ.1 68 31 = zH S (zlo S k) ∧ (∀ j, 0 < j → j ≤ k → ¬ zstop S j) ∧ (∀ j : Nat, j ≤ k → σ.1 82 (ze S + j) = zH S j) ∧ (0 ≤ tr → σ.1 68 34 = zd S k)) ∨ (more = 0 ∧ zRm S tr σ)
theorem ztu_step (S : zSc) (k : Nat) : ztu S (k + 1) = (if zsg (zs S k) = 0 then ztu S k else ((ztu S k).1 + (if (ztu S k).2 ≠ 0 ∧ zsg (zs S k) ≠ (ztu S k).2 then 1 else 0), zsg (zs S k))) := by
  have b := (ztu_bd S k).2
  have sb : -1 ≤ zsg (zs S k) ∧ zsg (zs S k) ≤ 1 := by unfold zsg; split <;> (try split) <;> omega
  show (if zsg (zs S k) = 0 then ztu S k else ((ztu S k).1 + (if zsg (zs S k) = -(ztu S k).2 then 1 else 0), zsg (zs S k))) = _
  by_cases c : zsg (zs S k) = 0
  · rw [if_pos c, if_pos c]
  · rw [if_neg c, if_neg c]
    by_cases d : zsg (zs S k) = -(ztu S k).2
    · rw [if_pos d, if_pos (by omega)]
    · rw [if_neg d, if_neg (by omega)]
end
