/-! A RAY of the developers' program -/
theorem zCQ_scr {D : Int → (Int → Int) → Int} {A : Int → Int} {σ σ' : mS} (h : zCQ D A σ) (e2 : σ'.2 = σ.2) (hB' : zB σ') (hf : ∀ r, r ≤ 48 ∨ 54 ≤ r ∧ r ≤ 57 ∨ 65 ≤ r → σ'.1 r = σ.1 r) : zCQ D A σ' := by
  obtain ⟨hB, hW, hR, hL, hA⟩ := h
  refine ⟨hB', hW, zRoad_frame hR (fun r a b => hf r (by omega)), ?_, ?_⟩
  · intro t t0 t1
    rw [hf (2 + 7) (by omega)]
    have hl := hL t t0 t1
    exact zLaw_frame hl (by rw [e2]; exact Int.le_refl _) (fun j a b => ⟨hf _ (by have := hl.1.1; omega), by rw [e2]⟩)
  · refine zAir_frame hA e2 (hf 47 (by omega)) (hf 48 (by omega)) ?_
    intro u u0 u1 un
    have hu := zAir_get hA u0 u1 un
    have lo' := zHB_low hu.1
    refine ⟨hf _ (by omega), hf _ (by omega), ?_⟩
    intro q _ _ _ hc k k0 k1
    rw [hf _ (by omega), hf _ (by omega)]
    exact hc k k0 k1
def zFrs (b : Int) (σ σ' : mS) : Prop := σ'.2 = σ.2 ∧ zB σ' ∧ (∀ r, r ≠ 49 → r ≠ 50 → r ≠ 51 → r ≠ 53 → r ≠ b + 1 → r ≠ b + 2 → σ'.1 r = σ.1 r) ∧ (∀ i, i ≤ 8 ∨ i = 10 → σ'.1 51 i = σ.1 51 i)
theorem zFrs.rfl' {b : Int} {σ : mS} (h : zB σ) : zFrs b σ σ := ⟨rfl, h, fun _ _ _ _ _ _ _ => rfl, fun _ _ => rfl⟩
theorem zFrs.trans {b : Int} {σ σ' σ'' : mS} (h : zFrs b σ σ') (h' : zFrs b σ' σ'') : zFrs b σ σ'' := ⟨h'.1.trans h.1, h'.2.1, fun r a c d e f g => (h'.2.2.1 r a c d e f g).trans (h.2.2.1 r a c d e f g), fun i a => (h'.2.2.2 i a).trans (h.2.2.2 i a)⟩
theorem zFrs.of_wr {b : Int} {σ σ' : mS} (hb : 54 ≤ b) (h : zWr b σ σ') : zFrs b σ σ' := ⟨h.1, h.2.1, fun r a c _ _ f g => h.2.2 r a c f g, fun i _ => by rw [h.2.2 51 (by decide) (by decide) (by omega) (by omega)]⟩
theorem zFrs.slot {b i v : Int} {σ : mS} (h : zB σ) (hi : zokr 51 i = true) (hj : ¬ (i ≤ 8 ∨ i = 10)) : zFrs b σ (mup σ.1 51 i v, σ.2) := by
  refine ⟨rfl, zB_mup h hi, fun r _ _ a _ _ _ => mup_fun a, fun j hj' => ?_⟩
  show mup σ.1 51 i v 51 j = _
  exact mup_slot (fun e => hj (e ▸ hj'))
theorem zFrs.height {b i v : Int} {σ : mS} (h : zB σ) : zFrs b σ (mup σ.1 53 i v, σ.2) := by
  refine ⟨rfl, zB_mup h (zokr_arr (by decide +kernel)), fun r _ _ _ a _ _ => mup_fun a, fun j _ => ?_⟩
  show mup σ.1 53 i v 51 j = _
  exact mup_cell (by decide)
theorem zCQ_slot {D : Int → (Int → Int) → Int} {A : Int → Int} {σ : mS} {i v : Int} (h : zCQ D A σ) (hi : zokr 51 i = true) : zCQ D A (mup σ.1 51 i v, σ.2) :=
  zCQ_scr h rfl (zB_mup h.1 hi) (fun r hr => mup_fun (by omega))
theorem zCQ_height {D : Int → (Int → Int) → Int} {A : Int → Int} {σ : mS} {i v : Int} (h : zCQ D A σ) : zCQ D A (mup σ.1 53 i v, σ.2) :=
  zCQ_scr h rfl (zB_mup h.1 (zokr_arr (by decide +kernel))) (fun r hr => mup_fun (by omega))
/-- how the eye stands: its air is that of the hour s, up to date -/
def zLt (σ : mS) (s bend e eh t pa : Int) : Prop := (0 ≤ s ∧ s < 24) ∧ σ.1 47 s ≠ 0 ∧ σ.1 51 5 = σ.1 47 s ∧ (∀ p, 0 ≤ p → p < 64 → σ.1 (σ.1 47 s + 3) p = σ.1 48 p) ∧ σ.1 51 6 = bend ∧ σ.1 51 3 = e ∧ σ.1 51 4 = eh ∧ σ.1 51 8 = t ∧ σ.1 51 7 = pa
theorem zLt.fr {D : Int → (Int → Int) → Int} {A : Int → Int} {σ σ' : mS} {s bend e eh t pa : Int} (h : zLt σ s bend e eh t pa) (hq : zCQ D A σ) (hf : zFrs (σ.1 47 s) σ σ') : zLt σ' s bend e eh t pa := by
  obtain ⟨h1, h2, h3, h4, h5, h6, h7, h8, h9⟩ := h
  have hh := zAir_get hq.2.2.2.2 h1.1 h1.2 h2
  have lo := zHB_low hh.1
  have f47 : σ'.1 47 = σ.1 47 := hf.2.2.1 47 (by decide) (by decide) (by decide) (by decide) (by omega) (by omega)
  have f48 : σ'.1 48 = σ.1 48 := hf.2.2.1 48 (by decide) (by decide) (by decide) (by decide) (by omega) (by omega)
  have fb : σ'.1 (σ.1 47 s + 3) = σ.1 (σ.1 47 s + 3) := hf.2.2.1 _ (by omega) (by omega) (by omega) (by omega) (by omega) (by omega)
  have g := hf.2.2.2
  refine ⟨h1, by rw [f47]; exact h2, by rw [f47, g 5 (by decide)]; exact h3, by rw [f47, f48, fb]; exact h4, ?_, ?_, ?_, ?_, ?_⟩
  · rw [g 6 (by decide)]; exact h5
  · rw [g 3 (by decide)]; exact h6
  · rw [g 4 (by decide)]; exact h7
  · rw [g 8 (by decide)]; exact h8
  · rw [g 7 (by decide)]; exact h9
/-- what stands behind a RAY -/
def zRes (S : zSc) (σ : mS) : Prop := σ.1 51 11 = zpl S ∧ σ.1 51 12 = zH S (zK S) ∧ σ.1 51 13 = zsl S ∧ σ.1 51 14 = zwh S ∧ σ.1 51 15 = zth S ∧ σ.1 51 16 = zic S ∧ (∀ k : Nat, k ≤ zK S → σ.1 53 (ze S + k) = zH S k) ∧ (0 < zt S → σ.1 51 9 = zd S (zK S))
theorem s_settle {σ : mS} {th ab go : Int} (hB : zB σ) (hab : -300000 ≤ ab ∧ ab ≤ 300000) :
    M_Light_settle 51 th ab go σ = some (0, (if go ≠ 0 ∨ 3200 ≤ σ.1 51 12 then mup (mup (mup σ.1 51 15 (-1)) 51 16 (-1)) 51 14 2 else if ab < 0 then mup (mup (mup σ.1 51 15 (-1)) 51 16 (-1)) 51 14 0 else mup (mup (mup (mup (mup σ.1 51 15 (-1)) 51 16 (-1)) 51 14 1) 51 15 th) 51 16 (ab / 100), σ.2)) := by
  have : wpo (M_Light_settle 51 th ab go σ) (fun q => q = (0, (if go ≠ 0 ∨ 3200 ≤ σ.1 51 12 then mup (mup (mup σ.1 51 15 (-1)) 51 16 (-1)) 51 14 2 else if ab < 0 then mup (mup (mup σ.1 51 15 (-1)) 51 16 (-1)) 51 14 0 else mup (mup (mup (mup (mup σ.1 51 15 (-1)) 51 16 (-1)) 51 14 1) 51 15 th) 51 16 (ab / 100), σ.2))) := by
    unfold M_Light_settle
    by_cases c1 : go = 0
    · by_cases c2 : σ.1 51 12 < 3200
      · by_cases c3 : ab < 0
        · simp (disch := first | assumption | omega) only [wpo_bind, wpo_some, wpo_gf, wpo_gk, wpo_ld, wpo_pf, wpo_pz, wpo_sd, wpo_sr, wpo_ln, wpo_idv, wpo_irm, wpo_lrm, wpo_ldv, wpo_cpy, mlet, mnar_int, mup_same, mup_cell, mup_slot, ite_true, ite_false, true_and, and_true, eq_self, or_true, true_or, and_self, Int.reduceLT, Int.reduceLE, Int.reduceEq, Int.reduceNe, Int.reduceAdd, Int.reduceSub, Int.reduceMul, Int.reduceNeg, ne_eq, not_false_eq_true, not_true_eq_false, if_pos, if_neg, false_or, or_false, zor_inl, zor_inr, false_and, and_false, zk1, zk2, zk3, zk4, zk5, zk6, zk7, zk8, zk9, zk10, zk11, zk12, zk13, zk14, zk15, zk16, zk17, zk18, zk19, zk20, zk21, zk22, zk23, zk24, zk25, zk26, zk27, zk28, zk29, zk30, zk31, zk32, zk33, zk34, zk35, zk36, zk37, zk38, zk39, zk40, zk41, zk42, zk43, zk44, zk45, zk46, zk47, zk48, zk49, zk50, zk51, zk52, zk53, zk54, zk55, zk56, zk57, zk58, zk59, zk60, zk61, zk62, zk63, zk64, zk65, zk66, zk67, zk68, zk69, zk70, zk71, zk72, zk73, zk74, zk75, zk76, zk77, zk78, zk79, zk80, zk81, zk82, zk83, zk84, zk85, zk86, zk87, zk88, zk89, zk90, zr2_0, zr2_1, zr2_2, zr2_3, zr2_4, zr2_6, zr2_7, zr2_10, zr2_11, zr2_12, zr1_0, zr1_1, zr14_0, zr14_1, zr14_2, zr14_3, zr14_4, zr14_6, zr14_7, zr14_10, zr14_11, zr14_12, zr13_0, zr25_0, zr25_1, zr25_2, zr25_3, zr25_4, zr25_6, zr25_7, zr25_10, zr25_11, zr25_12, zr13_1, zr1_2, zr37_0, zr1_3, zr39_0, zr39_1, zr39_2, zr39_5, zr39_7, zr39_8, zr1_4, zr46_1, zr46_2, zr46_3, zr46_4, zr46_0, zr1_5, zr51_2, zr51_10, zr51_0, zr51_1, zr54_1, zr54_2, zr54_3, zr1_6, zr58_1, zr58_2, zr58_3, zr58_0, zr1_7, zr62_2, zr62_3, zr62_0, zr62_1, zr1_8, zr1_9, zr1_10, zr1_15, zr68_2, zr68_3, zr68_4, zr68_5, zr68_7, zr68_8, zr68_9, zr68_12, zr68_13, zr68_14, zr68_22, zr68_23, zr68_24, zr68_26, zr68_35, zr68_36, zr68_37, zr68_38, zr68_39, zr68_40, zr68_41, zr68_42, c1, c2, c3]
        · have e : w32 (Int.tdiv ab 100) = ab / 100 := by
            rw [Int.tdiv_eq_ediv_of_nonneg (by omega)]
            exact w32_in (by omega) (by omega)
          simp (disch := first | assumption | omega) only [wpo_bind, wpo_some, wpo_gf, wpo_gk, wpo_ld, wpo_pf, wpo_pz, wpo_sd, wpo_sr, wpo_ln, wpo_idv, wpo_irm, wpo_lrm, wpo_ldv, wpo_cpy, mlet, mnar_int, mup_same, mup_cell, mup_slot, ite_true, ite_false, true_and, and_true, eq_self, or_true, true_or, and_self, Int.reduceLT, Int.reduceLE, Int.reduceEq, Int.reduceNe, Int.reduceAdd, Int.reduceSub, Int.reduceMul, Int.reduceNeg, ne_eq, not_false_eq_true, not_true_eq_false, if_pos, if_neg, false_or, or_false, zor_inl, zor_inr, false_and, and_false, zk1, zk2, zk3, zk4, zk5, zk6, zk7, zk8, zk9, zk10, zk11, zk12, zk13, zk14, zk15, zk16, zk17, zk18, zk19, zk20, zk21, zk22, zk23, zk24, zk25, zk26, zk27, zk28, zk29, zk30, zk31, zk32, zk33, zk34, zk35, zk36, zk37, zk38, zk39, zk40, zk41, zk42, zk43, zk44, zk45, zk46, zk47, zk48, zk49, zk50, zk51, zk52, zk53, zk54, zk55, zk56, zk57, zk58, zk59, zk60, zk61, zk62, zk63, zk64, zk65, zk66, zk67, zk68, zk69, zk70, zk71, zk72, zk73, zk74, zk75, zk76, zk77, zk78, zk79, zk80, zk81, zk82, zk83, zk84, zk85, zk86, zk87, zk88, zk89, zk90, zr2_0, zr2_1, zr2_2, zr2_3, zr2_4, zr2_6, zr2_7, zr2_10, zr2_11, zr2_12, zr1_0, zr1_1, zr14_0, zr14_1, zr14_2, zr14_3, zr14_4, zr14_6, zr14_7, zr14_10, zr14_11, zr14_12, zr13_0, zr25_0, zr25_1, zr25_2, zr25_3, zr25_4, zr25_6, zr25_7, zr25_10, zr25_11, zr25_12, zr13_1, zr1_2, zr37_0, zr1_3, zr39_0, zr39_1, zr39_2, zr39_5, zr39_7, zr39_8, zr1_4, zr46_1, zr46_2, zr46_3, zr46_4, zr46_0, zr1_5, zr51_2, zr51_10, zr51_0, zr51_1, zr54_1, zr54_2, zr54_3, zr1_6, zr58_1, zr58_2, zr58_3, zr58_0, zr1_7, zr62_2, zr62_3, zr62_0, zr62_1, zr1_8, zr1_9, zr1_10, zr1_15, zr68_2, zr68_3, zr68_4, zr68_5, zr68_7, zr68_8, zr68_9, zr68_12, zr68_13, zr68_14, zr68_22, zr68_23, zr68_24, zr68_26, zr68_35, zr68_36, zr68_37, zr68_38, zr68_39, zr68_40, zr68_41, zr68_42, c1, c2, c3, e]
      · simp (disch := first | assumption | omega) only [wpo_bind, wpo_some, wpo_gf, wpo_gk, wpo_ld, wpo_pf, wpo_pz, wpo_sd, wpo_sr, wpo_ln, wpo_idv, wpo_irm, wpo_lrm, wpo_ldv, wpo_cpy, mlet, mnar_int, mup_same, mup_cell, mup_slot, ite_true, ite_false, true_and, and_true, eq_self, or_true, true_or, and_self, Int.reduceLT, Int.reduceLE, Int.reduceEq, Int.reduceNe, Int.reduceAdd, Int.reduceSub, Int.reduceMul, Int.reduceNeg, ne_eq, not_false_eq_true, not_true_eq_false, if_pos, if_neg, false_or, or_false, zor_inl, zor_inr, false_and, and_false, zk1, zk2, zk3, zk4, zk5, zk6, zk7, zk8, zk9, zk10, zk11, zk12, zk13, zk14, zk15, zk16, zk17, zk18, zk19, zk20, zk21, zk22, zk23, zk24, zk25, zk26, zk27, zk28, zk29, zk30, zk31, zk32, zk33, zk34, zk35, zk36, zk37, zk38, zk39, zk40, zk41, zk42, zk43, zk44, zk45, zk46, zk47, zk48, zk49, zk50, zk51, zk52, zk53, zk54, zk55, zk56, zk57, zk58, zk59, zk60, zk61, zk62, zk63, zk64, zk65, zk66, zk67, zk68, zk69, zk70, zk71, zk72, zk73, zk74, zk75, zk76, zk77, zk78, zk79, zk80, zk81, zk82, zk83, zk84, zk85, zk86, zk87, zk88, zk89, zk90, zr2_0, zr2_1, zr2_2, zr2_3, zr2_4, zr2_6, zr2_7, zr2_10, zr2_11, zr2_12, zr1_0, zr1_1, zr14_0, zr14_1, zr14_2, zr14_3, zr14_4, zr14_6, zr14_7, zr14_10, zr14_11, zr14_12, zr13_0, zr25_0, zr25_1, zr25_2, zr25_3, zr25_4, zr25_6, zr25_7, zr25_10, zr25_11, zr25_12, zr13_1, zr1_2, zr37_0, zr1_3, zr39_0, zr39_1, zr39_2, zr39_5, zr39_7, zr39_8, zr1_4, zr46_1, zr46_2, zr46_3, zr46_4, zr46_0, zr1_5, zr51_2, zr51_10, zr51_0, zr51_1, zr54_1, zr54_2, zr54_3, zr1_6, zr58_1, zr58_2, zr58_3, zr58_0, zr1_7, zr62_2, zr62_3, zr62_0, zr62_1, zr1_8, zr1_9, zr1_10, zr1_15, zr68_2, zr68_3, zr68_4, zr68_5, zr68_7, zr68_8, zr68_9, zr68_12, zr68_13, zr68_14, zr68_22, zr68_23, zr68_24, zr68_26, zr68_35, zr68_36, zr68_37, zr68_38, zr68_39, zr68_40, zr68_41, zr68_42, c1, c2]
    · simp (disch := first | assumption | omega) only [wpo_bind, wpo_some, wpo_gf, wpo_gk, wpo_ld, wpo_pf, wpo_pz, wpo_sd, wpo_sr, wpo_ln, wpo_idv, wpo_irm, wpo_lrm, wpo_ldv, wpo_cpy, mlet, mnar_int, mup_same, mup_cell, mup_slot, ite_true, ite_false, true_and, and_true, eq_self, or_true, true_or, and_self, Int.reduceLT, Int.reduceLE, Int.reduceEq, Int.reduceNe, Int.reduceAdd, Int.reduceSub, Int.reduceMul, Int.reduceNeg, ne_eq, not_false_eq_true, not_true_eq_false, if_pos, if_neg, false_or, or_false, zor_inl, zor_inr, false_and, and_false, zk1, zk2, zk3, zk4, zk5, zk6, zk7, zk8, zk9, zk10, zk11, zk12, zk13, zk14, zk15, zk16, zk17, zk18, zk19, zk20, zk21, zk22, zk23, zk24, zk25, zk26, zk27, zk28, zk29, zk30, zk31, zk32, zk33, zk34, zk35, zk36, zk37, zk38, zk39, zk40, zk41, zk42, zk43, zk44, zk45, zk46, zk47, zk48, zk49, zk50, zk51, zk52, zk53, zk54, zk55, zk56, zk57, zk58, zk59, zk60, zk61, zk62, zk63, zk64, zk65, zk66, zk67, zk68, zk69, zk70, zk71, zk72, zk73, zk74, zk75, zk76, zk77, zk78, zk79, zk80, zk81, zk82, zk83, zk84, zk85, zk86, zk87, zk88, zk89, zk90, zr2_0, zr2_1, zr2_2, zr2_3, zr2_4, zr2_6, zr2_7, zr2_10, zr2_11, zr2_12, zr1_0, zr1_1, zr14_0, zr14_1, zr14_2, zr14_3, zr14_4, zr14_6, zr14_7, zr14_10, zr14_11, zr14_12, zr13_0, zr25_0, zr25_1, zr25_2, zr25_3, zr25_4, zr25_6, zr25_7, zr25_10, zr25_11, zr25_12, zr13_1, zr1_2, zr37_0, zr1_3, zr39_0, zr39_1, zr39_2, zr39_5, zr39_7, zr39_8, zr1_4, zr46_1, zr46_2, zr46_3, zr46_4, zr46_0, zr1_5, zr51_2, zr51_10, zr51_0, zr51_1, zr54_1, zr54_2, zr54_3, zr1_6, zr58_1, zr58_2, zr58_3, zr58_0, zr1_7, zr62_2, zr62_3, zr62_0, zr62_1, zr1_8, zr1_9, zr1_10, zr1_15, zr68_2, zr68_3, zr68_4, zr68_5, zr68_7, zr68_8, zr68_9, zr68_12, zr68_13, zr68_14, zr68_22, zr68_23, zr68_24, zr68_26, zr68_35, zr68_36, zr68_37, zr68_38, zr68_39, zr68_40, zr68_41, zr68_42, c1]
  obtain ⟨y, e, rfl⟩ := this
  exact e
