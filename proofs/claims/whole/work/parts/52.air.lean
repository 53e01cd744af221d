/-! THE AIR: what is kept of it, and what the developers' program answers of it -/
def zHB (σ : mS) (b : Int) : Prop := (b = 54 ∨ 90 < b ∧ (b - 91) % 4 = 0) ∧ b + 3 ≤ σ.2.2.1 ∧ σ.2.1 b = (3, 4) ∧ σ.2.1 (b + 1) = (100, 2048) ∧ σ.2.1 (b + 2) = (100, 2048) ∧ σ.2.1 (b + 3) = (100, 64) ∧ σ.1 b 1 = b + 1 ∧ σ.1 b 2 = b + 2 ∧ σ.1 b 3 = b + 3
def zcell (W : Int → Int → Int → Int) (σ : mS) (b s p : Int) : Prop := ∀ i, 0 ≤ i → i < 32 → (σ.1 (b + 1) (p * 32 + i) = -1000000 ∨ σ.1 (b + 1) (p * 32 + i) = W s p i) ∧ (σ.1 (b + 2) (p * 32 + i) = -1000000 ∨ σ.1 (b + 2) (p * 32 + i) = zpull (W s) p i)
def zHA (W : Int → Int → Int → Int) (σ : mS) (b s : Int) : Prop := zHB σ b ∧ σ.1 b 0 = s ∧ ∀ p, 0 ≤ p → p < 64 → σ.1 (b + 3) p ≤ σ.1 48 p ∧ (σ.1 (b + 3) p = σ.1 48 p → zcell W σ b s p)
def zAir (W : Int → Int → Int → Int) (σ : mS) : Prop := (∀ p, 0 ≤ p → p < 64 → 1 ≤ σ.1 48 p ∧ σ.1 48 p ≤ 100000) ∧ ∀ s, 0 ≤ s → s < 24 → σ.1 47 s = 0 ∨ zHA W σ (σ.1 47 s) s
/-- a law of the developers' program, and what it tells of six words -/
def zLaw (σ : mS) (b : Int) (d : (Int → Int) → Int) : Prop :=
  (90 < b ∧ (b - 91) % 4 = 0 ∧ b + 3 ≤ σ.2.2.1 ∧ σ.2.1 b = (4, 4) ∧ (σ.1 b 3 = 0 ∨ σ.1 b 3 = 1)) ∧ (∀ w, -50 ≤ d w ∧ d w ≤ 99) ∧ (σ.1 b 3 = 0 → ∀ w v : Int → Int, (∀ k, 0 ≤ k → k < 5 → w k = v k) → d w = d v) ∧
  ∀ σ' : mS, zB σ' → (∀ j, 0 ≤ j → j ≤ 3 → σ'.1 (b + j) = σ.1 (b + j) ∧ σ'.2.1 (b + j) = σ.2.1 (b + j)) → ∀ w : Int → Int, (∀ k, 0 ≤ k → k < 6 → σ'.1 49 k = w k ∧ -1000 ≤ w k ∧ w k ≤ 1000) → wpo (M_Law_tell b 49 50 σ') (fun q => q.1 = d w ∧ q.2.2 = σ'.2 ∧ ∀ r, r ≠ 50 → q.2.1 r = σ'.1 r)
/-- a road of the developers' program (its first cell b) holds what is kept -/
def zRoad (b : Int) (A : Int → Int) (h : Int → Int → Int) : Prop := (∀ p, 0 ≤ p → p < 64 → h (b + 1) p = A p ∧ h (b + 2) p = A (64 + p) ∧ h (b + 3) p = ztA A p) ∧
  (∀ t, 0 ≤ t → t < 8 → h (b + 4) t = A (128 + t) ∧ h (b + 5) t = A (136 + t)) ∧ h b 5 = A 184 ∧ (∀ j, 0 ≤ j → j < 4 → h (b + 6) j = A (180 + j)) ∧ h b 8 = A 186 ∧ h b 9 = A 187 ∧
  (∀ j, 0 ≤ j → j < 12 → h (b + 8) j = A (144 + 3 * j) ∧ h (b + 9) j = A (145 + 3 * j) ∧ h (b + 10) j = A (146 + 3 * j)) ∧ h b 13 = A 185
def zLaws (σ : mS) (b : Int) (A : Int → Int) (D : Int → (Int → Int) → Int) : Prop := ∀ t, 0 ≤ t → t < A 186 → zLaw σ (σ.1 (b + 7) t) (D t)
def zws (i r p g s : Int) : Int → Int := fun k => if k = 0 then i else if k = 1 then i - r else if k = 2 then p else if k = 3 then g else if k = 4 then r else s
/-- the warmth in an hour, at a place, at an inch -/
def zWd (D : Int → (Int → Int) → Int) (A : Int → Int) (s p i : Int) : Int := if A 187 < 0 then 10 else D (A 187) (zws i (A p) p (A (64 + p)) s)
def zCQ (D : Int → (Int → Int) → Int) (A : Int → Int) (σ : mS) : Prop := zB σ ∧ zWF A ∧ zRoad 2 A σ.1 ∧ zLaws σ 2 A D ∧ zAir (zWd D A) σ
/-- cells that hold references or constants -/
def zcore (r : Int) : Bool := decide (r ≤ 0) || [1, 2, 13, 14, 25, 37, 39, 46, 51, 52, 54, 58, 62, 68, 73].contains r
theorem zB_core {σ σ' : mS} (h : zB σ) (hk : ∀ r, r ≤ 90 → σ'.2.1 r = σ.2.1 r) (hc : ∀ r, zcore r = true → σ'.1 r = σ.1 r) : zB σ' := by
  obtain ⟨h1, h2, h3, h4, h5, h6, h7⟩ := h
  have cr : ∀ q ∈ zrefl, zcore q.1 = true := by decide +kernel
  refine ⟨?_, ?_, ?_, ?_, ?_, ?_, ?_⟩
  · intro n hn; rw [hk _ (by omega)]; exact h1 n hn
  · intro q hq; rw [hc _ (cr q hq)]; exact h2 q hq
  · intro i a b; rw [hc 52 (by decide)]; exact h3 i a b
  · intro n a; rw [hc 73 (by decide)]; exact h4 n a
  · rw [hk (-2) (by decide), hc (-2) (by decide)]; exact h5
  · rw [hk (-3) (by decide), hc (-3) (by decide)]; exact h6
  · intro n hn
    have e : zcore (-10 - (n : Int)) = true := by
      unfold zcore
      rw [decide_eq_true (by omega)]
      rfl
    rw [hk (-10 - (n : Int)) (by omega), hc (-10 - (n : Int)) e]
    exact h7 n hn
theorem zcore_big {r : Int} (h : 90 < r) : zcore r = false := by
  unfold zcore
  simp only [Bool.or_eq_false_iff, decide_eq_false_iff_not, List.contains_eq_mem, List.mem_cons, List.not_mem_nil, or_false]
  omega
theorem e_within (x y z : Int) (σ : mS) : M_RW_isWithin x y z σ = some (if y ≤ x ∧ x ≤ z then 1 else 0, σ) := by
  unfold M_RW_isWithin
  by_cases h1 : x < y
  · rw [if_pos h1, if_pos (Or.inl rfl), if_neg (by omega)]
  · rw [if_neg h1]
    by_cases h2 : z < x
    · rw [if_pos h2, if_pos (Or.inl rfl), if_neg (by omega)]
    · rw [if_neg h2, if_pos (Or.inr rfl), if_pos (by omega)]
theorem ite01 {c : Prop} [Decidable c] : (if c then (1 : Int) else 0) = 0 ∨ (if c then (1 : Int) else 0) = 1 := by split <;> simp
theorem ite10 {c : Prop} [Decidable c] : ((if c then (1 : Int) else 0) = 0) = ¬ c := by by_cases h : c <;> simp [h]
theorem e_isPlace (x : Int) (σ : mS) : M_RW_isPlace x σ = some (if 0 ≤ x ∧ x ≤ 63 then 1 else 0, σ) := by
  unfold M_RW_isPlace; rw [e_within]; exact if_pos ite01
theorem e_isHour (x : Int) (σ : mS) : M_RW_isHour x σ = some (if 0 ≤ x ∧ x ≤ 23 then 1 else 0, σ) := by
  unfold M_RW_isHour; rw [e_within]; exact if_pos ite01
theorem e_isTall (x : Int) (σ : mS) : M_RW_isTall x σ = some (if 1 ≤ x ∧ x ≤ 31 then 1 else 0, σ) := by
  unfold M_RW_isTall; rw [e_within]; exact if_pos ite01
theorem e_isAngle (x : Int) (σ : mS) : M_RW_isAngle x σ = some (if -500 ≤ x ∧ x ≤ 500 then 1 else 0, σ) := by
  unfold M_RW_isAngle; rw [e_within]; exact if_pos ite01
theorem zHB_ok {σ : mS} {b j i : Int} (h : zHB σ b) (h1 : 1 ≤ j) (h2 : j ≤ 3) : zokr (b + j) i = true := by
  rcases h.1 with e | e
  · subst e
    have : j = 1 ∨ j = 2 ∨ j = 3 := by omega
    rcases this with e | e | e <;> subst e <;> exact zokr_arr (by decide +kernel)
  · exact zokr_big (by omega)
theorem zHB_core {σ : mS} {b j : Int} (h : zHB σ b) (h1 : 1 ≤ j) (h2 : j ≤ 3) : zcore (b + j) = false := by
  rcases h.1 with e | e
  · subst e
    have : j = 1 ∨ j = 2 ∨ j = 3 := by omega
    rcases this with e | e | e <;> subst e <;> decide
  · exact zcore_big (by omega)
theorem e_lawInForce {σ : mS} (hB : zB σ) (h6 : σ.1 2 9 < 6) : M_Air_lawInForce 46 σ = some (if σ.1 2 9 < 0 then 0 else σ.1 9 (σ.1 2 9), σ) := by
  have : wpo (M_Air_lawInForce 46 σ) (fun q => q = (if σ.1 2 9 < 0 then 0 else σ.1 9 (σ.1 2 9), σ)) := by
    unfold M_Air_lawInForce
    by_cases c : σ.1 2 9 < 0
    · simp (disch := first | assumption | omega) only [wpo_bind, wpo_some, wpo_gf, wpo_gk, wpo_ld, wpo_pf, wpo_pz, wpo_sd, wpo_sr, wpo_ln, wpo_idv, wpo_irm, wpo_lrm, wpo_ldv, wpo_cpy, mlet, mnar_int, mup_same, mup_cell, mup_slot, ite_true, ite_false, true_and, and_true, eq_self, or_true, true_or, and_self, Int.reduceLT, Int.reduceLE, Int.reduceEq, Int.reduceNe, Int.reduceAdd, Int.reduceSub, Int.reduceMul, Int.reduceNeg, ne_eq, not_false_eq_true, not_true_eq_false, if_pos, if_neg, false_or, or_false, zor_inl, zor_inr, false_and, and_false, zk1, zk2, zk3, zk4, zk5, zk6, zk7, zk8, zk9, zk10, zk11, zk12, zk13, zk14, zk15, zk16, zk17, zk18, zk19, zk20, zk21, zk22, zk23, zk24, zk25, zk26, zk27, zk28, zk29, zk30, zk31, zk32, zk33, zk34, zk35, zk36, zk37, zk38, zk39, zk40, zk41, zk42, zk43, zk44, zk45, zk46, zk47, zk48, zk49, zk50, zk51, zk52, zk53, zk54, zk55, zk56, zk57, zk58, zk59, zk60, zk61, zk62, zk63, zk64, zk65, zk66, zk67, zk68, zk69, zk70, zk71, zk72, zk73, zk74, zk75, zk76, zk77, zk78, zk79, zk80, zk81, zk82, zk83, zk84, zk85, zk86, zk87, zk88, zk89, zk90, zr2_0, zr2_1, zr2_2, zr2_3, zr2_4, zr2_6, zr2_7, zr2_10, zr2_11, zr2_12, zr1_0, zr1_1, zr14_0, zr14_1, zr14_2, zr14_3, zr14_4, zr14_6, zr14_7, zr14_10, zr14_11, zr14_12, zr13_0, zr25_0, zr25_1, zr25_2, zr25_3, zr25_4, zr25_6, zr25_7, zr25_10, zr25_11, zr25_12, zr13_1, zr1_2, zr37_0, zr1_3, zr39_0, zr39_1, zr39_2, zr39_5, zr39_7, zr39_8, zr1_4, zr46_1, zr46_2, zr46_3, zr46_4, zr46_0, zr1_5, zr51_2, zr51_10, zr51_0, zr51_1, zr54_1, zr54_2, zr54_3, zr1_6, zr58_1, zr58_2, zr58_3, zr58_0, zr1_7, zr62_2, zr62_3, zr62_0, zr62_1, zr1_8, zr1_9, zr1_10, zr1_15, zr68_2, zr68_3, zr68_4, zr68_5, zr68_7, zr68_8, zr68_9, zr68_12, zr68_13, zr68_14, zr68_22, zr68_23, zr68_24, zr68_26, zr68_35, zr68_36, zr68_37, zr68_38, zr68_39, zr68_40, zr68_41, zr68_42, c]
    · have c0 : 0 ≤ σ.1 2 9 := by omega
      simp (disch := first | assumption | omega) only [wpo_bind, wpo_some, wpo_gf, wpo_gk, wpo_ld, wpo_pf, wpo_pz, wpo_sd, wpo_sr, wpo_ln, wpo_idv, wpo_irm, wpo_lrm, wpo_ldv, wpo_cpy, mlet, mnar_int, mup_same, mup_cell, mup_slot, ite_true, ite_false, true_and, and_true, eq_self, or_true, true_or, and_self, Int.reduceLT, Int.reduceLE, Int.reduceEq, Int.reduceNe, Int.reduceAdd, Int.reduceSub, Int.reduceMul, Int.reduceNeg, ne_eq, not_false_eq_true, not_true_eq_false, if_pos, if_neg, false_or, or_false, zor_inl, zor_inr, false_and, and_false, zk1, zk2, zk3, zk4, zk5, zk6, zk7, zk8, zk9, zk10, zk11, zk12, zk13, zk14, zk15, zk16, zk17, zk18, zk19, zk20, zk21, zk22, zk23, zk24, zk25, zk26, zk27, zk28, zk29, zk30, zk31, zk32, zk33, zk34, zk35, zk36, zk37, zk38, zk39, zk40, zk41, zk42, zk43, zk44, zk45, zk46, zk47, zk48, zk49, zk50, zk51, zk52, zk53, zk54, zk55, zk56, zk57, zk58, zk59, zk60, zk61, zk62, zk63, zk64, zk65, zk66, zk67, zk68, zk69, zk70, zk71, zk72, zk73, zk74, zk75, zk76, zk77, zk78, zk79, zk80, zk81, zk82, zk83, zk84, zk85, zk86, zk87, zk88, zk89, zk90, zr2_0, zr2_1, zr2_2, zr2_3, zr2_4, zr2_6, zr2_7, zr2_10, zr2_11, zr2_12, zr1_0, zr1_1, zr14_0, zr14_1, zr14_2, zr14_3, zr14_4, zr14_6, zr14_7, zr14_10, zr14_11, zr14_12, zr13_0, zr25_0, zr25_1, zr25_2, zr25_3, zr25_4, zr25_6, zr25_7, zr25_10, zr25_11, zr25_12, zr13_1, zr1_2, zr37_0, zr1_3, zr39_0, zr39_1, zr39_2, zr39_5, zr39_7, zr39_8, zr1_4, zr46_1, zr46_2, zr46_3, zr46_4, zr46_0, zr1_5, zr51_2, zr51_10, zr51_0, zr51_1, zr54_1, zr54_2, zr54_3, zr1_6, zr58_1, zr58_2, zr58_3, zr58_0, zr1_7, zr62_2, zr62_3, zr62_0, zr62_1, zr1_8, zr1_9, zr1_10, zr1_15, zr68_2, zr68_3, zr68_4, zr68_5, zr68_7, zr68_8, zr68_9, zr68_12, zr68_13, zr68_14, zr68_22, zr68_23, zr68_24, zr68_26, zr68_35, zr68_36, zr68_37, zr68_38, zr68_39, zr68_40, zr68_41, zr68_42, c, c0, h6]
  obtain ⟨y, e, rfl⟩ := this
  exact e
theorem e_layOut {σ : mS} {p i s : Int} (hB : zB σ) (hp0 : 0 ≤ p) (hp1 : p < 64) (hr : -1000 ≤ i - σ.1 3 p ∧ i - σ.1 3 p ≤ 1000) : M_Air_layOut 46 p i s σ = some (0, (mup (mup (mup (mup (mup (mup σ.1 49 0 i) 49 1 (i - σ.1 3 p)) 49 2 p) 49 3 (σ.1 4 p)) 49 4 (σ.1 3 p)) 49 5 s, σ.2)) := by
  have : wpo (M_Air_layOut 46 p i s σ) (fun q => q = (0, (mup (mup (mup (mup (mup (mup σ.1 49 0 i) 49 1 (i - σ.1 3 p)) 49 2 p) 49 3 (σ.1 4 p)) 49 4 (σ.1 3 p)) 49 5 s, σ.2))) := by
    unfold M_Air_layOut
    have e : w32 (i - σ.1 3 p) = i - σ.1 3 p := w32_in (by omega) (by omega)
    simp (disch := first | assumption | omega) only [wpo_bind, wpo_some, wpo_gf, wpo_gk, wpo_ld, wpo_pf, wpo_pz, wpo_sd, wpo_sr, wpo_ln, wpo_idv, wpo_irm, wpo_lrm, wpo_ldv, wpo_cpy, mlet, mnar_int, mup_same, mup_cell, mup_slot, ite_true, ite_false, true_and, and_true, eq_self, or_true, true_or, and_self, Int.reduceLT, Int.reduceLE, Int.reduceEq, Int.reduceNe, Int.reduceAdd, Int.reduceSub, Int.reduceMul, Int.reduceNeg, ne_eq, not_false_eq_true, not_true_eq_false, if_pos, if_neg, false_or, or_false, zor_inl, zor_inr, false_and, and_false, zk1, zk2, zk3, zk4, zk5, zk6, zk7, zk8, zk9, zk10, zk11, zk12, zk13, zk14, zk15, zk16, zk17, zk18, zk19, zk20, zk21, zk22, zk23, zk24, zk25, zk26, zk27, zk28, zk29, zk30, zk31, zk32, zk33, zk34, zk35, zk36, zk37, zk38, zk39, zk40, zk41, zk42, zk43, zk44, zk45, zk46, zk47, zk48, zk49, zk50, zk51, zk52, zk53, zk54, zk55, zk56, zk57, zk58, zk59, zk60, zk61, zk62, zk63, zk64, zk65, zk66, zk67, zk68, zk69, zk70, zk71, zk72, zk73, zk74, zk75, zk76, zk77, zk78, zk79, zk80, zk81, zk82, zk83, zk84, zk85, zk86, zk87, zk88, zk89, zk90, zr2_0, zr2_1, zr2_2, zr2_3, zr2_4, zr2_6, zr2_7, zr2_10, zr2_11, zr2_12, zr1_0, zr1_1, zr14_0, zr14_1, zr14_2, zr14_3, zr14_4, zr14_6, zr14_7, zr14_10, zr14_11, zr14_12, zr13_0, zr25_0, zr25_1, zr25_2, zr25_3, zr25_4, zr25_6, zr25_7, zr25_10, zr25_11, zr25_12, zr13_1, zr1_2, zr37_0, zr1_3, zr39_0, zr39_1, zr39_2, zr39_5, zr39_7, zr39_8, zr1_4, zr46_1, zr46_2, zr46_3, zr46_4, zr46_0, zr1_5, zr51_2, zr51_10, zr51_0, zr51_1, zr54_1, zr54_2, zr54_3, zr1_6, zr58_1, zr58_2, zr58_3, zr58_0, zr1_7, zr62_2, zr62_3, zr62_0, zr62_1, zr1_8, zr1_9, zr1_10, zr1_15, zr68_2, zr68_3, zr68_4, zr68_5, zr68_7, zr68_8, zr68_9, zr68_12, zr68_13, zr68_14, zr68_22, zr68_23, zr68_24, zr68_26, zr68_35, zr68_36, zr68_37, zr68_38, zr68_39, zr68_40, zr68_41, zr68_42, hp0, hp1, e]
  obtain ⟨y, e, rfl⟩ := this
  exact e
