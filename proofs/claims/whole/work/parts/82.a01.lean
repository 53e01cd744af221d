/-! CHANGES of the road alone, by what lies before accept and good -/
theorem wpo_is {α : Type} {x : Option α} {y : α} (h : wpo x (fun q => q = y)) : x = some y := by
  obtain ⟨z, e, rfl⟩ := h
  exact e
theorem loopN {β γ : Type} {f : β → Option (β ⊕ γ)} (I : Nat → β → Prop) (N : Nat) (Q : γ → Prop) (y0 : β) (hN : N < 100000) (h0 : I 0 y0)
    (hs : ∀ k y, k < N → I k y → ∃ y', f y = some (Sum.inl y') ∧ I (k + 1) y')
    (he : ∀ y, I N y → ∃ r, f y = some (Sum.inr r) ∧ Q r) : wpo (miter f mN y0) Q := by
  refine miter_mN (fun n y => ∃ k, k ≤ N ∧ n = N - k ∧ I k y) ?_ N _ hN ⟨0, Nat.zero_le _, rfl, h0⟩
  intro n y ⟨k, hk, hn, hy⟩
  by_cases c : k < N
  · obtain ⟨y', e, i⟩ := hs k y c hy
    rw [e]
    exact wpo_some.mpr ⟨N - (k + 1), by omega, k + 1, by omega, rfl, i⟩
  · have ek : k = N := by omega
    subst ek
    obtain ⟨r, e, i⟩ := he y hy
    rw [e]
    exact wpo_some.mpr i
def zPY (D : Int → (Int → Int) → Int) (A A' : Int → Int) (σ Y : mS) : Prop := zB Y ∧ Y.2 = σ.2 ∧ (∀ u, ¬ (2 ≤ u ∧ u ≤ 12) → u ≠ 48 → Y.1 u = σ.1 u) ∧ Y.1 9 = σ.1 9 ∧ zRoad 2 A' Y.1 ∧ ∀ p, 0 ≤ p → p < 64 → σ.1 48 p ≤ Y.1 48 p ∧ Y.1 48 p ≤ σ.1 48 p + 1 ∧ (Y.1 48 p = σ.1 48 p → ∀ s i, zWd D A' s p i = zWd D A s p i)
def zPZ (A' : Int → Int) (X Z : mS) : Prop := zB Z ∧ Z.2 = X.2 ∧ (∀ u, u ≠ 70 → Z.1 u = X.1 u) ∧ Z.1 70 = A'
theorem zBoth {k : Nat} {D : Int → (Int → Int) → Int} {A A' : Int → Int} {σ : mS} {v : Int} {F G : mS → Option (Int × mS)} (h : zInv k D A σ) (hk : k ≤ 1000) (hW : zWF A') (hA : ∀ j, 188 ≤ j → j < 4994 → A' j = A j) (h186 : A' 186 = A 186)
    (hF : wpo (F σ) (fun q => ∃ Y, zPY D A A' σ Y ∧ q = (v, (mup (mup Y.1 1 14 0) 58 4 0, Y.2))))
    (hG : ∀ X : mS, zB X → X.1 70 = A → (∀ r, 67 < r → r ≤ 90 → X.1 r = σ.1 r) → wpo (G X) (fun z => ∃ Z, zPZ A' X Z ∧ z = (v, (mup (mup Z.1 68 0 0) 68 1 (σ.1 68 1 + 1), Z.2)))) : wpo (F σ) (fun q => wpo (G q.2) (fun z => z.1 = q.1 ∧ ∃ D' A', zInv (k + 1) D' A' z.2)) := by
  refine wpo_mono hF ?_
  intro q ⟨Y, ⟨y1, y2, y3, y4, y5, y6⟩, hq⟩
  subst hq
  obtain ⟨gB, gX, g1, g58, gY⟩ := zAcc_dev (σ := σ) (Y := Y) y1 y2 y3
  have g2 : ((mup (mup Y.1 1 14 0) 58 4 0, Y.2) : mS).2 = σ.2 := y2
  generalize eX : ((mup (mup Y.1 1 14 0) 58 4 0, Y.2) : mS) = X at *
  have h70x : X.1 70 = A := (gX 70 (by decide) (by decide) (by decide) (by decide)).trans h.2.1.2.2.2.1
  have v68 : X.1 68 = σ.1 68 := gX 68 (by decide) (by decide) (by decide) (by decide)
  refine wpo_mono (hG X gB h70x (fun r a b => gX r (by omega) (by omega) (by omega) (by omega))) ?_
  intro z ⟨Z, ⟨z1, z2, z3, z4⟩, hz⟩
  subst hz
  obtain ⟨zb, zx, z70, z68⟩ := zAcc_ref (σ := σ) (X := X) (Y := Z) z1 z2 z3 v68
  refine ⟨rfl, D, A', zChgS h hk hW hA h186 gB g2 gX ((gY 9 (by decide) (by decide)).trans y4) g1 g58 (zRoad_frame y5 (fun r a b => gY r (by omega) (by omega))) (fun p p0 p1 => by rw [gY 48 (by decide) (by decide)]; exact y6 p p0 p1) zb z2 zx (z70.trans z4) z68⟩
theorem f_good2 {A' : Int → Int} {X Z : mS} {s v : Int} (h : zPZ A' X Z) (v68 : X.1 68 1 = s) (vk : 0 ≤ s ∧ s ≤ 100000) : M_Mo_good 68 v Z = some (v, (mup (mup Z.1 68 0 0) 68 1 (s + 1), Z.2)) := by
  have e : Z.1 68 1 = s := by rw [h.2.2.1 68 (by decide)]; exact v68
  have g := f_good (v := v) h.1 (by rw [e]; exact vk)
  rw [e] at g
  exact g
/-! GROUND -/
def zGr (A : Int → Int) (f g : Int) (n : Nat) : Int → Int := fun j => if 64 + f ≤ j ∧ j < 64 + f + (n : Int) then g else A j
def zgc (A : Int → Int) (f g : Int) : Nat → Int
  | 0 => 0
  | n + 1 => if A (64 + (f + (n : Int))) = g then zgc A f g n else zgc A f g n + 1
theorem zgc_bd (A : Int → Int) (f g : Int) : ∀ n : Nat, 0 ≤ zgc A f g n ∧ zgc A f g n ≤ (n : Int) := by
  intro n
  induction n with
  | zero => exact ⟨Int.le_refl _, Int.le_refl _⟩
  | succ n ih =>
    unfold zgc
    split <;> omega
theorem zGr_out {A : Int → Int} {f g j : Int} {n : Nat} (h : ¬ (64 + f ≤ j ∧ j < 64 + f + (n : Int))) : zGr A f g n j = A j := if_neg h
theorem zWF_gr {A : Int → Int} {f g : Int} {n : Nat} (h : zWF A) (hf : 0 ≤ f) (hn : f + (n : Int) ≤ 64) (hg : 0 ≤ g ∧ g ≤ 9) : zWF (zGr A f g n) := by
  obtain ⟨w1, w2, w3, w4, w5, w6, w7, w8, w9⟩ := h
  have lo : ∀ j, j < 64 → zGr A f g n j = A j := fun j hj => zGr_out (by omega)
  have hi : ∀ j, 128 ≤ j → zGr A f g n j = A j := fun j hj => zGr_out (by omega)
  have e184 := hi 184 (by decide)
  have e185 := hi 185 (by decide)
  refine ⟨fun j j0 j1 => ?_, by rw [e184]; exact w2, fun t t0 t1 => ?_, fun t u t0 t1 u0 u1 e => ?_, by rw [hi 180 (by decide), hi 181 (by decide), hi 182 (by decide), hi 183 (by decide)]; exact w5, by rw [e185]; exact w6, fun j j0 j1 => ?_, by rw [hi 186 (by decide)]; exact w8, by rw [hi 186 (by decide), hi 187 (by decide)]; exact w9⟩
  · rw [lo j j1]
    have := w1 j j0 j1
    unfold zGr
    split <;> omega
  · rw [e184] at t1
    rw [hi _ (by omega), hi (136 + t) (by omega)]; exact w3 t t0 t1
  · rw [e184] at t1 u1
    rw [hi _ (by omega), hi (128 + u) (by omega)] at e
    exact w4 t u t0 t1 u0 u1 e
  · rw [e185] at j1
    rw [hi _ (by omega), hi (145 + 3 * j) (by omega), hi (146 + 3 * j) (by omega), e184]
    exact w7 j j0 j1
set_option maxHeartbeats 4000000 in
theorem d_ground {D : Int → (Int → Int) → Int} {A : Int → Int} {σ : mS} {f t g : Int} {n : Nat} (hQ : zCQ D A σ) (ag : ∀ p, 0 ≤ p → p < 64 → 1 ≤ σ.1 48 p ∧ σ.1 48 p ≤ 100000) (f0 : 0 ≤ f) (t1 : t ≤ 63) (ft : f ≤ t) (hn : (n : Int) = t - f + 1) :
    wpo (M_RW_ground_22 1 t g 0 f σ) (fun q => ∃ Y, zPY D A (zGr A f g n) σ Y ∧ q = (zgc A f g n, (mup (mup Y.1 1 14 0) 58 4 0, Y.2))) := by
  obtain ⟨hB, hW, hR, hL, hA⟩ := hQ
  have e4 : ∀ j, 0 ≤ j → j < 64 → σ.1 4 j = A (64 + j) := fun j a b => (hR.1 j a b).2.1
  unfold M_RW_ground_22
  refine loopN (fun m y => y.1 = zgc A f g m ∧ y.2.1 = f + (m : Int) ∧ zB y.2.2 ∧ y.2.2.2 = σ.2 ∧ (∀ u, u ≠ 4 → u ≠ 48 → y.2.2.1 u = σ.1 u) ∧ (∀ j, y.2.2.1 4 j = if f ≤ j ∧ j < f + (m : Int) then g else σ.1 4 j) ∧ (∀ j, 0 ≤ j → j < 64 → σ.1 48 j ≤ y.2.2.1 48 j ∧ y.2.2.1 48 j ≤ σ.1 48 j + (if f ≤ j ∧ j < f + (m : Int) then 1 else 0) ∧ (y.2.2.1 48 j = σ.1 48 j → f ≤ j ∧ j < f + (m : Int) → A (64 + j) = g))) n _ _ (by omega) ⟨rfl, by show f = f + ((0 : Nat) : Int); omega, hB, rfl, fun u _ _ => rfl, fun j => by rw [if_neg (by omega)], fun j a b => ⟨Int.le_refl _, by rw [if_neg (by omega)]; show σ.1 48 j ≤ σ.1 48 j + 0; omega, fun _ x => by omega⟩⟩ ?_ ?_
  · intro m y hm ⟨y1, y2, y3, y4, y5, y6, y7⟩
    obtain ⟨l4, l5, s⟩ := y
    simp only at y1 y2 y3 y4 y5 y6 y7
    have p0 : 0 ≤ l5 := by omega
    have p1 : l5 < 64 := by omega
    have c : ¬ t < l5 := by omega
    have v4 : s.1 4 l5 = A (64 + l5) := by rw [y6, if_neg (by omega)]; exact e4 l5 p0 p1
    have v48 := y7 l5 p0 p1
    rw [if_neg (by omega)] at v48
    have a48 := ag l5 p0 p1
    have bd := zgc_bd A f g m
    have w1 : ∀ u : Int, u = l5 → w32 (u + 1) = l5 + 1 := fun u hu => by rw [w32_in (by omega) (by omega)]; omega
    have e5 : A (64 + (f + (m : Int))) = A (64 + l5) := by rw [y2]
    by_cases d : A (64 + l5) = g
    · have e : B_RW_ground_22 1 t g l4 l5 s = some (Sum.inl (l4, l5 + 1, s)) := wpo_is (by
        unfold B_RW_ground_22
        simp (maxSteps := 5000000) (disch := first | assumption | omega) only [wpo_bind, wpo_some, wpo_gf, wpo_gk, wpo_ld, wpo_pf, wpo_pz, wpo_sd, wpo_sr, wpo_ln, wpo_idv, wpo_irm, wpo_lrm, wpo_ldv, wpo_cpy, mlet, mnar_int, mup_same, mup_cell, mup_slot, ite_true, ite_false, true_and, and_true, eq_self, or_true, true_or, and_self, Int.reduceLT, Int.reduceLE, Int.reduceEq, Int.reduceNe, Int.reduceAdd, Int.reduceSub, Int.reduceMul, Int.reduceNeg, ne_eq, not_false_eq_true, not_true_eq_false, false_or, or_false, zor_inl, zor_inr, Bool.false_eq_true, false_and, and_false, zk1, zk2, zk3, zk4, zk5, zk6, zk7, zk8, zk9, zk10, zk11, zk12, zk13, zk14, zk15, zk16, zk17, zk18, zk19, zk20, zk21, zk22, zk23, zk24, zk25, zk26, zk27, zk28, zk29, zk30, zk31, zk32, zk33, zk34, zk35, zk36, zk37, zk38, zk39, zk40, zk41, zk42, zk43, zk44, zk45, zk46, zk47, zk48, zk49, zk50, zk51, zk52, zk53, zk54, zk55, zk56, zk57, zk58, zk59, zk60, zk61, zk62, zk63, zk64, zk65, zk66, zk67, zk68, zk69, zk70, zk71, zk72, zk73, zk74, zk75, zk76, zk77, zk78, zk79, zk80, zk81, zk82, zk83, zk84, zk85, zk86, zk87, zk88, zk89, zk90, zr2_0, zr2_1, zr2_2, zr2_3, zr2_4, zr2_6, zr2_7, zr2_10, zr2_11, zr2_12, zr1_0, zr1_1, zr14_0, zr14_1, zr14_2, zr14_3, zr14_4, zr14_6, zr14_7, zr14_10, zr14_11, zr14_12, zr13_0, zr25_0, zr25_1, zr25_2, zr25_3, zr25_4, zr25_6, zr25_7, zr25_10, zr25_11, zr25_12, zr13_1, zr1_2, zr37_0, zr1_3, zr39_0, zr39_1, zr39_2, zr39_5, zr39_7, zr39_8, zr1_4, zr46_1, zr46_2, zr46_3, zr46_4, zr46_0, zr1_5, zr51_2, zr51_10, zr51_0, zr51_1, zr54_1, zr54_2, zr54_3, zr1_6, zr58_1, zr58_2, zr58_3, zr58_0, zr1_7, zr62_2, zr62_3, zr62_0, zr62_1, zr1_8, zr1_9, zr1_10, zr1_15, zr68_2, zr68_3, zr68_4, zr68_5, zr68_7, zr68_8, zr68_9, zr68_12, zr68_13, zr68_14, zr68_22, zr68_23, zr68_24, zr68_26, zr68_35, zr68_36, zr68_37, zr68_38, zr68_39, zr68_40, zr68_41, zr68_42, c, p0, p1, v4, d, w1])
      refine ⟨(l4, l5 + 1, s), e, ?_, ?_, y3, y4, y5, ?_, ?_⟩
      · show l4 = zgc A f g (m + 1)
        unfold zgc
        rw [e5, if_pos d]; exact y1
      · show l5 + 1 = f + ((m + 1 : Nat) : Int)
        omega
      · intro j
        show s.1 4 j = _
        by_cases cj : j = l5
        · rw [cj, v4, if_pos (by omega)]; exact d
        · rw [y6]
          by_cases ci : f ≤ j ∧ j < f + (m : Int)
          · rw [if_pos ci, if_pos (by omega)]
          · rw [if_neg ci, if_neg (by omega)]
      · intro j j0 j1
        show σ.1 48 j ≤ s.1 48 j ∧ _ ∧ (s.1 48 j = σ.1 48 j → f ≤ j ∧ j < f + ((m + 1 : Nat) : Int) → A (64 + j) = g)
        have yj := y7 j j0 j1
        refine ⟨yj.1, ?_, fun x1 x2 => ?_⟩
        · have := yj.2.1
          show s.1 48 j ≤ _
          split at this <;> split <;> omega
        · by_cases cj : j = l5
          · rw [cj]; exact d
          · exact yj.2.2 x1 (by omega)
    · have b1 := zB_mup (r := 4) (i := l5) (v := g) y3 (zokr_arr (by decide +kernel))
      have b2 := zB_mup (r := 48) (i := l5) (v := s.1 48 l5 + 1) b1 (zokr_arr (by decide +kernel))
      have w2 : ∀ u : Int, u = l4 → w32 (u + 1) = l4 + 1 := fun u hu => by rw [w32_in (by omega) (by omega)]; omega
      have w3 : ∀ u : Int, u = s.1 48 l5 → w32 (u + 1) = s.1 48 l5 + 1 := fun u hu => by rw [w32_in (by omega) (by omega)]; omega
      have e : B_RW_ground_22 1 t g l4 l5 s = some (Sum.inl (l4 + 1, l5 + 1, (mup (mup s.1 4 l5 g) 48 l5 (s.1 48 l5 + 1), s.2))) := wpo_is (by
        unfold B_RW_ground_22 M_Air_forgetPlace
        simp (maxSteps := 5000000) (disch := first | assumption | omega) only [wpo_bind, wpo_some, wpo_gf, wpo_gk, wpo_ld, wpo_pf, wpo_pz, wpo_sd, wpo_sr, wpo_ln, wpo_idv, wpo_irm, wpo_lrm, wpo_ldv, wpo_cpy, mlet, mnar_int, mup_same, mup_cell, mup_slot, ite_true, ite_false, true_and, and_true, eq_self, or_true, true_or, and_self, Int.reduceLT, Int.reduceLE, Int.reduceEq, Int.reduceNe, Int.reduceAdd, Int.reduceSub, Int.reduceMul, Int.reduceNeg, ne_eq, not_false_eq_true, not_true_eq_false, false_or, or_false, zor_inl, zor_inr, Bool.false_eq_true, false_and, and_false, zk1, zk2, zk3, zk4, zk5, zk6, zk7, zk8, zk9, zk10, zk11, zk12, zk13, zk14, zk15, zk16, zk17, zk18, zk19, zk20, zk21, zk22, zk23, zk24, zk25, zk26, zk27, zk28, zk29, zk30, zk31, zk32, zk33, zk34, zk35, zk36, zk37, zk38, zk39, zk40, zk41, zk42, zk43, zk44, zk45, zk46, zk47, zk48, zk49, zk50, zk51, zk52, zk53, zk54, zk55, zk56, zk57, zk58, zk59, zk60, zk61, zk62, zk63, zk64, zk65, zk66, zk67, zk68, zk69, zk70, zk71, zk72, zk73, zk74, zk75, zk76, zk77, zk78, zk79, zk80, zk81, zk82, zk83, zk84, zk85, zk86, zk87, zk88, zk89, zk90, zr2_0, zr2_1, zr2_2, zr2_3, zr2_4, zr2_6, zr2_7, zr2_10, zr2_11, zr2_12, zr1_0, zr1_1, zr14_0, zr14_1, zr14_2, zr14_3, zr14_4, zr14_6, zr14_7, zr14_10, zr14_11, zr14_12, zr13_0, zr25_0, zr25_1, zr25_2, zr25_3, zr25_4, zr25_6, zr25_7, zr25_10, zr25_11, zr25_12, zr13_1, zr1_2, zr37_0, zr1_3, zr39_0, zr39_1, zr39_2, zr39_5, zr39_7, zr39_8, zr1_4, zr46_1, zr46_2, zr46_3, zr46_4, zr46_0, zr1_5, zr51_2, zr51_10, zr51_0, zr51_1, zr54_1, zr54_2, zr54_3, zr1_6, zr58_1, zr58_2, zr58_3, zr58_0, zr1_7, zr62_2, zr62_3, zr62_0, zr62_1, zr1_8, zr1_9, zr1_10, zr1_15, zr68_2, zr68_3, zr68_4, zr68_5, zr68_7, zr68_8, zr68_9, zr68_12, zr68_13, zr68_14, zr68_22, zr68_23, zr68_24, zr68_26, zr68_35, zr68_36, zr68_37, zr68_38, zr68_39, zr68_40, zr68_41, zr68_42, c, p0, p1, v4, d, w1, w2, w3])
      refine ⟨(l4 + 1, l5 + 1, (mup (mup s.1 4 l5 g) 48 l5 (s.1 48 l5 + 1), s.2)), e, ?_, ?_, b2, y4, ?_, ?_, ?_⟩
      · show l4 + 1 = zgc A f g (m + 1)
        unfold zgc
        rw [e5, if_neg d, y1]
      · show l5 + 1 = f + ((m + 1 : Nat) : Int)
        omega
      · intro u a b
        show mup (mup s.1 4 l5 g) 48 l5 (s.1 48 l5 + 1) u = _
        rw [mup_fun b, mup_fun a]; exact y5 u a b
      · intro j
        show mup (mup s.1 4 l5 g) 48 l5 (s.1 48 l5 + 1) 4 j = _
        rw [mup_cell (by decide), mup_if]
        by_cases cj : j = l5
        · rw [if_pos cj, if_pos (by omega)]
        · rw [if_neg cj, y6]
          by_cases ci : f ≤ j ∧ j < f + (m : Int)
          · rw [if_pos ci, if_pos (by omega)]
          · rw [if_neg ci, if_neg (by omega)]
      · intro j j0 j1
        show σ.1 48 j ≤ mup (mup s.1 4 l5 g) 48 l5 (s.1 48 l5 + 1) 48 j ∧ mup (mup s.1 4 l5 g) 48 l5 (s.1 48 l5 + 1) 48 j ≤ _ ∧ (mup (mup s.1 4 l5 g) 48 l5 (s.1 48 l5 + 1) 48 j = σ.1 48 j → f ≤ j ∧ j < f + ((m + 1 : Nat) : Int) → A (64 + j) = g)
        rw [mup_if, mup_cell (by decide)]
        have yj := y7 j j0 j1
        by_cases cj : j = l5
        · rw [if_pos cj, if_pos (by omega), cj]
          exact ⟨by omega, by omega, fun x => by omega⟩
        · rw [if_neg cj]
          refine ⟨yj.1, ?_, fun x1 x2 => yj.2.2 x1 (by omega)⟩
          have := yj.2.1
          split at this <;> split <;> omega
  · intro y ⟨y1, y2, y3, y4, y5, y6, y7⟩
    obtain ⟨l4, l5, s⟩ := y
    simp only at y1 y2 y3 y4 y5 y6 y7
    have c : t < l5 := by omega
    have ac := e_accept (v := l4) y3
    have e : B_RW_ground_22 1 t g l4 l5 s = some (Sum.inr (l4, (mup (mup s.1 1 14 0) 58 4 0, s.2))) := wpo_is (by
      unfold B_RW_ground_22
      simp (maxSteps := 5000000) (disch := first | assumption | omega) only [wpo_bind, wpo_some, wpo_gf, wpo_gk, wpo_ld, wpo_pf, wpo_pz, wpo_sd, wpo_sr, wpo_ln, wpo_idv, wpo_irm, wpo_lrm, wpo_ldv, wpo_cpy, mlet, mnar_int, mup_same, mup_cell, mup_slot, ite_true, ite_false, true_and, and_true, eq_self, or_true, true_or, and_self, Int.reduceLT, Int.reduceLE, Int.reduceEq, Int.reduceNe, Int.reduceAdd, Int.reduceSub, Int.reduceMul, Int.reduceNeg, ne_eq, not_false_eq_true, not_true_eq_false, false_or, or_false, zor_inl, zor_inr, Bool.false_eq_true, false_and, and_false, zk1, zk2, zk3, zk4, zk5, zk6, zk7, zk8, zk9, zk10, zk11, zk12, zk13, zk14, zk15, zk16, zk17, zk18, zk19, zk20, zk21, zk22, zk23, zk24, zk25, zk26, zk27, zk28, zk29, zk30, zk31, zk32, zk33, zk34, zk35, zk36, zk37, zk38, zk39, zk40, zk41, zk42, zk43, zk44, zk45, zk46, zk47, zk48, zk49, zk50, zk51, zk52, zk53, zk54, zk55, zk56, zk57, zk58, zk59, zk60, zk61, zk62, zk63, zk64, zk65, zk66, zk67, zk68, zk69, zk70, zk71, zk72, zk73, zk74, zk75, zk76, zk77, zk78, zk79, zk80, zk81, zk82, zk83, zk84, zk85, zk86, zk87, zk88, zk89, zk90, zr2_0, zr2_1, zr2_2, zr2_3, zr2_4, zr2_6, zr2_7, zr2_10, zr2_11, zr2_12, zr1_0, zr1_1, zr14_0, zr14_1, zr14_2, zr14_3, zr14_4, zr14_6, zr14_7, zr14_10, zr14_11, zr14_12, zr13_0, zr25_0, zr25_1, zr25_2, zr25_3, zr25_4, zr25_6, zr25_7, zr25_10, zr25_11, zr25_12, zr13_1, zr1_2, zr37_0, zr1_3, zr39_0, zr39_1, zr39_2, zr39_5, zr39_7, zr39_8, zr1_4, zr46_1, zr46_2, zr46_3, zr46_4, zr46_0, zr1_5, zr51_2, zr51_10, zr51_0, zr51_1, zr54_1, zr54_2, zr54_3, zr1_6, zr58_1, zr58_2, zr58_3, zr58_0, zr1_7, zr62_2, zr62_3, zr62_0, zr62_1, zr1_8, zr1_9, zr1_10, zr1_15, zr68_2, zr68_3, zr68_4, zr68_5, zr68_7, zr68_8, zr68_9, zr68_12, zr68_13, zr68_14, zr68_22, zr68_23, zr68_24, zr68_26, zr68_35, zr68_36, zr68_37, zr68_38, zr68_39, zr68_40, zr68_41, zr68_42, c, ac])
    refine ⟨_, e, s, ⟨y3, y4, fun u a b => y5 u (by omega) b, y5 9 (by decide) (by decide), ?_, ?_⟩, by rw [y1]⟩
    · obtain ⟨o1, o2, o3, o4, o5, o6, o7, o8⟩ := hR
      have hi : ∀ j, 128 ≤ j → zGr A f g n j = A j := fun j hj => zGr_out (by omega)
      have fs : ∀ u, u ≠ 4 ∧ u ≠ 48 → s.1 u = σ.1 u := fun u x => y5 u x.1 x.2
      have x2 : s.1 2 = σ.1 2 := fs 2 (by decide)
      refine ⟨fun j j0 j1 => ?_, fun u u0 u1 => ?_, by rw [x2, hi 184 (by decide)]; exact o3, fun j j0 j1 => ?_, by rw [x2, hi 186 (by decide)]; exact o5, by rw [x2, hi 187 (by decide)]; exact o6, fun j j0 j1 => ?_, by rw [x2, hi 185 (by decide)]; exact o8⟩
      · show s.1 3 j = _ ∧ s.1 4 j = _ ∧ s.1 5 j = _
        have oj := o1 j j0 j1
        rw [fs 3 (by decide), fs 5 (by decide), zGr_out (j := j) (by omega), ztA_cg (hi 184 (by decide)) (fun u u0 u1 => hi _ (by omega))]
        refine ⟨oj.1, ?_, oj.2.2⟩
        rw [y6, e4 j j0 j1]
        unfold zGr
        by_cases cj : f ≤ j ∧ j < f + (n : Int)
        · rw [if_pos cj, if_pos (by omega)]
        · rw [if_neg cj, if_neg (by omega)]
      · show s.1 6 u = _ ∧ s.1 7 u = _
        rw [fs 6 (by decide), fs 7 (by decide), hi _ (by omega), hi (136 + u) (by omega)]
        exact o2 u u0 u1
      · show s.1 8 j = _
        rw [fs 8 (by decide), hi _ (by omega)]
        exact o4 j j0 j1
      · show s.1 10 j = _ ∧ s.1 11 j = _ ∧ s.1 12 j = _
        rw [fs 10 (by decide), fs 11 (by decide), fs 12 (by decide), hi _ (by omega), hi (145 + 3 * j) (by omega), hi (146 + 3 * j) (by omega)]
        exact o7 j j0 j1
    · intro p p0 p1
      have yj := y7 p p0 p1
      refine ⟨yj.1, by have := yj.2.1; split at this <;> omega, fun x s' i => ?_⟩
      unfold zWd
      rw [zGr_out (j := 187) (by omega), zGr_out (j := p) (by omega)]
      have : zGr A f g n (64 + p) = A (64 + p) := by
        unfold zGr
        by_cases cj : 64 + f ≤ 64 + p ∧ 64 + p < 64 + f + (n : Int)
        · rw [if_pos cj]; exact (yj.2.2 x (by omega)).symm
        · rw [if_neg cj]
      rw [this]
set_option maxHeartbeats 4000000 in
theorem r_ground {A : Int → Int} {X : mS} {f t g vv : Int} {n : Nat} (hB : zB X) (h70 : X.1 70 = A) (v68 : X.1 68 1 = vv) (vk : 0 ≤ vv ∧ vv ≤ 100000) (f0 : 0 ≤ f) (t1 : t ≤ 63) (ft : f ≤ t) (hn : (n : Int) = t - f + 1) :
    wpo (M_Mo_ground_21 68 t g 0 f X) (fun z => ∃ Z, zPZ (zGr A f g n) X Z ∧ z = (zgc A f g n, (mup (mup Z.1 68 0 0) 68 1 (vv + 1), Z.2))) := by
  unfold M_Mo_ground_21
  refine loopN (fun m y => y.1 = zgc A f g m ∧ y.2.1 = f + (m : Int) ∧ zPZ (zGr A f g m) X y.2.2) n _ _ (by omega) ⟨rfl, by show f = f + ((0 : Nat) : Int); omega, hB, rfl, fun u _ => rfl, by rw [h70]; funext j; exact (zGr_out (by omega)).symm⟩ ?_ ?_
  · intro m y hm ⟨y1, y2, z1, z2, z3, z4⟩
    obtain ⟨l4, l5, s⟩ := y
    simp only at y1 y2 z1 z2 z3 z4
    have p0 : 0 ≤ l5 := by omega
    have p1 : l5 < 64 := by omega
    have c : ¬ t < l5 := by omega
    have v4 : s.1 70 (64 + l5) = A (64 + l5) := by rw [z4]; exact zGr_out (by omega)
    have bd := zgc_bd A f g m
    have b1 := zB_mup (r := 70) (i := 64 + l5) (v := g) z1 (zokr_arr (by decide +kernel))
    have w0 : ∀ u : Int, u = l5 → w32 (64 + u) = 64 + l5 := fun u hu => by rw [w32_in (by omega) (by omega)]; omega
    have w1 : ∀ u : Int, u = l5 → w32 (u + 1) = l5 + 1 := fun u hu => by rw [w32_in (by omega) (by omega)]; omega
    have e5 : A (64 + (f + (m : Int))) = A (64 + l5) := by rw [y2]
    have c1 : 0 ≤ 64 + l5 := by omega
    have c2 : 64 + l5 < 4994 := by omega
    have res : zPZ (zGr A f g (m + 1)) X (mup s.1 70 (64 + l5) g, s.2) := by
      refine ⟨b1, z2, fun u hu => ?_, ?_⟩
      · show mup s.1 70 (64 + l5) g u = _
        rw [mup_fun hu]; exact z3 u hu
      · funext j
        show mup s.1 70 (64 + l5) g 70 j = _
        rw [mup_if, z4]
        unfold zGr
        by_cases cj : j = 64 + l5
        · rw [if_pos cj, if_pos (by omega)]
        · rw [if_neg cj]
          by_cases ci : 64 + f ≤ j ∧ j < 64 + f + (m : Int)
          · rw [if_pos ci, if_pos (by omega)]
          · rw [if_neg ci, if_neg (by omega)]
    have ey : l5 + 1 = f + ((m + 1 : Nat) : Int) := by omega
    by_cases d : A (64 + l5) = g
    · have w2 : ∀ u : Int, u = l4 → w32 (u + 0) = l4 := fun u hu => by rw [w32_in (by omega) (by omega)]; omega
      have e : B_Mo_ground_21 68 t g l4 l5 s = some (Sum.inl (l4, l5 + 1, (mup s.1 70 (64 + l5) g, s.2))) := wpo_is (by
        unfold B_Mo_ground_21 M_Mo_ground_36
        simp (maxSteps := 5000000) (disch := first | assumption | omega) only [wpo_bind, wpo_some, wpo_gf, wpo_gk, wpo_ld, wpo_pf, wpo_pz, wpo_sd, wpo_sr, wpo_ln, wpo_idv, wpo_irm, wpo_lrm, wpo_ldv, wpo_cpy, mlet, mnar_int, mup_same, mup_cell, mup_slot, ite_true, ite_false, true_and, and_true, eq_self, or_true, true_or, and_self, Int.reduceLT, Int.reduceLE, Int.reduceEq, Int.reduceNe, Int.reduceAdd, Int.reduceSub, Int.reduceMul, Int.reduceNeg, ne_eq, not_false_eq_true, not_true_eq_false, false_or, or_false, zor_inl, zor_inr, Bool.false_eq_true, false_and, and_false, zk1, zk2, zk3, zk4, zk5, zk6, zk7, zk8, zk9, zk10, zk11, zk12, zk13, zk14, zk15, zk16, zk17, zk18, zk19, zk20, zk21, zk22, zk23, zk24, zk25, zk26, zk27, zk28, zk29, zk30, zk31, zk32, zk33, zk34, zk35, zk36, zk37, zk38, zk39, zk40, zk41, zk42, zk43, zk44, zk45, zk46, zk47, zk48, zk49, zk50, zk51, zk52, zk53, zk54, zk55, zk56, zk57, zk58, zk59, zk60, zk61, zk62, zk63, zk64, zk65, zk66, zk67, zk68, zk69, zk70, zk71, zk72, zk73, zk74, zk75, zk76, zk77, zk78, zk79, zk80, zk81, zk82, zk83, zk84, zk85, zk86, zk87, zk88, zk89, zk90, zr2_0, zr2_1, zr2_2, zr2_3, zr2_4, zr2_6, zr2_7, zr2_10, zr2_11, zr2_12, zr1_0, zr1_1, zr14_0, zr14_1, zr14_2, zr14_3, zr14_4, zr14_6, zr14_7, zr14_10, zr14_11, zr14_12, zr13_0, zr25_0, zr25_1, zr25_2, zr25_3, zr25_4, zr25_6, zr25_7, zr25_10, zr25_11, zr25_12, zr13_1, zr1_2, zr37_0, zr1_3, zr39_0, zr39_1, zr39_2, zr39_5, zr39_7, zr39_8, zr1_4, zr46_1, zr46_2, zr46_3, zr46_4, zr46_0, zr1_5, zr51_2, zr51_10, zr51_0, zr51_1, zr54_1, zr54_2, zr54_3, zr1_6, zr58_1, zr58_2, zr58_3, zr58_0, zr1_7, zr62_2, zr62_3, zr62_0, zr62_1, zr1_8, zr1_9, zr1_10, zr1_15, zr68_2, zr68_3, zr68_4, zr68_5, zr68_7, zr68_8, zr68_9, zr68_12, zr68_13, zr68_14, zr68_22, zr68_23, zr68_24, zr68_26, zr68_35, zr68_36, zr68_37, zr68_38, zr68_39, zr68_40, zr68_41, zr68_42, c, w0, c1, c2, v4, d, w1, w2])
      refine ⟨_, e, ?_, ey, res⟩
      show l4 = zgc A f g (m + 1)
      unfold zgc
      rw [e5, if_pos d]; exact y1
    · have w2 : ∀ u : Int, u = l4 → w32 (u + 1) = l4 + 1 := fun u hu => by rw [w32_in (by omega) (by omega)]; omega
      have e : B_Mo_ground_21 68 t g l4 l5 s = some (Sum.inl (l4 + 1, l5 + 1, (mup s.1 70 (64 + l5) g, s.2))) := wpo_is (by
        unfold B_Mo_ground_21 M_Mo_ground_36
        simp (maxSteps := 5000000) (disch := first | assumption | omega) only [wpo_bind, wpo_some, wpo_gf, wpo_gk, wpo_ld, wpo_pf, wpo_pz, wpo_sd, wpo_sr, wpo_ln, wpo_idv, wpo_irm, wpo_lrm, wpo_ldv, wpo_cpy, mlet, mnar_int, mup_same, mup_cell, mup_slot, ite_true, ite_false, true_and, and_true, eq_self, or_true, true_or, and_self, Int.reduceLT, Int.reduceLE, Int.reduceEq, Int.reduceNe, Int.reduceAdd, Int.reduceSub, Int.reduceMul, Int.reduceNeg, ne_eq, not_false_eq_true, not_true_eq_false, false_or, or_false, zor_inl, zor_inr, Bool.false_eq_true, false_and, and_false, zk1, zk2, zk3, zk4, zk5, zk6, zk7, zk8, zk9, zk10, zk11, zk12, zk13, zk14, zk15, zk16, zk17, zk18, zk19, zk20, zk21, zk22, zk23, zk24, zk25, zk26, zk27, zk28, zk29, zk30, zk31, zk32, zk33, zk34, zk35, zk36, zk37, zk38, zk39, zk40, zk41, zk42, zk43, zk44, zk45, zk46, zk47, zk48, zk49, zk50, zk51, zk52, zk53, zk54, zk55, zk56, zk57, zk58, zk59, zk60, zk61, zk62, zk63, zk64, zk65, zk66, zk67, zk68, zk69, zk70, zk71, zk72, zk73, zk74, zk75, zk76, zk77, zk78, zk79, zk80, zk81, zk82, zk83, zk84, zk85, zk86, zk87, zk88, zk89, zk90, zr2_0, zr2_1, zr2_2, zr2_3, zr2_4, zr2_6, zr2_7, zr2_10, zr2_11, zr2_12, zr1_0, zr1_1, zr14_0, zr14_1, zr14_2, zr14_3, zr14_4, zr14_6, zr14_7, zr14_10, zr14_11, zr14_12, zr13_0, zr25_0, zr25_1, zr25_2, zr25_3, zr25_4, zr25_6, zr25_7, zr25_10, zr25_11, zr25_12, zr13_1, zr1_2, zr37_0, zr1_3, zr39_0, zr39_1, zr39_2, zr39_5, zr39_7, zr39_8, zr1_4, zr46_1, zr46_2, zr46_3, zr46_4, zr46_0, zr1_5, zr51_2, zr51_10, zr51_0, zr51_1, zr54_1, zr54_2, zr54_3, zr1_6, zr58_1, zr58_2, zr58_3, zr58_0, zr1_7, zr62_2, zr62_3, zr62_0, zr62_1, zr1_8, zr1_9, zr1_10, zr1_15, zr68_2, zr68_3, zr68_4, zr68_5, zr68_7, zr68_8, zr68_9, zr68_12, zr68_13, zr68_14, zr68_22, zr68_23, zr68_24, zr68_26, zr68_35, zr68_36, zr68_37, zr68_38, zr68_39, zr68_40, zr68_41, zr68_42, c, w0, c1, c2, v4, d, w1, w2])
      refine ⟨_, e, ?_, ey, res⟩
      show l4 + 1 = zgc A f g (m + 1)
      unfold zgc
      rw [e5, if_neg d, y1]
  · intro y ⟨y1, y2, hz⟩
    obtain ⟨l4, l5, s⟩ := y
    simp only at y1 y2 hz
    have hBs := hz.1
    have c : t < l5 := by omega
    have gd := f_good2 (v := l4) hz v68 vk
    have e : B_Mo_ground_21 68 t g l4 l5 s = some (Sum.inr (l4, (mup (mup s.1 68 0 0) 68 1 (vv + 1), s.2))) := wpo_is (by
      unfold B_Mo_ground_21
      simp (maxSteps := 5000000) (disch := first | assumption | omega) only [wpo_bind, wpo_some, wpo_gf, wpo_gk, wpo_ld, wpo_pf, wpo_pz, wpo_sd, wpo_sr, wpo_ln, wpo_idv, wpo_irm, wpo_lrm, wpo_ldv, wpo_cpy, mlet, mnar_int, mup_same, mup_cell, mup_slot, ite_true, ite_false, true_and, and_true, eq_self, or_true, true_or, and_self, Int.reduceLT, Int.reduceLE, Int.reduceEq, Int.reduceNe, Int.reduceAdd, Int.reduceSub, Int.reduceMul, Int.reduceNeg, ne_eq, not_false_eq_true, not_true_eq_false, false_or, or_false, zor_inl, zor_inr, Bool.false_eq_true, false_and, and_false, zk1, zk2, zk3, zk4, zk5, zk6, zk7, zk8, zk9, zk10, zk11, zk12, zk13, zk14, zk15, zk16, zk17, zk18, zk19, zk20, zk21, zk22, zk23, zk24, zk25, zk26, zk27, zk28, zk29, zk30, zk31, zk32, zk33, zk34, zk35, zk36, zk37, zk38, zk39, zk40, zk41, zk42, zk43, zk44, zk45, zk46, zk47, zk48, zk49, zk50, zk51, zk52, zk53, zk54, zk55, zk56, zk57, zk58, zk59, zk60, zk61, zk62, zk63, zk64, zk65, zk66, zk67, zk68, zk69, zk70, zk71, zk72, zk73, zk74, zk75, zk76, zk77, zk78, zk79, zk80, zk81, zk82, zk83, zk84, zk85, zk86, zk87, zk88, zk89, zk90, zr2_0, zr2_1, zr2_2, zr2_3, zr2_4, zr2_6, zr2_7, zr2_10, zr2_11, zr2_12, zr1_0, zr1_1, zr14_0, zr14_1, zr14_2, zr14_3, zr14_4, zr14_6, zr14_7, zr14_10, zr14_11, zr14_12, zr13_0, zr25_0, zr25_1, zr25_2, zr25_3, zr25_4, zr25_6, zr25_7, zr25_10, zr25_11, zr25_12, zr13_1, zr1_2, zr37_0, zr1_3, zr39_0, zr39_1, zr39_2, zr39_5, zr39_7, zr39_8, zr1_4, zr46_1, zr46_2, zr46_3, zr46_4, zr46_0, zr1_5, zr51_2, zr51_10, zr51_0, zr51_1, zr54_1, zr54_2, zr54_3, zr1_6, zr58_1, zr58_2, zr58_3, zr58_0, zr1_7, zr62_2, zr62_3, zr62_0, zr62_1, zr1_8, zr1_9, zr1_10, zr1_15, zr68_2, zr68_3, zr68_4, zr68_5, zr68_7, zr68_8, zr68_9, zr68_12, zr68_13, zr68_14, zr68_22, zr68_23, zr68_24, zr68_26, zr68_35, zr68_36, zr68_37, zr68_38, zr68_39, zr68_40, zr68_41, zr68_42, c, gd])
    exact ⟨_, e, s, hz, by rw [y1]⟩
set_option maxHeartbeats 4000000 in
theorem s_ground (k : Nat) (hk : k ≤ 1000) (f t g : Int) : zStp k (M_RW_ground 1 f t g) (M_Mo_ground 68 f t g) := by
  intro D A σ hI
  have hB := hI.1.1.1
  have n10 : ¬ (1 : Int) = 0 := by decide
  by_cases c : (0 ≤ f ∧ f ≤ t ∧ t ≤ 63) ∧ 0 ≤ g ∧ g ≤ 9
  · obtain ⟨⟨f0, ft, t1⟩, cg⟩ := c
    have cf : 0 ≤ f ∧ f ≤ 63 := by omega
    have ct : 0 ≤ t ∧ t ≤ 63 := by omega
    have ct' : f ≤ t ∧ t ≤ 63 := by omega
    have cn : ¬ t < f := by omega
    obtain ⟨n, hn⟩ : ∃ n : Nat, (n : Int) = t - f + 1 := ⟨(t - f + 1).toNat, by omega⟩
    have hR := hI.2.2.2.1.2.2.2.2.2.2.2.2.1
    refine zBoth (A' := zGr A f g n) (v := zgc A f g n) hI hk (zWF_gr hI.1.1.2.1 f0 (by omega) cg) (fun j a b => zGr_out (by omega)) (zGr_out (by omega)) ?_ (fun X xB x70 xf => ?_)
    · have key := d_ground (g := g) hI.1.1 (fun p p0 p1 => hI.1.1.2.2.2.2.1 p p0 p1) f0 t1 ft hn
      generalize (fun q => ∃ Y, zPY D A (zGr A f g n) σ Y ∧ q = (zgc A f g n, (mup (mup Y.1 1 14 0) 58 4 0, Y.2))) = Q at *
      unfold M_RW_ground
      simp (maxSteps := 5000000) (disch := first | assumption | omega) only [wpo_bind, wpo_some, wpo_gf, wpo_gk, wpo_ld, wpo_pf, wpo_pz, wpo_sd, wpo_sr, wpo_ln, wpo_idv, wpo_irm, wpo_lrm, wpo_ldv, wpo_cpy, mlet, mnar_int, mup_same, mup_cell, mup_slot, ite_true, ite_false, true_and, and_true, eq_self, or_true, true_or, and_self, Int.reduceLT, Int.reduceLE, Int.reduceEq, Int.reduceNe, Int.reduceAdd, Int.reduceSub, Int.reduceMul, Int.reduceNeg, ne_eq, not_false_eq_true, not_true_eq_false, false_or, or_false, zor_inl, zor_inr, Bool.false_eq_true, false_and, and_false, zk1, zk2, zk3, zk4, zk5, zk6, zk7, zk8, zk9, zk10, zk11, zk12, zk13, zk14, zk15, zk16, zk17, zk18, zk19, zk20, zk21, zk22, zk23, zk24, zk25, zk26, zk27, zk28, zk29, zk30, zk31, zk32, zk33, zk34, zk35, zk36, zk37, zk38, zk39, zk40, zk41, zk42, zk43, zk44, zk45, zk46, zk47, zk48, zk49, zk50, zk51, zk52, zk53, zk54, zk55, zk56, zk57, zk58, zk59, zk60, zk61, zk62, zk63, zk64, zk65, zk66, zk67, zk68, zk69, zk70, zk71, zk72, zk73, zk74, zk75, zk76, zk77, zk78, zk79, zk80, zk81, zk82, zk83, zk84, zk85, zk86, zk87, zk88, zk89, zk90, zr2_0, zr2_1, zr2_2, zr2_3, zr2_4, zr2_6, zr2_7, zr2_10, zr2_11, zr2_12, zr1_0, zr1_1, zr14_0, zr14_1, zr14_2, zr14_3, zr14_4, zr14_6, zr14_7, zr14_10, zr14_11, zr14_12, zr13_0, zr25_0, zr25_1, zr25_2, zr25_3, zr25_4, zr25_6, zr25_7, zr25_10, zr25_11, zr25_12, zr13_1, zr1_2, zr37_0, zr1_3, zr39_0, zr39_1, zr39_2, zr39_5, zr39_7, zr39_8, zr1_4, zr46_1, zr46_2, zr46_3, zr46_4, zr46_0, zr1_5, zr51_2, zr51_10, zr51_0, zr51_1, zr54_1, zr54_2, zr54_3, zr1_6, zr58_1, zr58_2, zr58_3, zr58_0, zr1_7, zr62_2, zr62_3, zr62_0, zr62_1, zr1_8, zr1_9, zr1_10, zr1_15, zr68_2, zr68_3, zr68_4, zr68_5, zr68_7, zr68_8, zr68_9, zr68_12, zr68_13, zr68_14, zr68_22, zr68_23, zr68_24, zr68_26, zr68_35, zr68_36, zr68_37, zr68_38, zr68_39, zr68_40, zr68_41, zr68_42, e_isPlace, e_within, cf, ct, cn, cg, n10]
      exact key
    · have key := r_ground (g := g) xB x70 (congrFun (xf 68 (by decide) (by decide)) 1) hI.2.1.2.2.2.2.2.1 f0 t1 ft hn
      generalize (fun z => ∃ Z, zPZ (zGr A f g n) X Z ∧ z = (zgc A f g n, (mup (mup Z.1 68 0 0) 68 1 (σ.1 68 1 + 1), Z.2))) = Q at *
      unfold M_Mo_ground
      simp (maxSteps := 5000000) (disch := first | assumption | omega) only [wpo_bind, wpo_some, wpo_gf, wpo_gk, wpo_ld, wpo_pf, wpo_pz, wpo_sd, wpo_sr, wpo_ln, wpo_idv, wpo_irm, wpo_lrm, wpo_ldv, wpo_cpy, mlet, mnar_int, mup_same, mup_cell, mup_slot, ite_true, ite_false, true_and, and_true, eq_self, or_true, true_or, and_self, Int.reduceLT, Int.reduceLE, Int.reduceEq, Int.reduceNe, Int.reduceAdd, Int.reduceSub, Int.reduceMul, Int.reduceNeg, ne_eq, not_false_eq_true, not_true_eq_false, false_or, or_false, zor_inl, zor_inr, Bool.false_eq_true, false_and, and_false, zk1, zk2, zk3, zk4, zk5, zk6, zk7, zk8, zk9, zk10, zk11, zk12, zk13, zk14, zk15, zk16, zk17, zk18, zk19, zk20, zk21, zk22, zk23, zk24, zk25, zk26, zk27, zk28, zk29, zk30, zk31, zk32, zk33, zk34, zk35, zk36, zk37, zk38, zk39, zk40, zk41, zk42, zk43, zk44, zk45, zk46, zk47, zk48, zk49, zk50, zk51, zk52, zk53, zk54, zk55, zk56, zk57, zk58, zk59, zk60, zk61, zk62, zk63, zk64, zk65, zk66, zk67, zk68, zk69, zk70, zk71, zk72, zk73, zk74, zk75, zk76, zk77, zk78, zk79, zk80, zk81, zk82, zk83, zk84, zk85, zk86, zk87, zk88, zk89, zk90, zr2_0, zr2_1, zr2_2, zr2_3, zr2_4, zr2_6, zr2_7, zr2_10, zr2_11, zr2_12, zr1_0, zr1_1, zr14_0, zr14_1, zr14_2, zr14_3, zr14_4, zr14_6, zr14_7, zr14_10, zr14_11, zr14_12, zr13_0, zr25_0, zr25_1, zr25_2, zr25_3, zr25_4, zr25_6, zr25_7, zr25_10, zr25_11, zr25_12, zr13_1, zr1_2, zr37_0, zr1_3, zr39_0, zr39_1, zr39_2, zr39_5, zr39_7, zr39_8, zr1_4, zr46_1, zr46_2, zr46_3, zr46_4, zr46_0, zr1_5, zr51_2, zr51_10, zr51_0, zr51_1, zr54_1, zr54_2, zr54_3, zr1_6, zr58_1, zr58_2, zr58_3, zr58_0, zr1_7, zr62_2, zr62_3, zr62_0, zr62_1, zr1_8, zr1_9, zr1_10, zr1_15, zr68_2, zr68_3, zr68_4, zr68_5, zr68_7, zr68_8, zr68_9, zr68_12, zr68_13, zr68_14, zr68_22, zr68_23, zr68_24, zr68_26, zr68_35, zr68_36, zr68_37, zr68_38, zr68_39, zr68_40, zr68_41, zr68_42, f_isPlace, e_lies, cf, ct', cg, n10]
      exact key
  · refine zRefu (by' := -1) (m := 1) hI hk (by decide) (by decide) (fun rf => ?_) (fun σ1 hB1 _ rf => ?_)
    · unfold M_RW_ground
      by_cases c1 : 0 ≤ f ∧ f ≤ 63
      · by_cases c2 : 0 ≤ t ∧ t ≤ 63
        · by_cases c3 : t < f
          · simp (maxSteps := 5000000) (disch := first | assumption | omega) only [wpo_bind, wpo_some, wpo_gf, wpo_gk, wpo_ld, wpo_pf, wpo_pz, wpo_sd, wpo_sr, wpo_ln, wpo_idv, wpo_irm, wpo_lrm, wpo_ldv, wpo_cpy, mlet, mnar_int, mup_same, mup_cell, mup_slot, ite_true, ite_false, true_and, and_true, eq_self, or_true, true_or, and_self, Int.reduceLT, Int.reduceLE, Int.reduceEq, Int.reduceNe, Int.reduceAdd, Int.reduceSub, Int.reduceMul, Int.reduceNeg, ne_eq, not_false_eq_true, not_true_eq_false, false_or, or_false, zor_inl, zor_inr, Bool.false_eq_true, false_and, and_false, zk1, zk2, zk3, zk4, zk5, zk6, zk7, zk8, zk9, zk10, zk11, zk12, zk13, zk14, zk15, zk16, zk17, zk18, zk19, zk20, zk21, zk22, zk23, zk24, zk25, zk26, zk27, zk28, zk29, zk30, zk31, zk32, zk33, zk34, zk35, zk36, zk37, zk38, zk39, zk40, zk41, zk42, zk43, zk44, zk45, zk46, zk47, zk48, zk49, zk50, zk51, zk52, zk53, zk54, zk55, zk56, zk57, zk58, zk59, zk60, zk61, zk62, zk63, zk64, zk65, zk66, zk67, zk68, zk69, zk70, zk71, zk72, zk73, zk74, zk75, zk76, zk77, zk78, zk79, zk80, zk81, zk82, zk83, zk84, zk85, zk86, zk87, zk88, zk89, zk90, zr2_0, zr2_1, zr2_2, zr2_3, zr2_4, zr2_6, zr2_7, zr2_10, zr2_11, zr2_12, zr1_0, zr1_1, zr14_0, zr14_1, zr14_2, zr14_3, zr14_4, zr14_6, zr14_7, zr14_10, zr14_11, zr14_12, zr13_0, zr25_0, zr25_1, zr25_2, zr25_3, zr25_4, zr25_6, zr25_7, zr25_10, zr25_11, zr25_12, zr13_1, zr1_2, zr37_0, zr1_3, zr39_0, zr39_1, zr39_2, zr39_5, zr39_7, zr39_8, zr1_4, zr46_1, zr46_2, zr46_3, zr46_4, zr46_0, zr1_5, zr51_2, zr51_10, zr51_0, zr51_1, zr54_1, zr54_2, zr54_3, zr1_6, zr58_1, zr58_2, zr58_3, zr58_0, zr1_7, zr62_2, zr62_3, zr62_0, zr62_1, zr1_8, zr1_9, zr1_10, zr1_15, zr68_2, zr68_3, zr68_4, zr68_5, zr68_7, zr68_8, zr68_9, zr68_12, zr68_13, zr68_14, zr68_22, zr68_23, zr68_24, zr68_26, zr68_35, zr68_36, zr68_37, zr68_38, zr68_39, zr68_40, zr68_41, zr68_42, e_isPlace, e_within, c1, c2, c3, n10, rf]
          · have c4 : ¬ (0 ≤ g ∧ g ≤ 9) := fun x => c ⟨by omega, x⟩
            simp (maxSteps := 5000000) (disch := first | assumption | omega) only [wpo_bind, wpo_some, wpo_gf, wpo_gk, wpo_ld, wpo_pf, wpo_pz, wpo_sd, wpo_sr, wpo_ln, wpo_idv, wpo_irm, wpo_lrm, wpo_ldv, wpo_cpy, mlet, mnar_int, mup_same, mup_cell, mup_slot, ite_true, ite_false, true_and, and_true, eq_self, or_true, true_or, and_self, Int.reduceLT, Int.reduceLE, Int.reduceEq, Int.reduceNe, Int.reduceAdd, Int.reduceSub, Int.reduceMul, Int.reduceNeg, ne_eq, not_false_eq_true, not_true_eq_false, false_or, or_false, zor_inl, zor_inr, Bool.false_eq_true, false_and, and_false, zk1, zk2, zk3, zk4, zk5, zk6, zk7, zk8, zk9, zk10, zk11, zk12, zk13, zk14, zk15, zk16, zk17, zk18, zk19, zk20, zk21, zk22, zk23, zk24, zk25, zk26, zk27, zk28, zk29, zk30, zk31, zk32, zk33, zk34, zk35, zk36, zk37, zk38, zk39, zk40, zk41, zk42, zk43, zk44, zk45, zk46, zk47, zk48, zk49, zk50, zk51, zk52, zk53, zk54, zk55, zk56, zk57, zk58, zk59, zk60, zk61, zk62, zk63, zk64, zk65, zk66, zk67, zk68, zk69, zk70, zk71, zk72, zk73, zk74, zk75, zk76, zk77, zk78, zk79, zk80, zk81, zk82, zk83, zk84, zk85, zk86, zk87, zk88, zk89, zk90, zr2_0, zr2_1, zr2_2, zr2_3, zr2_4, zr2_6, zr2_7, zr2_10, zr2_11, zr2_12, zr1_0, zr1_1, zr14_0, zr14_1, zr14_2, zr14_3, zr14_4, zr14_6, zr14_7, zr14_10, zr14_11, zr14_12, zr13_0, zr25_0, zr25_1, zr25_2, zr25_3, zr25_4, zr25_6, zr25_7, zr25_10, zr25_11, zr25_12, zr13_1, zr1_2, zr37_0, zr1_3, zr39_0, zr39_1, zr39_2, zr39_5, zr39_7, zr39_8, zr1_4, zr46_1, zr46_2, zr46_3, zr46_4, zr46_0, zr1_5, zr51_2, zr51_10, zr51_0, zr51_1, zr54_1, zr54_2, zr54_3, zr1_6, zr58_1, zr58_2, zr58_3, zr58_0, zr1_7, zr62_2, zr62_3, zr62_0, zr62_1, zr1_8, zr1_9, zr1_10, zr1_15, zr68_2, zr68_3, zr68_4, zr68_5, zr68_7, zr68_8, zr68_9, zr68_12, zr68_13, zr68_14, zr68_22, zr68_23, zr68_24, zr68_26, zr68_35, zr68_36, zr68_37, zr68_38, zr68_39, zr68_40, zr68_41, zr68_42, e_isPlace, e_within, c1, c2, c3, c4, n10, rf]
        · simp (maxSteps := 5000000) (disch := first | assumption | omega) only [wpo_bind, wpo_some, wpo_gf, wpo_gk, wpo_ld, wpo_pf, wpo_pz, wpo_sd, wpo_sr, wpo_ln, wpo_idv, wpo_irm, wpo_lrm, wpo_ldv, wpo_cpy, mlet, mnar_int, mup_same, mup_cell, mup_slot, ite_true, ite_false, true_and, and_true, eq_self, or_true, true_or, and_self, Int.reduceLT, Int.reduceLE, Int.reduceEq, Int.reduceNe, Int.reduceAdd, Int.reduceSub, Int.reduceMul, Int.reduceNeg, ne_eq, not_false_eq_true, not_true_eq_false, false_or, or_false, zor_inl, zor_inr, Bool.false_eq_true, false_and, and_false, zk1, zk2, zk3, zk4, zk5, zk6, zk7, zk8, zk9, zk10, zk11, zk12, zk13, zk14, zk15, zk16, zk17, zk18, zk19, zk20, zk21, zk22, zk23, zk24, zk25, zk26, zk27, zk28, zk29, zk30, zk31, zk32, zk33, zk34, zk35, zk36, zk37, zk38, zk39, zk40, zk41, zk42, zk43, zk44, zk45, zk46, zk47, zk48, zk49, zk50, zk51, zk52, zk53, zk54, zk55, zk56, zk57, zk58, zk59, zk60, zk61, zk62, zk63, zk64, zk65, zk66, zk67, zk68, zk69, zk70, zk71, zk72, zk73, zk74, zk75, zk76, zk77, zk78, zk79, zk80, zk81, zk82, zk83, zk84, zk85, zk86, zk87, zk88, zk89, zk90, zr2_0, zr2_1, zr2_2, zr2_3, zr2_4, zr2_6, zr2_7, zr2_10, zr2_11, zr2_12, zr1_0, zr1_1, zr14_0, zr14_1, zr14_2, zr14_3, zr14_4, zr14_6, zr14_7, zr14_10, zr14_11, zr14_12, zr13_0, zr25_0, zr25_1, zr25_2, zr25_3, zr25_4, zr25_6, zr25_7, zr25_10, zr25_11, zr25_12, zr13_1, zr1_2, zr37_0, zr1_3, zr39_0, zr39_1, zr39_2, zr39_5, zr39_7, zr39_8, zr1_4, zr46_1, zr46_2, zr46_3, zr46_4, zr46_0, zr1_5, zr51_2, zr51_10, zr51_0, zr51_1, zr54_1, zr54_2, zr54_3, zr1_6, zr58_1, zr58_2, zr58_3, zr58_0, zr1_7, zr62_2, zr62_3, zr62_0, zr62_1, zr1_8, zr1_9, zr1_10, zr1_15, zr68_2, zr68_3, zr68_4, zr68_5, zr68_7, zr68_8, zr68_9, zr68_12, zr68_13, zr68_14, zr68_22, zr68_23, zr68_24, zr68_26, zr68_35, zr68_36, zr68_37, zr68_38, zr68_39, zr68_40, zr68_41, zr68_42, e_isPlace, e_within, c1, c2, n10, rf]
      · simp (maxSteps := 5000000) (disch := first | assumption | omega) only [wpo_bind, wpo_some, wpo_gf, wpo_gk, wpo_ld, wpo_pf, wpo_pz, wpo_sd, wpo_sr, wpo_ln, wpo_idv, wpo_irm, wpo_lrm, wpo_ldv, wpo_cpy, mlet, mnar_int, mup_same, mup_cell, mup_slot, ite_true, ite_false, true_and, and_true, eq_self, or_true, true_or, and_self, Int.reduceLT, Int.reduceLE, Int.reduceEq, Int.reduceNe, Int.reduceAdd, Int.reduceSub, Int.reduceMul, Int.reduceNeg, ne_eq, not_false_eq_true, not_true_eq_false, false_or, or_false, zor_inl, zor_inr, Bool.false_eq_true, false_and, and_false, zk1, zk2, zk3, zk4, zk5, zk6, zk7, zk8, zk9, zk10, zk11, zk12, zk13, zk14, zk15, zk16, zk17, zk18, zk19, zk20, zk21, zk22, zk23, zk24, zk25, zk26, zk27, zk28, zk29, zk30, zk31, zk32, zk33, zk34, zk35, zk36, zk37, zk38, zk39, zk40, zk41, zk42, zk43, zk44, zk45, zk46, zk47, zk48, zk49, zk50, zk51, zk52, zk53, zk54, zk55, zk56, zk57, zk58, zk59, zk60, zk61, zk62, zk63, zk64, zk65, zk66, zk67, zk68, zk69, zk70, zk71, zk72, zk73, zk74, zk75, zk76, zk77, zk78, zk79, zk80, zk81, zk82, zk83, zk84, zk85, zk86, zk87, zk88, zk89, zk90, zr2_0, zr2_1, zr2_2, zr2_3, zr2_4, zr2_6, zr2_7, zr2_10, zr2_11, zr2_12, zr1_0, zr1_1, zr14_0, zr14_1, zr14_2, zr14_3, zr14_4, zr14_6, zr14_7, zr14_10, zr14_11, zr14_12, zr13_0, zr25_0, zr25_1, zr25_2, zr25_3, zr25_4, zr25_6, zr25_7, zr25_10, zr25_11, zr25_12, zr13_1, zr1_2, zr37_0, zr1_3, zr39_0, zr39_1, zr39_2, zr39_5, zr39_7, zr39_8, zr1_4, zr46_1, zr46_2, zr46_3, zr46_4, zr46_0, zr1_5, zr51_2, zr51_10, zr51_0, zr51_1, zr54_1, zr54_2, zr54_3, zr1_6, zr58_1, zr58_2, zr58_3, zr58_0, zr1_7, zr62_2, zr62_3, zr62_0, zr62_1, zr1_8, zr1_9, zr1_10, zr1_15, zr68_2, zr68_3, zr68_4, zr68_5, zr68_7, zr68_8, zr68_9, zr68_12, zr68_13, zr68_14, zr68_22, zr68_23, zr68_24, zr68_26, zr68_35, zr68_36, zr68_37, zr68_38, zr68_39, zr68_40, zr68_41, zr68_42, e_isPlace, c1, rf]
    · unfold M_Mo_ground
      by_cases c1 : 0 ≤ f ∧ f ≤ 63
      · by_cases c2 : f ≤ t ∧ t ≤ 63
        · have c4 : ¬ (0 ≤ g ∧ g ≤ 9) := fun x => c ⟨by omega, x⟩
          simp (maxSteps := 5000000) (disch := first | assumption | omega) only [wpo_bind, wpo_some, wpo_gf, wpo_gk, wpo_ld, wpo_pf, wpo_pz, wpo_sd, wpo_sr, wpo_ln, wpo_idv, wpo_irm, wpo_lrm, wpo_ldv, wpo_cpy, mlet, mnar_int, mup_same, mup_cell, mup_slot, ite_true, ite_false, true_and, and_true, eq_self, or_true, true_or, and_self, Int.reduceLT, Int.reduceLE, Int.reduceEq, Int.reduceNe, Int.reduceAdd, Int.reduceSub, Int.reduceMul, Int.reduceNeg, ne_eq, not_false_eq_true, not_true_eq_false, false_or, or_false, zor_inl, zor_inr, Bool.false_eq_true, false_and, and_false, zk1, zk2, zk3, zk4, zk5, zk6, zk7, zk8, zk9, zk10, zk11, zk12, zk13, zk14, zk15, zk16, zk17, zk18, zk19, zk20, zk21, zk22, zk23, zk24, zk25, zk26, zk27, zk28, zk29, zk30, zk31, zk32, zk33, zk34, zk35, zk36, zk37, zk38, zk39, zk40, zk41, zk42, zk43, zk44, zk45, zk46, zk47, zk48, zk49, zk50, zk51, zk52, zk53, zk54, zk55, zk56, zk57, zk58, zk59, zk60, zk61, zk62, zk63, zk64, zk65, zk66, zk67, zk68, zk69, zk70, zk71, zk72, zk73, zk74, zk75, zk76, zk77, zk78, zk79, zk80, zk81, zk82, zk83, zk84, zk85, zk86, zk87, zk88, zk89, zk90, zr2_0, zr2_1, zr2_2, zr2_3, zr2_4, zr2_6, zr2_7, zr2_10, zr2_11, zr2_12, zr1_0, zr1_1, zr14_0, zr14_1, zr14_2, zr14_3, zr14_4, zr14_6, zr14_7, zr14_10, zr14_11, zr14_12, zr13_0, zr25_0, zr25_1, zr25_2, zr25_3, zr25_4, zr25_6, zr25_7, zr25_10, zr25_11, zr25_12, zr13_1, zr1_2, zr37_0, zr1_3, zr39_0, zr39_1, zr39_2, zr39_5, zr39_7, zr39_8, zr1_4, zr46_1, zr46_2, zr46_3, zr46_4, zr46_0, zr1_5, zr51_2, zr51_10, zr51_0, zr51_1, zr54_1, zr54_2, zr54_3, zr1_6, zr58_1, zr58_2, zr58_3, zr58_0, zr1_7, zr62_2, zr62_3, zr62_0, zr62_1, zr1_8, zr1_9, zr1_10, zr1_15, zr68_2, zr68_3, zr68_4, zr68_5, zr68_7, zr68_8, zr68_9, zr68_12, zr68_13, zr68_14, zr68_22, zr68_23, zr68_24, zr68_26, zr68_35, zr68_36, zr68_37, zr68_38, zr68_39, zr68_40, zr68_41, zr68_42, f_isPlace, e_lies, c1, c2, c4, n10, rf]
        · simp (maxSteps := 5000000) (disch := first | assumption | omega) only [wpo_bind, wpo_some, wpo_gf, wpo_gk, wpo_ld, wpo_pf, wpo_pz, wpo_sd, wpo_sr, wpo_ln, wpo_idv, wpo_irm, wpo_lrm, wpo_ldv, wpo_cpy, mlet, mnar_int, mup_same, mup_cell, mup_slot, ite_true, ite_false, true_and, and_true, eq_self, or_true, true_or, and_self, Int.reduceLT, Int.reduceLE, Int.reduceEq, Int.reduceNe, Int.reduceAdd, Int.reduceSub, Int.reduceMul, Int.reduceNeg, ne_eq, not_false_eq_true, not_true_eq_false, false_or, or_false, zor_inl, zor_inr, Bool.false_eq_true, false_and, and_false, zk1, zk2, zk3, zk4, zk5, zk6, zk7, zk8, zk9, zk10, zk11, zk12, zk13, zk14, zk15, zk16, zk17, zk18, zk19, zk20, zk21, zk22, zk23, zk24, zk25, zk26, zk27, zk28, zk29, zk30, zk31, zk32, zk33, zk34, zk35, zk36, zk37, zk38, zk39, zk40, zk41, zk42, zk43, zk44, zk45, zk46, zk47, zk48, zk49, zk50, zk51, zk52, zk53, zk54, zk55, zk56, zk57, zk58, zk59, zk60, zk61, zk62, zk63, zk64, zk65, zk66, zk67, zk68, zk69, zk70, zk71, zk72, zk73, zk74, zk75, zk76, zk77, zk78, zk79, zk80, zk81, zk82, zk83, zk84, zk85, zk86, zk87, zk88, zk89, zk90, zr2_0, zr2_1, zr2_2, zr2_3, zr2_4, zr2_6, zr2_7, zr2_10, zr2_11, zr2_12, zr1_0, zr1_1, zr14_0, zr14_1, zr14_2, zr14_3, zr14_4, zr14_6, zr14_7, zr14_10, zr14_11, zr14_12, zr13_0, zr25_0, zr25_1, zr25_2, zr25_3, zr25_4, zr25_6, zr25_7, zr25_10, zr25_11, zr25_12, zr13_1, zr1_2, zr37_0, zr1_3, zr39_0, zr39_1, zr39_2, zr39_5, zr39_7, zr39_8, zr1_4, zr46_1, zr46_2, zr46_3, zr46_4, zr46_0, zr1_5, zr51_2, zr51_10, zr51_0, zr51_1, zr54_1, zr54_2, zr54_3, zr1_6, zr58_1, zr58_2, zr58_3, zr58_0, zr1_7, zr62_2, zr62_3, zr62_0, zr62_1, zr1_8, zr1_9, zr1_10, zr1_15, zr68_2, zr68_3, zr68_4, zr68_5, zr68_7, zr68_8, zr68_9, zr68_12, zr68_13, zr68_14, zr68_22, zr68_23, zr68_24, zr68_26, zr68_35, zr68_36, zr68_37, zr68_38, zr68_39, zr68_40, zr68_41, zr68_42, f_isPlace, e_lies, c1, c2, n10, rf]
      · simp (maxSteps := 5000000) (disch := first | assumption | omega) only [wpo_bind, wpo_some, wpo_gf, wpo_gk, wpo_ld, wpo_pf, wpo_pz, wpo_sd, wpo_sr, wpo_ln, wpo_idv, wpo_irm, wpo_lrm, wpo_ldv, wpo_cpy, mlet, mnar_int, mup_same, mup_cell, mup_slot, ite_true, ite_false, true_and, and_true, eq_self, or_true, true_or, and_self, Int.reduceLT, Int.reduceLE, Int.reduceEq, Int.reduceNe, Int.reduceAdd, Int.reduceSub, Int.reduceMul, Int.reduceNeg, ne_eq, not_false_eq_true, not_true_eq_false, false_or, or_false, zor_inl, zor_inr, Bool.false_eq_true, false_and, and_false, zk1, zk2, zk3, zk4, zk5, zk6, zk7, zk8, zk9, zk10, zk11, zk12, zk13, zk14, zk15, zk16, zk17, zk18, zk19, zk20, zk21, zk22, zk23, zk24, zk25, zk26, zk27, zk28, zk29, zk30, zk31, zk32, zk33, zk34, zk35, zk36, zk37, zk38, zk39, zk40, zk41, zk42, zk43, zk44, zk45, zk46, zk47, zk48, zk49, zk50, zk51, zk52, zk53, zk54, zk55, zk56, zk57, zk58, zk59, zk60, zk61, zk62, zk63, zk64, zk65, zk66, zk67, zk68, zk69, zk70, zk71, zk72, zk73, zk74, zk75, zk76, zk77, zk78, zk79, zk80, zk81, zk82, zk83, zk84, zk85, zk86, zk87, zk88, zk89, zk90, zr2_0, zr2_1, zr2_2, zr2_3, zr2_4, zr2_6, zr2_7, zr2_10, zr2_11, zr2_12, zr1_0, zr1_1, zr14_0, zr14_1, zr14_2, zr14_3, zr14_4, zr14_6, zr14_7, zr14_10, zr14_11, zr14_12, zr13_0, zr25_0, zr25_1, zr25_2, zr25_3, zr25_4, zr25_6, zr25_7, zr25_10, zr25_11, zr25_12, zr13_1, zr1_2, zr37_0, zr1_3, zr39_0, zr39_1, zr39_2, zr39_5, zr39_7, zr39_8, zr1_4, zr46_1, zr46_2, zr46_3, zr46_4, zr46_0, zr1_5, zr51_2, zr51_10, zr51_0, zr51_1, zr54_1, zr54_2, zr54_3, zr1_6, zr58_1, zr58_2, zr58_3, zr58_0, zr1_7, zr62_2, zr62_3, zr62_0, zr62_1, zr1_8, zr1_9, zr1_10, zr1_15, zr68_2, zr68_3, zr68_4, zr68_5, zr68_7, zr68_8, zr68_9, zr68_12, zr68_13, zr68_14, zr68_22, zr68_23, zr68_24, zr68_26, zr68_35, zr68_36, zr68_37, zr68_38, zr68_39, zr68_40, zr68_41, zr68_42, f_isPlace, c1, rf]
