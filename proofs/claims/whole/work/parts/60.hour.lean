/-! THE AIR OF AN HOUR of the developers' program -/
theorem mnew_hn {k n r i : Int} {σ : mS} (h : r ≠ σ.2.2.1 + 1) : (mnew k n σ).1 r i = σ.1 r i := by unfold mnew; exact if_neg h
theorem mnew_hf {k n r : Int} {σ : mS} (h : r ≠ σ.2.2.1 + 1) : (mnew k n σ).1 r = σ.1 r := by funext i; exact mnew_hn h
theorem mnew_he {k n i : Int} {σ : mS} : (mnew k n σ).1 (σ.2.2.1 + 1) i = 0 := by unfold mnew; exact if_pos rfl
theorem mnew_kn {k n r : Int} {σ : mS} (h : r ≠ σ.2.2.1 + 1) : (mnew k n σ).2.1 r = σ.2.1 r := by unfold mnew; exact if_neg h
theorem mnew_ke {k n : Int} {σ : mS} : (mnew k n σ).2.1 (σ.2.2.1 + 1) = (k, n) := by unfold mnew; exact if_pos rfl
theorem mnew_c {k n : Int} {σ : mS} : (mnew k n σ).2.2.1 = σ.2.2.1 + 1 := rfl
theorem mnew_s {k n : Int} {σ : mS} : (mnew k n σ).2.2.2 = σ.2.2.2 + n := rfl
theorem wpo_na {k n : Int} {σ : mS} {Q : mS → Prop} : wpo (na k n σ) Q ↔ (0 ≤ n ∧ n ≤ 1000000) ∧ Q (mnew k n σ) := by
  unfold na; constructor
  · rintro ⟨z, h, q⟩; split at h
    · cases h; exact ⟨by assumption, q⟩
    · cases h
  · rintro ⟨h, q⟩; exact ⟨_, if_pos h, q⟩
def zPh (f : Int → Int) : Nat → Int
  | 0 => 0
  | n + 1 => zPh f n + (if f (n : Int) = 0 then 0 else 1)
theorem zPh_bd (f : Int → Int) : ∀ n : Nat, 0 ≤ zPh f n ∧ zPh f n ≤ n := by
  intro n
  induction n with
  | zero => exact ⟨Int.le_refl _, Int.le_refl _⟩
  | succ n ih => unfold zPh; split <;> omega
theorem zPh_eq {f g : Int → Int} : ∀ n : Nat, (∀ s, 0 ≤ s → s < (n : Int) → g s = f s) → zPh g n = zPh f n := by
  intro n
  induction n with
  | zero => intro _; rfl
  | succ n ih =>
    intro h
    unfold zPh
    rw [ih (fun s a b => h s a (by omega)), h n (by omega) (by omega)]
theorem zPh_up {f g : Int → Int} {s : Int} (hs : f s = 0) (hg : g s ≠ 0) (ho : ∀ u, u ≠ s → g u = f u) (s0 : 0 ≤ s) : ∀ n : Nat, s < n → zPh g n = zPh f n + 1 := by
  intro n
  induction n with
  | zero => intro h; omega
  | succ n ih =>
    intro h
    unfold zPh
    by_cases c : s = (n : Int)
    · rw [zPh_eq n (f := f) (g := g) (fun u a b => ho u (by omega)), ← c, if_pos hs, if_neg hg]; omega
    · rw [ih (by omega), ho n (fun e => c e.symm)]; omega
def zN (σ : mS) : Prop := 90 ≤ σ.2.2.1 ∧ (σ.2.2.1 - 90) % 4 = 0
/-- what the asking of an hour's air leaves -/
def zFo (σ σ' : mS) : Prop := zB σ' ∧ (∀ r, r ≤ 46 ∨ 48 ≤ r ∧ r ≤ 53 ∨ 58 ≤ r ∧ r ≤ 90 → σ'.1 r = σ.1 r) ∧ (∀ s, σ.1 47 s ≠ 0 → σ'.1 47 s = σ.1 47 s) ∧
  (∀ b, 90 < b → (b - 91) % 4 = 0 → σ.2.1 b = (4, 4) → b + 3 ≤ σ.2.2.1 → ∀ j, 0 ≤ j → j ≤ 3 → σ'.1 (b + j) = σ.1 (b + j)) ∧ (∀ r, r ≤ σ.2.2.1 → σ'.2.1 r = σ.2.1 r) ∧ σ.2.2.1 ≤ σ'.2.2.1 ∧
  σ'.2.2.1 - σ.2.2.1 = 4 * (zPh (σ'.1 47) 24 - zPh (σ.1 47) 24) ∧ σ'.2.2.2 - σ.2.2.2 = 4164 * (zPh (σ'.1 47) 24 - zPh (σ.1 47) 24)
theorem zFo.rfl' {σ : mS} (h : zB σ) : zFo σ σ := ⟨h, fun _ _ => rfl, fun _ _ => rfl, fun _ _ _ _ _ _ _ _ => rfl, fun _ _ => rfl, Int.le_refl _, by omega, by omega⟩
theorem zFo.trans {σ σ' σ'' : mS} (h : zFo σ σ') (h' : zFo σ' σ'') : zFo σ σ'' := by
  obtain ⟨a1, a2, a3, a4, a5, a6, a7, a8⟩ := h
  obtain ⟨b1, b2, b3, b4, b5, b6, b7, b8⟩ := h'
  refine ⟨b1, fun r x => (b2 r x).trans (a2 r x), fun s x => (b3 s (by rw [a3 s x]; exact x)).trans (a3 s x), ?_, fun r x => (b5 r (by omega)).trans (a5 r x), by omega, by omega, by omega⟩
  intro b x1 x2 x3 x4 j j0 j3
  rw [b4 b x1 x2 (by rw [a5 b (by omega)]; exact x3) (by omega) j j0 j3]
  exact a4 b x1 x2 x3 x4 j j0 j3
/-- the cells of one air alone are written -/
theorem zFo.of_air {σ σ' : mS} {b : Int} (hb : zHB σ b) (hB : zB σ) (e2 : σ'.2 = σ.2) (hf : ∀ r, r ≠ b + 1 → r ≠ b + 2 → r ≠ b + 3 → σ'.1 r = σ.1 r) : zFo σ σ' := by
  have lo := zHB_low hb
  have f47 : σ'.1 47 = σ.1 47 := hf 47 (by omega) (by omega) (by omega)
  refine ⟨zB_core hB (fun r _ => by rw [e2]) ?_, fun r x => hf r (by omega) (by omega) (by omega), fun s _ => by rw [f47], ?_, fun r _ => by rw [e2], by rw [e2]; exact Int.le_refl _, by rw [e2, f47]; omega, by rw [e2, f47]; omega⟩
  · intro r hr
    refine hf r ?_ ?_ ?_
    · intro e; rw [e, zHB_core hb (by decide) (by decide)] at hr; exact absurd hr (by decide)
    · intro e; rw [e, zHB_core hb (by decide) (by decide)] at hr; exact absurd hr (by decide)
    · intro e; rw [e, zHB_core hb (by decide) (by decide)] at hr; exact absurd hr (by decide)
  · intro r x1 x2 x3 x4 j j0 j3
    have ne : r ≠ b := by intro e; rw [e, hb.2.2.1] at x3; exact absurd x3 (by decide)
    rcases hb.1 with e | e <;> exact hf _ (by omega) (by omega) (by omega)
theorem zCQ_fo {D : Int → (Int → Int) → Int} {A : Int → Int} {σ σ' : mS} (h : zCQ D A σ) (hf : zFo σ σ') (ha : zAir (zWd D A) σ') : zCQ D A σ' := by
  obtain ⟨hB, hW, hR, hL, hA⟩ := h
  refine ⟨hf.1, hW, zRoad_frame hR (fun r a b => hf.2.1 r (by omega)), ?_, ha⟩
  intro t t0 t1
  rw [hf.2.1 (2 + 7) (by omega)]
  have hl := hL t t0 t1
  exact zLaw_frame hl hf.2.2.2.2.2.1 (fun j a b => ⟨hf.2.2.2.1 _ hl.1.1 hl.1.2.1 hl.1.2.2.2.1 hl.1.2.2.1 j a b, hf.2.2.2.2.1 _ (by have := hl.1.2.2.1; omega)⟩)
set_option maxHeartbeats 4000000 in
theorem s_clear {σ : mS} {b p age : Int} (hB : zB σ) (hb : zHB σ b) (p0 : 0 ≤ p) (p1 : p < 64) :
    wpo (M_HourAir_clear b p age σ) (fun q => q.2.2 = σ.2 ∧ (∀ r, r ≠ b + 1 → r ≠ b + 2 → r ≠ b + 3 → q.2.1 r = σ.1 r) ∧ (∀ i, p * 32 ≤ i → i < p * 32 + 32 → q.2.1 (b + 1) i = -1000000 ∧ q.2.1 (b + 2) i = -1000000) ∧ (∀ i, ¬ (p * 32 ≤ i ∧ i < p * 32 + 32) → q.2.1 (b + 1) i = σ.1 (b + 1) i ∧ q.2.1 (b + 2) i = σ.1 (b + 2) i) ∧ q.2.1 (b + 3) p = age ∧ ∀ j, j ≠ p → q.2.1 (b + 3) j = σ.1 (b + 3) j) := by
  have lo := zHB_low hb
  obtain ⟨_, _, kb, k1, k2, k3, r1, r2, r3⟩ := hb
  have bp1 : 0 < b + 1 := by omega
  have bp2 : 0 < b + 2 := by omega
  have bp3 : 0 < b + 3 := by omega
  have w1 : w32 (p * 32) = p * 32 := w32_in (by omega) (by omega)
  have w2 : w32 (w32 (p + 1) * 32) = p * 32 + 32 := by
    rw [w32_in (x := p + 1) (by omega) (by omega), w32_in (by omega) (by omega)]; omega
  unfold M_HourAir_clear M_HourAir_clear_4
  rw [w1]
  refine miter_mN (fun n y => ∃ m : Int, (n : Int) = 32 - m ∧ 0 ≤ m ∧ m ≤ 32 ∧ y.1 = p * 32 + m ∧ y.2.2 = σ.2 ∧ (∀ r, r ≠ b + 1 → r ≠ b + 2 → y.2.1 r = σ.1 r) ∧ (∀ i, p * 32 ≤ i → i < p * 32 + m → y.2.1 (b + 1) i = -1000000 ∧ y.2.1 (b + 2) i = -1000000) ∧ (∀ i, ¬ (p * 32 ≤ i ∧ i < p * 32 + m) → y.2.1 (b + 1) i = σ.1 (b + 1) i ∧ y.2.1 (b + 2) i = σ.1 (b + 2) i)) ?_ 32 _ (by decide) ?_
  · intro n y ⟨m, hn, m0, m1, e1, e2, ef, ei, eo⟩
    obtain ⟨l3, σ'⟩ := y
    simp only at e1 e2 ef ei eo
    subst e1
    have fb : σ'.1 b = σ.1 b := ef b (by omega) (by omega)
    have fb3 : σ'.1 (b + 3) = σ.1 (b + 3) := ef _ (by omega) (by omega)
    have kb' : σ'.2.1 b = (3, 4) := by rw [e2]; exact kb
    have k1' : σ'.2.1 (b + 1) = (100, 2048) := by rw [e2]; exact k1
    have k2' : σ'.2.1 (b + 2) = (100, 2048) := by rw [e2]; exact k2
    have k3' : σ'.2.1 (b + 3) = (100, 64) := by rw [e2]; exact k3
    have r1' : σ'.1 b 1 = b + 1 := by rw [fb]; exact r1
    have r2' : σ'.1 b 2 = b + 2 := by rw [fb]; exact r2
    have r3' : σ'.1 b 3 = b + 3 := by rw [fb]; exact r3
    show wpo (B_HourAir_clear_4 b p age (p * 32 + m) σ') _
    unfold B_HourAir_clear_4
    rw [w2]
    by_cases c : p * 32 + m < p * 32 + 32
    · have c0 : 0 ≤ p * 32 + m := by omega
      have c1 : p * 32 + m < 2048 := by omega
      have w3 : w32 (p * 32 + m + 1) = p * 32 + (m + 1) := by rw [Int.add_assoc]; exact w32_in (by omega) (by omega)
      simp (disch := first | assumption | omega) only [wpo_bind, wpo_some, wpo_gf, wpo_gk, wpo_ld, wpo_pf, wpo_pz, wpo_sd, wpo_sr, wpo_ln, wpo_idv, wpo_irm, wpo_lrm, wpo_ldv, wpo_cpy, mlet, mnar_int, mup_same, mup_cell, mup_slot, ite_true, ite_false, true_and, and_true, eq_self, or_true, true_or, and_self, Int.reduceLT, Int.reduceLE, Int.reduceEq, Int.reduceNe, Int.reduceAdd, Int.reduceSub, Int.reduceMul, Int.reduceNeg, ne_eq, not_false_eq_true, not_true_eq_false, false_or, or_false, zor_inl, zor_inr, false_and, and_false, zk1, zk2, zk3, zk4, zk5, zk6, zk7, zk8, zk9, zk10, zk11, zk12, zk13, zk14, zk15, zk16, zk17, zk18, zk19, zk20, zk21, zk22, zk23, zk24, zk25, zk26, zk27, zk28, zk29, zk30, zk31, zk32, zk33, zk34, zk35, zk36, zk37, zk38, zk39, zk40, zk41, zk42, zk43, zk44, zk45, zk46, zk47, zk48, zk49, zk50, zk51, zk52, zk53, zk54, zk55, zk56, zk57, zk58, zk59, zk60, zk61, zk62, zk63, zk64, zk65, zk66, zk67, zk68, zk69, zk70, zk71, zk72, zk73, zk74, zk75, zk76, zk77, zk78, zk79, zk80, zk81, zk82, zk83, zk84, zk85, zk86, zk87, zk88, zk89, zk90, zr2_0, zr2_1, zr2_2, zr2_3, zr2_4, zr2_6, zr2_7, zr2_10, zr2_11, zr2_12, zr1_0, zr1_1, zr14_0, zr14_1, zr14_2, zr14_3, zr14_4, zr14_6, zr14_7, zr14_10, zr14_11, zr14_12, zr13_0, zr25_0, zr25_1, zr25_2, zr25_3, zr25_4, zr25_6, zr25_7, zr25_10, zr25_11, zr25_12, zr13_1, zr1_2, zr37_0, zr1_3, zr39_0, zr39_1, zr39_2, zr39_5, zr39_7, zr39_8, zr1_4, zr46_1, zr46_2, zr46_3, zr46_4, zr46_0, zr1_5, zr51_2, zr51_10, zr51_0, zr51_1, zr54_1, zr54_2, zr54_3, zr1_6, zr58_1, zr58_2, zr58_3, zr58_0, zr1_7, zr62_2, zr62_3, zr62_0, zr62_1, zr1_8, zr1_9, zr1_10, zr1_15, zr68_2, zr68_3, zr68_4, zr68_5, zr68_7, zr68_8, zr68_9, zr68_12, zr68_13, zr68_14, zr68_22, zr68_23, zr68_24, zr68_26, zr68_35, zr68_36, zr68_37, zr68_38, zr68_39, zr68_40, zr68_41, zr68_42, c, kb', k1', k2', r1', r2', bp1, bp2, c0, c1, w3]
      refine ⟨n - 1, by omega, m + 1, by omega, by omega, by omega, rfl, e2, ?_, ?_, ?_⟩
      · intro r a1 a2; rw [mup_fun a2, mup_fun a1]; exact ef r a1 a2
      · intro i i0 i1
        (try simp (disch := omega) only [mup_cell, mup_if])
        by_cases ci : i = p * 32 + m
        · rw [if_pos ci, if_pos ci]; exact ⟨rfl, rfl⟩
        · rw [if_neg ci, if_neg ci]; exact ei i i0 (by omega)
      · intro i hi
        (try simp (disch := omega) only [mup_same, mup_cell, mup_slot])
        exact eo i (by omega)
    · have m32 : m = 32 := by omega
      subst m32
      simp (disch := first | assumption | omega) only [wpo_bind, wpo_some, wpo_gf, wpo_gk, wpo_ld, wpo_pf, wpo_pz, wpo_sd, wpo_sr, wpo_ln, wpo_idv, wpo_irm, wpo_lrm, wpo_ldv, wpo_cpy, mlet, mnar_int, mup_same, mup_cell, mup_slot, ite_true, ite_false, true_and, and_true, eq_self, or_true, true_or, and_self, Int.reduceLT, Int.reduceLE, Int.reduceEq, Int.reduceNe, Int.reduceAdd, Int.reduceSub, Int.reduceMul, Int.reduceNeg, ne_eq, not_false_eq_true, not_true_eq_false, false_or, or_false, zor_inl, zor_inr, false_and, and_false, zk1, zk2, zk3, zk4, zk5, zk6, zk7, zk8, zk9, zk10, zk11, zk12, zk13, zk14, zk15, zk16, zk17, zk18, zk19, zk20, zk21, zk22, zk23, zk24, zk25, zk26, zk27, zk28, zk29, zk30, zk31, zk32, zk33, zk34, zk35, zk36, zk37, zk38, zk39, zk40, zk41, zk42, zk43, zk44, zk45, zk46, zk47, zk48, zk49, zk50, zk51, zk52, zk53, zk54, zk55, zk56, zk57, zk58, zk59, zk60, zk61, zk62, zk63, zk64, zk65, zk66, zk67, zk68, zk69, zk70, zk71, zk72, zk73, zk74, zk75, zk76, zk77, zk78, zk79, zk80, zk81, zk82, zk83, zk84, zk85, zk86, zk87, zk88, zk89, zk90, zr2_0, zr2_1, zr2_2, zr2_3, zr2_4, zr2_6, zr2_7, zr2_10, zr2_11, zr2_12, zr1_0, zr1_1, zr14_0, zr14_1, zr14_2, zr14_3, zr14_4, zr14_6, zr14_7, zr14_10, zr14_11, zr14_12, zr13_0, zr25_0, zr25_1, zr25_2, zr25_3, zr25_4, zr25_6, zr25_7, zr25_10, zr25_11, zr25_12, zr13_1, zr1_2, zr37_0, zr1_3, zr39_0, zr39_1, zr39_2, zr39_5, zr39_7, zr39_8, zr1_4, zr46_1, zr46_2, zr46_3, zr46_4, zr46_0, zr1_5, zr51_2, zr51_10, zr51_0, zr51_1, zr54_1, zr54_2, zr54_3, zr1_6, zr58_1, zr58_2, zr58_3, zr58_0, zr1_7, zr62_2, zr62_3, zr62_0, zr62_1, zr1_8, zr1_9, zr1_10, zr1_15, zr68_2, zr68_3, zr68_4, zr68_5, zr68_7, zr68_8, zr68_9, zr68_12, zr68_13, zr68_14, zr68_22, zr68_23, zr68_24, zr68_26, zr68_35, zr68_36, zr68_37, zr68_38, zr68_39, zr68_40, zr68_41, zr68_42, c, kb', k3', r3', bp3, p0, p1]
      refine ⟨e2, ?_, ?_, ?_, ?_⟩
      · intro r a1 a2 a3; rw [mup_fun a3]; exact ef r a1 a2
      · intro i i0 i1; (try simp (disch := omega) only [mup_same, mup_cell, mup_slot]); exact ei i i0 i1
      · intro i hi; (try simp (disch := omega) only [mup_same, mup_cell, mup_slot]); exact eo i hi
      · intro j hj; rw [mup_slot hj, fb3]
  · refine ⟨0, by omega, by omega, by omega, by simp, rfl, fun _ _ _ => rfl, fun i a b => by omega, fun i _ => ⟨rfl, rfl⟩⟩
