noncomputable section
/-! TREMBLE -/
theorem q_seed {D : Int → (Int → Int) → Int} {A : Int → Int} {s bend eh t pa b : Int} {σ : mS} (h : zQL D A s bend eh t pa σ) : zQL D A s bend eh t pa (mup σ.1 51 9 b, σ.2) ∧ zK2 σ (mup σ.1 51 9 b, σ.2) := by
  obtain ⟨h1, h2, h3, h4, h5⟩ := h
  have e := h1.eye (i := 9) (v := b) (by decide +kernel)
  refine ⟨⟨e.1, ?_, h3, h4, h5⟩, e.2⟩
  obtain ⟨b1, b2, b3, b4, b5, b6, b7, b8, b9⟩ := h2
  have hh1 := zAir_get h1.1.2.2.2.2 b1.1 b1.2 b2
  have lo1 := zHB_low hh1.1
  have f : ∀ r, r ≠ 51 → mup σ.1 51 9 b r = σ.1 r := fun r hr => mup_fun hr
  have g : ∀ i, i ≠ 9 → mup σ.1 51 9 b 51 i = σ.1 51 i := fun i hi => mup_slot hi
  refine ⟨b1, ?_, ?_, ?_, ?_, ?_, ?_, ?_, ?_⟩
  · simp only [f 47 (by decide)]; exact b2
  · simp only [f 47 (by decide), g 5 (by decide)]; exact b3
  · simp only [f 47 (by decide), f 48 (by decide), f (σ.1 47 s + 3) (by omega)]; exact b4
  · simp only [g 6 (by decide)]; exact b5
  · simp only [g 3 (by decide)]; exact b6
  · simp only [g 4 (by decide)]; exact b7
  · simp only [g 8 (by decide)]; exact b8
  · simp only [g 7 (by decide)]; exact b9
theorem q_trem {D : Int → (Int → Int) → Int} {A : Int → Int} {s bend eh t pa b : Int} {σ : mS} (h : zQL D A s bend eh t pa σ) (hb : 0 ≤ b ∧ b ≤ 50) : zQL D A s bend eh b pa (mup σ.1 51 8 b, σ.2) ∧ zK2 σ (mup σ.1 51 8 b, σ.2) := by
  obtain ⟨h1, h2, h3, h4, h5⟩ := h
  have e := h1.eye (i := 8) (v := b) (by decide +kernel)
  refine ⟨⟨e.1, ?_, h3, h4, hb⟩, e.2⟩
  obtain ⟨b1, b2, b3, b4, b5, b6, b7, b8, b9⟩ := h2
  have hh1 := zAir_get h1.1.2.2.2.2 b1.1 b1.2 b2
  have lo1 := zHB_low hh1.1
  have f : ∀ r, r ≠ 51 → mup σ.1 51 8 b r = σ.1 r := fun r hr => mup_fun hr
  have g : ∀ i, i ≠ 8 → mup σ.1 51 8 b 51 i = σ.1 51 i := fun i hi => mup_slot hi
  refine ⟨b1, ?_, ?_, ?_, ?_, ?_, ?_, (by show mup σ.1 51 8 b 51 8 = b; exact mup_same), ?_⟩
  · simp only [f 47 (by decide)]; exact b2
  · simp only [f 47 (by decide), g 5 (by decide)]; exact b3
  · simp only [f 47 (by decide), f 48 (by decide), f (σ.1 47 s + 3) (by omega)]; exact b4
  · simp only [g 6 (by decide)]; exact b5
  · simp only [g 3 (by decide)]; exact b6
  · simp only [g 4 (by decide)]; exact b7
  · simp only [g 7 (by decide)]; exact b9
def zTD (D : Int → (Int → Int) → Int) (A : Int → Int) (a t seed : Int) (n : Nat) (σ : mS) (q : Int × mS) : Prop := ∃ U : mS, zQ D A U ∧ zKt σ U ∧ (∀ i : Nat, i < n → U.1 65 i = zwh (ztR D A a t seed i) ∧ U.1 66 i = zpl (ztR D A a t seed i)) ∧ q = (zit (ztG D A a t seed) 0 n, (mup (mup (mup U.1 1 11 (n : Int)) 1 14 0) 58 4 0, U.2))
set_option maxHeartbeats 4000000 in
theorem d_tremble {D : Int → (Int → Int) → Int} {A : Int → Int} {σ : mS} {seed a t : Int} {n : Nat} (h : zQ D A σ) (cs : 0 ≤ seed ∧ seed ≤ 1000000) (ca : -500 ≤ a ∧ a ≤ 500) (ct : 0 ≤ t ∧ t ≤ 50) (cn : 1 ≤ (n : Int) ∧ (n : Int) ≤ 40) : wpo (M_RW_tremble 1 seed a t n σ) (zTD D A a t seed n σ) := by
  have hB := h.1.1
  have n10 : ¬ (1 : Int) = 0 := by decide
  have hfin0 : ∀ U : mS, zQ D A U → zKt σ U → (∀ i : Nat, i < n → U.1 65 i = zwh (ztR D A a t seed i) ∧ U.1 66 i = zpl (ztR D A a t seed i)) → zTD D A a t seed n σ (zit (ztG D A a t seed) 0 n, (mup (mup (mup U.1 1 11 (n : Int)) 1 14 0) 58 4 0, U.2)) := fun U u1 u2 u3 => ⟨U, u1, u2, u3, rfl⟩
  generalize zTD D A a t seed n σ = Q at *
  unfold M_RW_tremble
  (try simp (disch := first | assumption | omega) only [wpo_bind, wpo_some, wpo_gf, wpo_gk, wpo_ld, wpo_pf, wpo_pz, wpo_sd, wpo_sr, wpo_ln, wpo_idv, wpo_irm, wpo_lrm, wpo_ldv, wpo_cpy, mlet, mnar_int, mup_same, mup_cell, mup_slot, ite_true, ite_false, true_and, and_true, eq_self, or_true, true_or, and_self, Int.reduceLT, Int.reduceLE, Int.reduceEq, Int.reduceNe, Int.reduceAdd, Int.reduceSub, Int.reduceMul, Int.reduceNeg, ne_eq, not_false_eq_true, not_true_eq_false, false_or, or_false, zor_inl, zor_inr, Bool.false_eq_true, false_and, and_false, zk1, zk2, zk3, zk4, zk5, zk6, zk7, zk8, zk9, zk10, zk11, zk12, zk13, zk14, zk15, zk16, zk17, zk18, zk19, zk20, zk21, zk22, zk23, zk24, zk25, zk26, zk27, zk28, zk29, zk30, zk31, zk32, zk33, zk34, zk35, zk36, zk37, zk38, zk39, zk40, zk41, zk42, zk43, zk44, zk45, zk46, zk47, zk48, zk49, zk50, zk51, zk52, zk53, zk54, zk55, zk56, zk57, zk58, zk59, zk60, zk61, zk62, zk63, zk64, zk65, zk66, zk67, zk68, zk69, zk70, zk71, zk72, zk73, zk74, zk75, zk76, zk77, zk78, zk79, zk80, zk81, zk82, zk83, zk84, zk85, zk86, zk87, zk88, zk89, zk90, zr2_0, zr2_1, zr2_2, zr2_3, zr2_4, zr2_6, zr2_7, zr2_10, zr2_11, zr2_12, zr1_0, zr1_1, zr14_0, zr14_1, zr14_2, zr14_3, zr14_4, zr14_6, zr14_7, zr14_10, zr14_11, zr14_12, zr13_0, zr25_0, zr25_1, zr25_2, zr25_3, zr25_4, zr25_6, zr25_7, zr25_10, zr25_11, zr25_12, zr13_1, zr1_2, zr37_0, zr1_3, zr39_0, zr39_1, zr39_2, zr39_5, zr39_7, zr39_8, zr1_4, zr46_1, zr46_2, zr46_3, zr46_4, zr46_0, zr1_5, zr51_2, zr51_10, zr51_0, zr51_1, zr54_1, zr54_2, zr54_3, zr1_6, zr58_1, zr58_2, zr58_3, zr58_0, zr1_7, zr62_2, zr62_3, zr62_0, zr62_1, zr1_8, zr1_9, zr1_10, zr1_15, zr68_2, zr68_3, zr68_4, zr68_5, zr68_7, zr68_8, zr68_9, zr68_12, zr68_13, zr68_14, zr68_22, zr68_23, zr68_24, zr68_26, zr68_35, zr68_36, zr68_37, zr68_38, zr68_39, zr68_40, zr68_41, zr68_42, e_within, e_isAngle, cs, ca, ct, cn, n10])
  refine wpo_mono (q_standBy h) ?_
  intro p ⟨p1, pk⟩
  have hBp := p1.1.1.1
  (try simp (disch := first | assumption | omega) only [wpo_bind, wpo_some, wpo_gf, wpo_gk, wpo_ld, wpo_pf, wpo_pz, wpo_sd, wpo_sr, wpo_ln, wpo_idv, wpo_irm, wpo_lrm, wpo_ldv, wpo_cpy, mlet, mnar_int, mup_same, mup_cell, mup_slot, ite_true, ite_false, true_and, and_true, eq_self, or_true, true_or, and_self, Int.reduceLT, Int.reduceLE, Int.reduceEq, Int.reduceNe, Int.reduceAdd, Int.reduceSub, Int.reduceMul, Int.reduceNeg, ne_eq, not_false_eq_true, not_true_eq_false, false_or, or_false, zor_inl, zor_inr, Bool.false_eq_true, false_and, and_false, zk1, zk2, zk3, zk4, zk5, zk6, zk7, zk8, zk9, zk10, zk11, zk12, zk13, zk14, zk15, zk16, zk17, zk18, zk19, zk20, zk21, zk22, zk23, zk24, zk25, zk26, zk27, zk28, zk29, zk30, zk31, zk32, zk33, zk34, zk35, zk36, zk37, zk38, zk39, zk40, zk41, zk42, zk43, zk44, zk45, zk46, zk47, zk48, zk49, zk50, zk51, zk52, zk53, zk54, zk55, zk56, zk57, zk58, zk59, zk60, zk61, zk62, zk63, zk64, zk65, zk66, zk67, zk68, zk69, zk70, zk71, zk72, zk73, zk74, zk75, zk76, zk77, zk78, zk79, zk80, zk81, zk82, zk83, zk84, zk85, zk86, zk87, zk88, zk89, zk90, zr2_0, zr2_1, zr2_2, zr2_3, zr2_4, zr2_6, zr2_7, zr2_10, zr2_11, zr2_12, zr1_0, zr1_1, zr14_0, zr14_1, zr14_2, zr14_3, zr14_4, zr14_6, zr14_7, zr14_10, zr14_11, zr14_12, zr13_0, zr25_0, zr25_1, zr25_2, zr25_3, zr25_4, zr25_6, zr25_7, zr25_10, zr25_11, zr25_12, zr13_1, zr1_2, zr37_0, zr1_3, zr39_0, zr39_1, zr39_2, zr39_5, zr39_7, zr39_8, zr1_4, zr46_1, zr46_2, zr46_3, zr46_4, zr46_0, zr1_5, zr51_2, zr51_10, zr51_0, zr51_1, zr54_1, zr54_2, zr54_3, zr1_6, zr58_1, zr58_2, zr58_3, zr58_0, zr1_7, zr62_2, zr62_3, zr62_0, zr62_1, zr1_8, zr1_9, zr1_10, zr1_15, zr68_2, zr68_3, zr68_4, zr68_5, zr68_7, zr68_8, zr68_9, zr68_12, zr68_13, zr68_14, zr68_22, zr68_23, zr68_24, zr68_26, zr68_35, zr68_36, zr68_37, zr68_38, zr68_39, zr68_40, zr68_41, zr68_42])
  refine wpo_mono (q_send (sd := 0) p1 ca (by decide) (fun x => absurd x (by decide))) ?_
  intro q ⟨q1, qk, qr⟩
  rw [zSn_sh h.1] at qr
  have hBq := q1.1.1.1
  have e14 : q.2.1 51 14 = zwh (zS0 D A a) := qr.2.2.2.1
  have e15 : q.2.1 51 15 = zth (zS0 D A a) := qr.2.2.2.2.1
  have s1 := q_seed (b := seed) q1
  have s2 := q_trem (b := t) s1.1 ct
  have hB1 := s1.1.1.1.1
  have hB2 := s2.1.1.1.1
  (try simp (disch := first | assumption | omega) only [wpo_bind, wpo_some, wpo_gf, wpo_gk, wpo_ld, wpo_pf, wpo_pz, wpo_sd, wpo_sr, wpo_ln, wpo_idv, wpo_irm, wpo_lrm, wpo_ldv, wpo_cpy, mlet, mnar_int, mup_same, mup_cell, mup_slot, ite_true, ite_false, true_and, and_true, eq_self, or_true, true_or, and_self, Int.reduceLT, Int.reduceLE, Int.reduceEq, Int.reduceNe, Int.reduceAdd, Int.reduceSub, Int.reduceMul, Int.reduceNeg, ne_eq, not_false_eq_true, not_true_eq_false, false_or, or_false, zor_inl, zor_inr, Bool.false_eq_true, false_and, and_false, zk1, zk2, zk3, zk4, zk5, zk6, zk7, zk8, zk9, zk10, zk11, zk12, zk13, zk14, zk15, zk16, zk17, zk18, zk19, zk20, zk21, zk22, zk23, zk24, zk25, zk26, zk27, zk28, zk29, zk30, zk31, zk32, zk33, zk34, zk35, zk36, zk37, zk38, zk39, zk40, zk41, zk42, zk43, zk44, zk45, zk46, zk47, zk48, zk49, zk50, zk51, zk52, zk53, zk54, zk55, zk56, zk57, zk58, zk59, zk60, zk61, zk62, zk63, zk64, zk65, zk66, zk67, zk68, zk69, zk70, zk71, zk72, zk73, zk74, zk75, zk76, zk77, zk78, zk79, zk80, zk81, zk82, zk83, zk84, zk85, zk86, zk87, zk88, zk89, zk90, zr2_0, zr2_1, zr2_2, zr2_3, zr2_4, zr2_6, zr2_7, zr2_10, zr2_11, zr2_12, zr1_0, zr1_1, zr14_0, zr14_1, zr14_2, zr14_3, zr14_4, zr14_6, zr14_7, zr14_10, zr14_11, zr14_12, zr13_0, zr25_0, zr25_1, zr25_2, zr25_3, zr25_4, zr25_6, zr25_7, zr25_10, zr25_11, zr25_12, zr13_1, zr1_2, zr37_0, zr1_3, zr39_0, zr39_1, zr39_2, zr39_5, zr39_7, zr39_8, zr1_4, zr46_1, zr46_2, zr46_3, zr46_4, zr46_0, zr1_5, zr51_2, zr51_10, zr51_0, zr51_1, zr54_1, zr54_2, zr54_3, zr1_6, zr58_1, zr58_2, zr58_3, zr58_0, zr1_7, zr62_2, zr62_3, zr62_0, zr62_1, zr1_8, zr1_9, zr1_10, zr1_15, zr68_2, zr68_3, zr68_4, zr68_5, zr68_7, zr68_8, zr68_9, zr68_12, zr68_13, zr68_14, zr68_22, zr68_23, zr68_24, zr68_26, zr68_35, zr68_36, zr68_37, zr68_38, zr68_39, zr68_40, zr68_41, zr68_42, e14, e15])
  have kk : zKc σ (mup (mup q.2.1 51 9 seed) 51 8 t, q.2.2) := (pk.1.trans qk.1).trans (s1.2.1.trans s2.2.1)
  refine t_tremble (zSn_sh h.1 (A 180)) s2.1 ca cs (by omega) (fun _ => by show mup (mup q.2.1 51 9 seed) 51 8 t 51 9 = seed; rw [mup_slot (by decide), mup_same]) _ (fun U u1 u2 u3 _ => ?_)
  have hBU := u1.1.1.1
  have b1 := zB_mup (r := 1) (i := 11) (v := (n : Int)) hBU (by decide +kernel)
  have ac := e_accept (v := zit (ztG D A a t seed) 0 n) b1
  have nn : ¬ (n : Int) < (n : Int) := by omega
  have fin := hfin0 U u1.1 ((zKt.of_kc kk).trans u2) u3
  unfold B_RW_tremble_49
  (try simp (disch := first | assumption | omega) only [wpo_bind, wpo_some, wpo_gf, wpo_gk, wpo_ld, wpo_pf, wpo_pz, wpo_sd, wpo_sr, wpo_ln, wpo_idv, wpo_irm, wpo_lrm, wpo_ldv, wpo_cpy, mlet, mnar_int, mup_same, mup_cell, mup_slot, ite_true, ite_false, true_and, and_true, eq_self, or_true, true_or, and_self, Int.reduceLT, Int.reduceLE, Int.reduceEq, Int.reduceNe, Int.reduceAdd, Int.reduceSub, Int.reduceMul, Int.reduceNeg, ne_eq, not_false_eq_true, not_true_eq_false, false_or, or_false, zor_inl, zor_inr, Bool.false_eq_true, false_and, and_false, zk1, zk2, zk3, zk4, zk5, zk6, zk7, zk8, zk9, zk10, zk11, zk12, zk13, zk14, zk15, zk16, zk17, zk18, zk19, zk20, zk21, zk22, zk23, zk24, zk25, zk26, zk27, zk28, zk29, zk30, zk31, zk32, zk33, zk34, zk35, zk36, zk37, zk38, zk39, zk40, zk41, zk42, zk43, zk44, zk45, zk46, zk47, zk48, zk49, zk50, zk51, zk52, zk53, zk54, zk55, zk56, zk57, zk58, zk59, zk60, zk61, zk62, zk63, zk64, zk65, zk66, zk67, zk68, zk69, zk70, zk71, zk72, zk73, zk74, zk75, zk76, zk77, zk78, zk79, zk80, zk81, zk82, zk83, zk84, zk85, zk86, zk87, zk88, zk89, zk90, zr2_0, zr2_1, zr2_2, zr2_3, zr2_4, zr2_6, zr2_7, zr2_10, zr2_11, zr2_12, zr1_0, zr1_1, zr14_0, zr14_1, zr14_2, zr14_3, zr14_4, zr14_6, zr14_7, zr14_10, zr14_11, zr14_12, zr13_0, zr25_0, zr25_1, zr25_2, zr25_3, zr25_4, zr25_6, zr25_7, zr25_10, zr25_11, zr25_12, zr13_1, zr1_2, zr37_0, zr1_3, zr39_0, zr39_1, zr39_2, zr39_5, zr39_7, zr39_8, zr1_4, zr46_1, zr46_2, zr46_3, zr46_4, zr46_0, zr1_5, zr51_2, zr51_10, zr51_0, zr51_1, zr54_1, zr54_2, zr54_3, zr1_6, zr58_1, zr58_2, zr58_3, zr58_0, zr1_7, zr62_2, zr62_3, zr62_0, zr62_1, zr1_8, zr1_9, zr1_10, zr1_15, zr68_2, zr68_3, zr68_4, zr68_5, zr68_7, zr68_8, zr68_9, zr68_12, zr68_13, zr68_14, zr68_22, zr68_23, zr68_24, zr68_26, zr68_35, zr68_36, zr68_37, zr68_38, zr68_39, zr68_40, zr68_41, zr68_42, nn, ac])
  exact fin
def zTR (D : Int → (Int → Int) → Int) (A : Int → Int) (a t seed : Int) (n : Nat) (vv : Int) (X : mS) (q : Int × mS) : Prop := ∃ V : mS, zMQ D A V ∧ V.2 = X.2 ∧ (∀ r, r ≤ 67 ∨ 69 ≤ r ∧ r ≤ 78 ∨ 91 ≤ r → V.1 r = X.1 r) ∧ (∀ i, i ≤ 18 ∨ i = 22 ∨ i = 23 ∨ i = 24 ∨ i = 26 ∨ 35 ≤ i → V.1 68 i = if i = 43 then (n : Int) else X.1 68 i) ∧ (∀ i : Nat, i < n → V.1 89 i = zwh (ztR D A a t seed i) ∧ V.1 90 i = zpl (ztR D A a t seed i)) ∧ q = (zit (ztG D A a t seed) 0 n, (mup (mup V.1 68 0 0) 68 1 (vv + 1), V.2))
set_option maxHeartbeats 4000000 in
theorem r_tremble {D : Int → (Int → Int) → Int} {A : Int → Int} {X : mS} {seed a t vv : Int} {n : Nat} (h : zMQ D A X) (v68 : X.1 68 1 = vv) (cs : 0 ≤ seed ∧ seed ≤ 1000000) (ca : -500 ≤ a ∧ a ≤ 500) (ct : 0 ≤ t ∧ t ≤ 50) (cn : 1 ≤ (n : Int) ∧ (n : Int) ≤ 40) : wpo (M_Mo_tremble 68 seed a t n X) (zTR D A a t seed n vv X) := by
  have hB := h.1
  have n10 : ¬ (1 : Int) = 0 := by decide
  have hfin0 : ∀ V : mS, zMQ D A V → V.2 = X.2 → (∀ r, r ≤ 67 ∨ 69 ≤ r ∧ r ≤ 78 ∨ 91 ≤ r → V.1 r = X.1 r) → (∀ i, i ≤ 18 ∨ i = 22 ∨ i = 23 ∨ i = 24 ∨ i = 26 ∨ 35 ≤ i → V.1 68 i = if i = 43 then (n : Int) else X.1 68 i) → (∀ i : Nat, i < n → V.1 89 i = zwh (ztR D A a t seed i) ∧ V.1 90 i = zpl (ztR D A a t seed i)) → zTR D A a t seed n vv X (zit (ztG D A a t seed) 0 n, (mup (mup V.1 68 0 0) 68 1 (vv + 1), V.2)) := fun V u1 u2 u3 u4 u5 => ⟨V, u1, u2, u3, u4, u5, rfl⟩
  generalize zTR D A a t seed n vv X = Q at *
  unfold M_Mo_tremble
  (try simp (disch := first | assumption | omega) only [wpo_bind, wpo_some, wpo_gf, wpo_gk, wpo_ld, wpo_pf, wpo_pz, wpo_sd, wpo_sr, wpo_ln, wpo_idv, wpo_irm, wpo_lrm, wpo_ldv, wpo_cpy, mlet, mnar_int, mup_same, mup_cell, mup_slot, ite_true, ite_false, true_and, and_true, eq_self, or_true, true_or, and_self, Int.reduceLT, Int.reduceLE, Int.reduceEq, Int.reduceNe, Int.reduceAdd, Int.reduceSub, Int.reduceMul, Int.reduceNeg, ne_eq, not_false_eq_true, not_true_eq_false, false_or, or_false, zor_inl, zor_inr, Bool.false_eq_true, false_and, and_false, zk1, zk2, zk3, zk4, zk5, zk6, zk7, zk8, zk9, zk10, zk11, zk12, zk13, zk14, zk15, zk16, zk17, zk18, zk19, zk20, zk21, zk22, zk23, zk24, zk25, zk26, zk27, zk28, zk29, zk30, zk31, zk32, zk33, zk34, zk35, zk36, zk37, zk38, zk39, zk40, zk41, zk42, zk43, zk44, zk45, zk46, zk47, zk48, zk49, zk50, zk51, zk52, zk53, zk54, zk55, zk56, zk57, zk58, zk59, zk60, zk61, zk62, zk63, zk64, zk65, zk66, zk67, zk68, zk69, zk70, zk71, zk72, zk73, zk74, zk75, zk76, zk77, zk78, zk79, zk80, zk81, zk82, zk83, zk84, zk85, zk86, zk87, zk88, zk89, zk90, zr2_0, zr2_1, zr2_2, zr2_3, zr2_4, zr2_6, zr2_7, zr2_10, zr2_11, zr2_12, zr1_0, zr1_1, zr14_0, zr14_1, zr14_2, zr14_3, zr14_4, zr14_6, zr14_7, zr14_10, zr14_11, zr14_12, zr13_0, zr25_0, zr25_1, zr25_2, zr25_3, zr25_4, zr25_6, zr25_7, zr25_10, zr25_11, zr25_12, zr13_1, zr1_2, zr37_0, zr1_3, zr39_0, zr39_1, zr39_2, zr39_5, zr39_7, zr39_8, zr1_4, zr46_1, zr46_2, zr46_3, zr46_4, zr46_0, zr1_5, zr51_2, zr51_10, zr51_0, zr51_1, zr54_1, zr54_2, zr54_3, zr1_6, zr58_1, zr58_2, zr58_3, zr58_0, zr1_7, zr62_2, zr62_3, zr62_0, zr62_1, zr1_8, zr1_9, zr1_10, zr1_15, zr68_2, zr68_3, zr68_4, zr68_5, zr68_7, zr68_8, zr68_9, zr68_12, zr68_13, zr68_14, zr68_22, zr68_23, zr68_24, zr68_26, zr68_35, zr68_36, zr68_37, zr68_38, zr68_39, zr68_40, zr68_41, zr68_42, e_lies, f_isAngle, cs, ca, ct, cn, n10])
  refine wpo_mono (m_goesNow h ca) ?_
  intro q ⟨q1, qk, qr⟩
  have hBq := q1.1
  have e27 := qr.1
  have e29 := qr.2.2.1
  have b1 := zB_mup (r := 68) (i := 34) (v := seed) hBq (by decide +kernel)
  have b2 := zB_mup (r := 68) (i := 43) (v := (n : Int)) b1 (by decide +kernel)
  (try simp (disch := first | assumption | omega) only [wpo_bind, wpo_some, wpo_gf, wpo_gk, wpo_ld, wpo_pf, wpo_pz, wpo_sd, wpo_sr, wpo_ln, wpo_idv, wpo_irm, wpo_lrm, wpo_ldv, wpo_cpy, mlet, mnar_int, mup_same, mup_cell, mup_slot, ite_true, ite_false, true_and, and_true, eq_self, or_true, true_or, and_self, Int.reduceLT, Int.reduceLE, Int.reduceEq, Int.reduceNe, Int.reduceAdd, Int.reduceSub, Int.reduceMul, Int.reduceNeg, ne_eq, not_false_eq_true, not_true_eq_false, false_or, or_false, zor_inl, zor_inr, Bool.false_eq_true, false_and, and_false, zk1, zk2, zk3, zk4, zk5, zk6, zk7, zk8, zk9, zk10, zk11, zk12, zk13, zk14, zk15, zk16, zk17, zk18, zk19, zk20, zk21, zk22, zk23, zk24, zk25, zk26, zk27, zk28, zk29, zk30, zk31, zk32, zk33, zk34, zk35, zk36, zk37, zk38, zk39, zk40, zk41, zk42, zk43, zk44, zk45, zk46, zk47, zk48, zk49, zk50, zk51, zk52, zk53, zk54, zk55, zk56, zk57, zk58, zk59, zk60, zk61, zk62, zk63, zk64, zk65, zk66, zk67, zk68, zk69, zk70, zk71, zk72, zk73, zk74, zk75, zk76, zk77, zk78, zk79, zk80, zk81, zk82, zk83, zk84, zk85, zk86, zk87, zk88, zk89, zk90, zr2_0, zr2_1, zr2_2, zr2_3, zr2_4, zr2_6, zr2_7, zr2_10, zr2_11, zr2_12, zr1_0, zr1_1, zr14_0, zr14_1, zr14_2, zr14_3, zr14_4, zr14_6, zr14_7, zr14_10, zr14_11, zr14_12, zr13_0, zr25_0, zr25_1, zr25_2, zr25_3, zr25_4, zr25_6, zr25_7, zr25_10, zr25_11, zr25_12, zr13_1, zr1_2, zr37_0, zr1_3, zr39_0, zr39_1, zr39_2, zr39_5, zr39_7, zr39_8, zr1_4, zr46_1, zr46_2, zr46_3, zr46_4, zr46_0, zr1_5, zr51_2, zr51_10, zr51_0, zr51_1, zr54_1, zr54_2, zr54_3, zr1_6, zr58_1, zr58_2, zr58_3, zr58_0, zr1_7, zr62_2, zr62_3, zr62_0, zr62_1, zr1_8, zr1_9, zr1_10, zr1_15, zr68_2, zr68_3, zr68_4, zr68_5, zr68_7, zr68_8, zr68_9, zr68_12, zr68_13, zr68_14, zr68_22, zr68_23, zr68_24, zr68_26, zr68_35, zr68_36, zr68_37, zr68_38, zr68_39, zr68_40, zr68_41, zr68_42, e27, e29])
  have g68 : ∀ i, mup (mup q.2.1 68 34 seed) 68 43 (n : Int) 68 i = if i = 43 then (n : Int) else if i = 34 then seed else q.2.1 68 i := fun i => by rw [mup_if, mup_if]
  have gf' : ∀ r, r ≠ 68 → mup (mup q.2.1 68 34 seed) 68 43 (n : Int) r = q.2.1 r := fun r hr => by rw [mup_fun hr, mup_fun hr]
  generalize eY : ((mup (mup q.2.1 68 34 seed) 68 43 (n : Int), q.2.2) : mS) = Y
  have y68 : ∀ i, Y.1 68 i = if i = 43 then (n : Int) else if i = 34 then seed else q.2.1 68 i := fun i => by rw [← eY]; exact g68 i
  have yf : ∀ r, r ≠ 68 → Y.1 r = q.2.1 r := fun r hr => by rw [← eY]; exact gf' r hr
  have yB : zB Y := by rw [← eY]; exact b2
  have y2 : Y.2 = X.2 := by rw [← eY]; exact qk.1.1
  have hY : zMQ D A Y := by
    obtain ⟨_, hW, hb', hA, hM, hv, hc⟩ := q1
    exact ⟨yB, hW, hb', by rw [yf 70 (by decide)]; exact hA, hM, by rw [y68, if_neg (by decide), if_neg (by decide)]; exact hv, by rw [y68, y68, if_neg (by decide), if_neg (by decide), if_neg (by decide), if_neg (by decide), yf 80 (by decide), yf 81 (by decide)]; exact hc⟩
  clear eY g68 gf'
  refine m_trembleLoop hY ca ct cs (by omega) (by rw [y68, if_neg (by decide), if_pos rfl]) _ (fun V u1 u2 u3 _ => ?_)
  have hBV := u1.1
  have nn : ¬ (n : Int) < (n : Int) := by omega
  have V68 : ∀ i, i ≤ 18 ∨ i = 22 ∨ i = 23 ∨ i = 24 ∨ i = 26 ∨ 35 ≤ i → V.1 68 i = if i = 43 then (n : Int) else X.1 68 i := fun i hi => by
    rw [u2.2.2.2 i hi, y68]
    by_cases c : i = 43
    · rw [if_pos c, if_pos c]
    · rw [if_neg c, if_neg c, if_neg (by omega)]
      exact qk.1.2.2.2 i hi
  have e1 : V.1 68 1 = vv := by rw [V68 1 (by decide), if_neg (by decide)]; exact v68
  have gd := f_good (v := zit (ztG D A a t seed) 0 n) hBV u1.2.2.2.2.2.1
  rw [e1] at gd
  have fin := hfin0 V u1 (u2.1.trans y2) (fun r hr => by rw [u2.2.2.1 r hr, yf r (by omega)]; exact qk.1.2.2.1 r (by omega)) V68 u3
  unfold B_Mo_tremble_41
  (try simp (disch := first | assumption | omega) only [wpo_bind, wpo_some, wpo_gf, wpo_gk, wpo_ld, wpo_pf, wpo_pz, wpo_sd, wpo_sr, wpo_ln, wpo_idv, wpo_irm, wpo_lrm, wpo_ldv, wpo_cpy, mlet, mnar_int, mup_same, mup_cell, mup_slot, ite_true, ite_false, true_and, and_true, eq_self, or_true, true_or, and_self, Int.reduceLT, Int.reduceLE, Int.reduceEq, Int.reduceNe, Int.reduceAdd, Int.reduceSub, Int.reduceMul, Int.reduceNeg, ne_eq, not_false_eq_true, not_true_eq_false, false_or, or_false, zor_inl, zor_inr, Bool.false_eq_true, false_and, and_false, zk1, zk2, zk3, zk4, zk5, zk6, zk7, zk8, zk9, zk10, zk11, zk12, zk13, zk14, zk15, zk16, zk17, zk18, zk19, zk20, zk21, zk22, zk23, zk24, zk25, zk26, zk27, zk28, zk29, zk30, zk31, zk32, zk33, zk34, zk35, zk36, zk37, zk38, zk39, zk40, zk41, zk42, zk43, zk44, zk45, zk46, zk47, zk48, zk49, zk50, zk51, zk52, zk53, zk54, zk55, zk56, zk57, zk58, zk59, zk60, zk61, zk62, zk63, zk64, zk65, zk66, zk67, zk68, zk69, zk70, zk71, zk72, zk73, zk74, zk75, zk76, zk77, zk78, zk79, zk80, zk81, zk82, zk83, zk84, zk85, zk86, zk87, zk88, zk89, zk90, zr2_0, zr2_1, zr2_2, zr2_3, zr2_4, zr2_6, zr2_7, zr2_10, zr2_11, zr2_12, zr1_0, zr1_1, zr14_0, zr14_1, zr14_2, zr14_3, zr14_4, zr14_6, zr14_7, zr14_10, zr14_11, zr14_12, zr13_0, zr25_0, zr25_1, zr25_2, zr25_3, zr25_4, zr25_6, zr25_7, zr25_10, zr25_11, zr25_12, zr13_1, zr1_2, zr37_0, zr1_3, zr39_0, zr39_1, zr39_2, zr39_5, zr39_7, zr39_8, zr1_4, zr46_1, zr46_2, zr46_3, zr46_4, zr46_0, zr1_5, zr51_2, zr51_10, zr51_0, zr51_1, zr54_1, zr54_2, zr54_3, zr1_6, zr58_1, zr58_2, zr58_3, zr58_0, zr1_7, zr62_2, zr62_3, zr62_0, zr62_1, zr1_8, zr1_9, zr1_10, zr1_15, zr68_2, zr68_3, zr68_4, zr68_5, zr68_7, zr68_8, zr68_9, zr68_12, zr68_13, zr68_14, zr68_22, zr68_23, zr68_24, zr68_26, zr68_35, zr68_36, zr68_37, zr68_38, zr68_39, zr68_40, zr68_41, zr68_42, nn, gd])
  exact fin
set_option maxHeartbeats 8000000 in
theorem s_tremble (k : Nat) (hk : k ≤ 1000) (seed a t m : Int) : zStp k (M_RW_tremble 1 seed a t m) (M_Mo_tremble 68 seed a t m) := by
  intro D A σ hI
  have hI0 := hI
  obtain ⟨q1, q2, q3, q4, q5, q6⟩ := hI
  have hB := q1.1.1
  have n10 : ¬ (1 : Int) = 0 := by decide
  by_cases c : (0 ≤ seed ∧ seed ≤ 1000000) ∧ (-500 ≤ a ∧ a ≤ 500) ∧ (0 ≤ t ∧ t ≤ 50) ∧ (1 ≤ m ∧ m ≤ 40)
  · obtain ⟨cs, ca, ct, cm⟩ := c
    obtain ⟨n, hn⟩ : ∃ n : Nat, m = (n : Int) := ⟨m.toNat, by omega⟩
    subst hn
    refine wpo_mono (d_tremble q1 cs ca ct cm) ?_
    intro q ⟨U, u1, u2, u3, hq⟩
    subst hq
    obtain ⟨⟨uB, hW, uR, uL, uA⟩, uN, uF⟩ := u1
    have b1 := zB_mup (r := 1) (i := 11) (v := (n : Int)) uB (by decide +kernel)
    have b2 := zB_mup (r := 1) (i := 14) (v := 0) b1 (by decide +kernel)
    have b3 := zB_mup (r := 58) (i := 4) (v := 0) b2 (by decide +kernel)
    have x1 : ∀ i, mup (mup (mup U.1 1 11 (n : Int)) 1 14 0) 58 4 0 1 i = if i = 14 then 0 else if i = 11 then (n : Int) else U.1 1 i := fun i => by rw [mup_cell (by decide), mup_if, mup_if]
    have x58 : mup (mup (mup U.1 1 11 (n : Int)) 1 14 0) 58 4 0 58 4 = 0 := mup_same
    have xU : ∀ u, u ≠ 1 → u ≠ 58 → mup (mup (mup U.1 1 11 (n : Int)) 1 14 0) 58 4 0 u = U.1 u := fun u a d => by rw [mup_fun d, mup_fun a, mup_fun a]
    generalize eX : ((mup (mup (mup U.1 1 11 (n : Int)) 1 14 0) 58 4 0, U.2) : mS) = X
    have gB : zB X := by rw [← eX]; exact b3
    have g1 : ∀ i, X.1 1 i = if i = 14 then 0 else if i = 11 then (n : Int) else U.1 1 i := fun i => by rw [← eX]; exact x1 i
    have g58 : X.1 58 4 = 0 := by rw [← eX]; exact x58
    have gU : ∀ u, u ≠ 1 → u ≠ 58 → X.1 u = U.1 u := fun u a d => by rw [← eX]; exact xU u a d
    have g2 : X.2 = U.2 := by rw [← eX]
    clear eX x1 x58 xU b1 b2 b3
    have uf : ∀ r, r ≤ 46 ∨ r = 48 ∨ r = 52 ∨ r = 62 ∨ 67 ≤ r ∧ r ≤ 90 → U.1 r = σ.1 r := u2.2.1
    have hQX : zQ D A X := by
      refine ⟨⟨gB, hW, zRoad_frame uR (fun r a b => gU r (by omega) (by omega)), ?_, ?_⟩, by unfold zN; rw [g2]; exact uN, Or.inl g58⟩
      · intro u u0 u1
        rw [gU (2 + 7) (by decide) (by decide)]
        have l := uL u u0 u1
        have lo := l.1.1
        exact zLaw_frame l (by rw [g2]; exact Int.le_refl _) (fun j a b => ⟨gU _ (by omega) (by omega), by rw [g2]⟩)
      · exact zAir_new uA (by rw [g2]; exact Int.le_refl _) (fun r _ => by rw [g2]) (fun r hr => gU r (by omega) (by omega)) (fun p p0 p1 => by rw [gU 48 (by decide) (by decide)]; exact ⟨Int.le_refl _, (uA.1 p p0 p1).2, fun _ s i => rfl⟩)
    have hMX : zMQ D A X := zMQ_fr q2 gB (fun r hr => (gU r (by omega) (by omega)).trans (uf r (by omega)))
    have v68 : X.1 68 = σ.1 68 := (gU 68 (by decide) (by decide)).trans (uf 68 (by decide))
    refine wpo_mono (r_tremble (vv := σ.1 68 1) hMX (by rw [v68]) cs ca ct cm) ?_
    intro z ⟨V, v1, v2, v3, v4, v5, hz⟩
    subst hz
    refine ⟨rfl, D, A, ?_⟩
    obtain ⟨vB, _, vb, vA, vM, vv, vc⟩ := v1
    have c1 := zB_mup (r := 68) (i := 0) (v := 0) vB (by decide +kernel)
    have c2 := zB_mup (r := 68) (i := 1) (v := σ.1 68 1 + 1) c1 (by decide +kernel)
    have t68 : ∀ i, mup (mup V.1 68 0 0) 68 1 (σ.1 68 1 + 1) 68 i = if i = 1 then σ.1 68 1 + 1 else if i = 0 then 0 else V.1 68 i := fun i => by rw [mup_if, mup_if]
    have tV : ∀ u, u ≠ 68 → mup (mup V.1 68 0 0) 68 1 (σ.1 68 1 + 1) u = V.1 u := fun u a => by rw [mup_fun a, mup_fun a]
    have e1 : V.1 68 1 = σ.1 68 1 := by rw [v4 1 (by decide), if_neg (by decide), v68]
    generalize eW : ((mup (mup V.1 68 0 0) 68 1 (σ.1 68 1 + 1), V.2) : mS) = W
    have w68 : ∀ i, W.1 68 i = if i = 1 then σ.1 68 1 + 1 else if i = 0 then 0 else V.1 68 i := fun i => by rw [← eW]; exact t68 i
    have wV : ∀ u, u ≠ 68 → W.1 u = V.1 u := fun u a => by rw [← eW]; exact tV u a
    have wB : zB W := by rw [← eW]; exact c2
    have wk : W.2 = X.2 := by rw [← eW]; exact v2
    clear eW t68 tV c1 c2
    have wX : ∀ r, r ≤ 67 ∨ 69 ≤ r ∧ r ≤ 78 ∨ 91 ≤ r → W.1 r = X.1 r := fun r hr => (wV r (by omega)).trans (v3 r hr)
    have fr : ∀ r, r ≠ 1 → r ≤ 46 ∨ r = 48 ∨ r = 67 ∨ 69 ≤ r ∧ r ≤ 78 → W.1 r = σ.1 r := fun r h1 hr => (wX r (by omega)).trans ((gU r h1 (by omega)).trans (uf r (by omega)))
    have w1 : ∀ i, i ≠ 14 → i ≠ 11 → W.1 1 i = σ.1 1 i := fun i x y => by rw [wX 1 (by decide), g1, if_neg x, if_neg y, uf 1 (by decide)]
    have s68 : ∀ i, i ≠ 0 → i ≠ 1 → i ≠ 43 → (i ≤ 18 ∨ i = 22 ∨ i = 23 ∨ i = 24 ∨ i = 26 ∨ 35 ≤ i) → W.1 68 i = σ.1 68 i := fun i x0 x1 x2 x3 => by rw [w68, if_neg x1, if_neg x0, v4 i x3, if_neg x2, v68]
    have s43 : W.1 68 43 = (n : Int) := by rw [w68, if_neg (by decide), if_neg (by decide), v4 43 (by decide), if_pos rfl]
    obtain ⟨r1, r2, r3, r4, r5, r6, r7, r8, r9, r10⟩ := q4
    have m1 : zIm U := zIm_fr q5 (zL0_fr q5.1 (fun r hr => uf r (by omega))) (fun r hr => uf r (by omega)) u2.2.2.1 u2.2.2.2.1 u2.2.2.2.2.1
    refine ⟨zQ_fr hQX wk wB (fun r hr => wX r (by omega)), ?_, q3, ⟨?_, ?_, ?_, ?_, ?_, ?_, ?_, ?_, ?_, ?_⟩, ?_, ?_⟩
    · refine ⟨wB, hW, vb, by rw [wV 70 (by decide)]; exact vA, vM, ?_, ?_⟩
      · rw [w68, if_pos rfl]
        have := q2.2.2.2.2.2.1
        omega
      · rcases vc with g | ⟨g, g'⟩
        · exact Or.inl (by rw [w68, if_neg (by decide), if_neg (by decide)]; exact g)
        · refine Or.inr ⟨by rw [w68, if_neg (by decide), if_neg (by decide)]; exact g, fun s s0 s1 => ?_⟩
          have := (g' s s0 s1).1
          rw [w68, if_pos rfl, wV 81 (by decide)]
          exact ⟨by omega, fun e => by omega⟩
    · rw [wX 1 (by decide), g1, if_pos rfl, w68, if_neg (by decide), if_pos rfl]
    · intro j j0 j1
      rw [fr 67 (by decide) (by decide), fr 69 (by decide) (by decide)]
      have := r2 j j0 j1
      omega
    · rw [w1 12 (by decide) (by decide), s68 6 (by decide) (by decide) (by decide) (by decide)]; exact r3
    · rw [w1 13 (by decide) (by decide), s68 11 (by decide) (by decide) (by decide) (by decide)]; exact r4
    · rw [fr 37 (by decide) (by decide), s68 10 (by decide) (by decide) (by decide) (by decide)]; exact r5
    · rw [fr 74 (by decide) (by decide), fr 38 (by decide) (by decide)]; exact r6
    · rw [wX 1 (by decide), g1, if_neg (by decide), if_pos rfl, s43]
      exact ⟨rfl, by omega, by omega⟩
    · rw [s43]
      intro j j0 j1
      obtain ⟨i, hi⟩ : ∃ i : Nat, j = (i : Int) := ⟨j.toNat, by omega⟩
      subst hi
      have a5 := u3 i (by omega)
      have b5 := v5 i (by omega)
      rw [wX 65 (by decide), wX 66 (by decide), gU 65 (by decide) (by decide), gU 66 (by decide) (by decide), wV 89 (by decide), wV 90 (by decide), a5.1, a5.2, b5.1, b5.2]
      exact ⟨rfl, rfl⟩
    · intro p p0 p1
      rw [fr 48 (by decide) (by decide)]
      have := r9 p p0 p1
      omega
    · rw [w68, if_pos rfl]; omega
    · have m2 : zIm X := zIm_fr m1 (zL0_fr m1.1 (fun r hr => gU r (by omega) (by omega))) (fun r hr => gU r (by omega) (by omega)) (fun b b0 _ _ _ j j0 j1 => gU _ (by omega) (by omega)) (fun r _ => by rw [g2]) (by rw [g2]; exact Int.le_refl _)
      exact zIm_fr m2 (zL0_fr m2.1 (fun r hr => wX r (by omega))) (fun r hr => wX r (by omega)) (fun b b0 _ _ _ j j0 j1 => wX _ (by omega)) (fun r _ => by rw [wk]) (by rw [wk]; exact Int.le_refl _)
    · have c1 := u2.2.2.2.2.2.1
      have c2 := u2.2.2.2.2.2.2
      unfold zCn
      rw [wX 47 (by decide), gU 47 (by decide) (by decide), wk, g2]
      exact ⟨by have := q6.1; omega, by have := q6.2; omega⟩
  · refine zRefu (by' := -1) (m := 1) hI0 hk (by decide) (by decide) (fun rf => ?_) (fun σ1 hB1 _ rf => ?_)
    · unfold M_RW_tremble
      by_cases c1 : 0 ≤ seed ∧ seed ≤ 1000000
      · by_cases c2 : -500 ≤ a ∧ a ≤ 500
        · by_cases c3 : 0 ≤ t ∧ t ≤ 50
          · have c4 : ¬ (1 ≤ m ∧ m ≤ 40) := fun x => c ⟨c1, c2, c3, x⟩
            simp (maxSteps := 5000000) (disch := first | assumption | omega) only [wpo_bind, wpo_some, wpo_gf, wpo_gk, wpo_ld, wpo_pf, wpo_pz, wpo_sd, wpo_sr, wpo_ln, wpo_idv, wpo_irm, wpo_lrm, wpo_ldv, wpo_cpy, mlet, mnar_int, mup_same, mup_cell, mup_slot, ite_true, ite_false, true_and, and_true, eq_self, or_true, true_or, and_self, Int.reduceLT, Int.reduceLE, Int.reduceEq, Int.reduceNe, Int.reduceAdd, Int.reduceSub, Int.reduceMul, Int.reduceNeg, ne_eq, not_false_eq_true, not_true_eq_false, false_or, or_false, zor_inl, zor_inr, Bool.false_eq_true, false_and, and_false, zk1, zk2, zk3, zk4, zk5, zk6, zk7, zk8, zk9, zk10, zk11, zk12, zk13, zk14, zk15, zk16, zk17, zk18, zk19, zk20, zk21, zk22, zk23, zk24, zk25, zk26, zk27, zk28, zk29, zk30, zk31, zk32, zk33, zk34, zk35, zk36, zk37, zk38, zk39, zk40, zk41, zk42, zk43, zk44, zk45, zk46, zk47, zk48, zk49, zk50, zk51, zk52, zk53, zk54, zk55, zk56, zk57, zk58, zk59, zk60, zk61, zk62, zk63, zk64, zk65, zk66, zk67, zk68, zk69, zk70, zk71, zk72, zk73, zk74, zk75, zk76, zk77, zk78, zk79, zk80, zk81, zk82, zk83, zk84, zk85, zk86, zk87, zk88, zk89, zk90, zr2_0, zr2_1, zr2_2, zr2_3, zr2_4, zr2_6, zr2_7, zr2_10, zr2_11, zr2_12, zr1_0, zr1_1, zr14_0, zr14_1, zr14_2, zr14_3, zr14_4, zr14_6, zr14_7, zr14_10, zr14_11, zr14_12, zr13_0, zr25_0, zr25_1, zr25_2, zr25_3, zr25_4, zr25_6, zr25_7, zr25_10, zr25_11, zr25_12, zr13_1, zr1_2, zr37_0, zr1_3, zr39_0, zr39_1, zr39_2, zr39_5, zr39_7, zr39_8, zr1_4, zr46_1, zr46_2, zr46_3, zr46_4, zr46_0, zr1_5, zr51_2, zr51_10, zr51_0, zr51_1, zr54_1, zr54_2, zr54_3, zr1_6, zr58_1, zr58_2, zr58_3, zr58_0, zr1_7, zr62_2, zr62_3, zr62_0, zr62_1, zr1_8, zr1_9, zr1_10, zr1_15, zr68_2, zr68_3, zr68_4, zr68_5, zr68_7, zr68_8, zr68_9, zr68_12, zr68_13, zr68_14, zr68_22, zr68_23, zr68_24, zr68_26, zr68_35, zr68_36, zr68_37, zr68_38, zr68_39, zr68_40, zr68_41, zr68_42, e_within, e_isAngle, c1, c2, c3, c4, n10, rf]
          · simp (maxSteps := 5000000) (disch := first | assumption | omega) only [wpo_bind, wpo_some, wpo_gf, wpo_gk, wpo_ld, wpo_pf, wpo_pz, wpo_sd, wpo_sr, wpo_ln, wpo_idv, wpo_irm, wpo_lrm, wpo_ldv, wpo_cpy, mlet, mnar_int, mup_same, mup_cell, mup_slot, ite_true, ite_false, true_and, and_true, eq_self, or_true, true_or, and_self, Int.reduceLT, Int.reduceLE, Int.reduceEq, Int.reduceNe, Int.reduceAdd, Int.reduceSub, Int.reduceMul, Int.reduceNeg, ne_eq, not_false_eq_true, not_true_eq_false, false_or, or_false, zor_inl, zor_inr, Bool.false_eq_true, false_and, and_false, zk1, zk2, zk3, zk4, zk5, zk6, zk7, zk8, zk9, zk10, zk11, zk12, zk13, zk14, zk15, zk16, zk17, zk18, zk19, zk20, zk21, zk22, zk23, zk24, zk25, zk26, zk27, zk28, zk29, zk30, zk31, zk32, zk33, zk34, zk35, zk36, zk37, zk38, zk39, zk40, zk41, zk42, zk43, zk44, zk45, zk46, zk47, zk48, zk49, zk50, zk51, zk52, zk53, zk54, zk55, zk56, zk57, zk58, zk59, zk60, zk61, zk62, zk63, zk64, zk65, zk66, zk67, zk68, zk69, zk70, zk71, zk72, zk73, zk74, zk75, zk76, zk77, zk78, zk79, zk80, zk81, zk82, zk83, zk84, zk85, zk86, zk87, zk88, zk89, zk90, zr2_0, zr2_1, zr2_2, zr2_3, zr2_4, zr2_6, zr2_7, zr2_10, zr2_11, zr2_12, zr1_0, zr1_1, zr14_0, zr14_1, zr14_2, zr14_3, zr14_4, zr14_6, zr14_7, zr14_10, zr14_11, zr14_12, zr13_0, zr25_0, zr25_1, zr25_2, zr25_3, zr25_4, zr25_6, zr25_7, zr25_10, zr25_11, zr25_12, zr13_1, zr1_2, zr37_0, zr1_3, zr39_0, zr39_1, zr39_2, zr39_5, zr39_7, zr39_8, zr1_4, zr46_1, zr46_2, zr46_3, zr46_4, zr46_0, zr1_5, zr51_2, zr51_10, zr51_0, zr51_1, zr54_1, zr54_2, zr54_3, zr1_6, zr58_1, zr58_2, zr58_3, zr58_0, zr1_7, zr62_2, zr62_3, zr62_0, zr62_1, zr1_8, zr1_9, zr1_10, zr1_15, zr68_2, zr68_3, zr68_4, zr68_5, zr68_7, zr68_8, zr68_9, zr68_12, zr68_13, zr68_14, zr68_22, zr68_23, zr68_24, zr68_26, zr68_35, zr68_36, zr68_37, zr68_38, zr68_39, zr68_40, zr68_41, zr68_42, e_within, e_isAngle, c1, c2, c3, n10, rf]
        · simp (maxSteps := 5000000) (disch := first | assumption | omega) only [wpo_bind, wpo_some, wpo_gf, wpo_gk, wpo_ld, wpo_pf, wpo_pz, wpo_sd, wpo_sr, wpo_ln, wpo_idv, wpo_irm, wpo_lrm, wpo_ldv, wpo_cpy, mlet, mnar_int, mup_same, mup_cell, mup_slot, ite_true, ite_false, true_and, and_true, eq_self, or_true, true_or, and_self, Int.reduceLT, Int.reduceLE, Int.reduceEq, Int.reduceNe, Int.reduceAdd, Int.reduceSub, Int.reduceMul, Int.reduceNeg, ne_eq, not_false_eq_true, not_true_eq_false, false_or, or_false, zor_inl, zor_inr, Bool.false_eq_true, false_and, and_false, zk1, zk2, zk3, zk4, zk5, zk6, zk7, zk8, zk9, zk10, zk11, zk12, zk13, zk14, zk15, zk16, zk17, zk18, zk19, zk20, zk21, zk22, zk23, zk24, zk25, zk26, zk27, zk28, zk29, zk30, zk31, zk32, zk33, zk34, zk35, zk36, zk37, zk38, zk39, zk40, zk41, zk42, zk43, zk44, zk45, zk46, zk47, zk48, zk49, zk50, zk51, zk52, zk53, zk54, zk55, zk56, zk57, zk58, zk59, zk60, zk61, zk62, zk63, zk64, zk65, zk66, zk67, zk68, zk69, zk70, zk71, zk72, zk73, zk74, zk75, zk76, zk77, zk78, zk79, zk80, zk81, zk82, zk83, zk84, zk85, zk86, zk87, zk88, zk89, zk90, zr2_0, zr2_1, zr2_2, zr2_3, zr2_4, zr2_6, zr2_7, zr2_10, zr2_11, zr2_12, zr1_0, zr1_1, zr14_0, zr14_1, zr14_2, zr14_3, zr14_4, zr14_6, zr14_7, zr14_10, zr14_11, zr14_12, zr13_0, zr25_0, zr25_1, zr25_2, zr25_3, zr25_4, zr25_6, zr25_7, zr25_10, zr25_11, zr25_12, zr13_1, zr1_2, zr37_0, zr1_3, zr39_0, zr39_1, zr39_2, zr39_5, zr39_7, zr39_8, zr1_4, zr46_1, zr46_2, zr46_3, zr46_4, zr46_0, zr1_5, zr51_2, zr51_10, zr51_0, zr51_1, zr54_1, zr54_2, zr54_3, zr1_6, zr58_1, zr58_2, zr58_3, zr58_0, zr1_7, zr62_2, zr62_3, zr62_0, zr62_1, zr1_8, zr1_9, zr1_10, zr1_15, zr68_2, zr68_3, zr68_4, zr68_5, zr68_7, zr68_8, zr68_9, zr68_12, zr68_13, zr68_14, zr68_22, zr68_23, zr68_24, zr68_26, zr68_35, zr68_36, zr68_37, zr68_38, zr68_39, zr68_40, zr68_41, zr68_42, e_within, e_isAngle, c1, c2, n10, rf]
      · simp (maxSteps := 5000000) (disch := first | assumption | omega) only [wpo_bind, wpo_some, wpo_gf, wpo_gk, wpo_ld, wpo_pf, wpo_pz, wpo_sd, wpo_sr, wpo_ln, wpo_idv, wpo_irm, wpo_lrm, wpo_ldv, wpo_cpy, mlet, mnar_int, mup_same, mup_cell, mup_slot, ite_true, ite_false, true_and, and_true, eq_self, or_true, true_or, and_self, Int.reduceLT, Int.reduceLE, Int.reduceEq, Int.reduceNe, Int.reduceAdd, Int.reduceSub, Int.reduceMul, Int.reduceNeg, ne_eq, not_false_eq_true, not_true_eq_false, false_or, or_false, zor_inl, zor_inr, Bool.false_eq_true, false_and, and_false, zk1, zk2, zk3, zk4, zk5, zk6, zk7, zk8, zk9, zk10, zk11, zk12, zk13, zk14, zk15, zk16, zk17, zk18, zk19, zk20, zk21, zk22, zk23, zk24, zk25, zk26, zk27, zk28, zk29, zk30, zk31, zk32, zk33, zk34, zk35, zk36, zk37, zk38, zk39, zk40, zk41, zk42, zk43, zk44, zk45, zk46, zk47, zk48, zk49, zk50, zk51, zk52, zk53, zk54, zk55, zk56, zk57, zk58, zk59, zk60, zk61, zk62, zk63, zk64, zk65, zk66, zk67, zk68, zk69, zk70, zk71, zk72, zk73, zk74, zk75, zk76, zk77, zk78, zk79, zk80, zk81, zk82, zk83, zk84, zk85, zk86, zk87, zk88, zk89, zk90, zr2_0, zr2_1, zr2_2, zr2_3, zr2_4, zr2_6, zr2_7, zr2_10, zr2_11, zr2_12, zr1_0, zr1_1, zr14_0, zr14_1, zr14_2, zr14_3, zr14_4, zr14_6, zr14_7, zr14_10, zr14_11, zr14_12, zr13_0, zr25_0, zr25_1, zr25_2, zr25_3, zr25_4, zr25_6, zr25_7, zr25_10, zr25_11, zr25_12, zr13_1, zr1_2, zr37_0, zr1_3, zr39_0, zr39_1, zr39_2, zr39_5, zr39_7, zr39_8, zr1_4, zr46_1, zr46_2, zr46_3, zr46_4, zr46_0, zr1_5, zr51_2, zr51_10, zr51_0, zr51_1, zr54_1, zr54_2, zr54_3, zr1_6, zr58_1, zr58_2, zr58_3, zr58_0, zr1_7, zr62_2, zr62_3, zr62_0, zr62_1, zr1_8, zr1_9, zr1_10, zr1_15, zr68_2, zr68_3, zr68_4, zr68_5, zr68_7, zr68_8, zr68_9, zr68_12, zr68_13, zr68_14, zr68_22, zr68_23, zr68_24, zr68_26, zr68_35, zr68_36, zr68_37, zr68_38, zr68_39, zr68_40, zr68_41, zr68_42, e_within, c1, rf]
    · unfold M_Mo_tremble
      by_cases c1 : 0 ≤ seed ∧ seed ≤ 1000000
      · by_cases c2 : -500 ≤ a ∧ a ≤ 500
        · by_cases c3 : 0 ≤ t ∧ t ≤ 50
          · have c4 : ¬ (1 ≤ m ∧ m ≤ 40) := fun x => c ⟨c1, c2, c3, x⟩
            simp (maxSteps := 5000000) (disch := first | assumption | omega) only [wpo_bind, wpo_some, wpo_gf, wpo_gk, wpo_ld, wpo_pf, wpo_pz, wpo_sd, wpo_sr, wpo_ln, wpo_idv, wpo_irm, wpo_lrm, wpo_ldv, wpo_cpy, mlet, mnar_int, mup_same, mup_cell, mup_slot, ite_true, ite_false, true_and, and_true, eq_self, or_true, true_or, and_self, Int.reduceLT, Int.reduceLE, Int.reduceEq, Int.reduceNe, Int.reduceAdd, Int.reduceSub, Int.reduceMul, Int.reduceNeg, ne_eq, not_false_eq_true, not_true_eq_false, false_or, or_false, zor_inl, zor_inr, Bool.false_eq_true, false_and, and_false, zk1, zk2, zk3, zk4, zk5, zk6, zk7, zk8, zk9, zk10, zk11, zk12, zk13, zk14, zk15, zk16, zk17, zk18, zk19, zk20, zk21, zk22, zk23, zk24, zk25, zk26, zk27, zk28, zk29, zk30, zk31, zk32, zk33, zk34, zk35, zk36, zk37, zk38, zk39, zk40, zk41, zk42, zk43, zk44, zk45, zk46, zk47, zk48, zk49, zk50, zk51, zk52, zk53, zk54, zk55, zk56, zk57, zk58, zk59, zk60, zk61, zk62, zk63, zk64, zk65, zk66, zk67, zk68, zk69, zk70, zk71, zk72, zk73, zk74, zk75, zk76, zk77, zk78, zk79, zk80, zk81, zk82, zk83, zk84, zk85, zk86, zk87, zk88, zk89, zk90, zr2_0, zr2_1, zr2_2, zr2_3, zr2_4, zr2_6, zr2_7, zr2_10, zr2_11, zr2_12, zr1_0, zr1_1, zr14_0, zr14_1, zr14_2, zr14_3, zr14_4, zr14_6, zr14_7, zr14_10, zr14_11, zr14_12, zr13_0, zr25_0, zr25_1, zr25_2, zr25_3, zr25_4, zr25_6, zr25_7, zr25_10, zr25_11, zr25_12, zr13_1, zr1_2, zr37_0, zr1_3, zr39_0, zr39_1, zr39_2, zr39_5, zr39_7, zr39_8, zr1_4, zr46_1, zr46_2, zr46_3, zr46_4, zr46_0, zr1_5, zr51_2, zr51_10, zr51_0, zr51_1, zr54_1, zr54_2, zr54_3, zr1_6, zr58_1, zr58_2, zr58_3, zr58_0, zr1_7, zr62_2, zr62_3, zr62_0, zr62_1, zr1_8, zr1_9, zr1_10, zr1_15, zr68_2, zr68_3, zr68_4, zr68_5, zr68_7, zr68_8, zr68_9, zr68_12, zr68_13, zr68_14, zr68_22, zr68_23, zr68_24, zr68_26, zr68_35, zr68_36, zr68_37, zr68_38, zr68_39, zr68_40, zr68_41, zr68_42, e_lies, f_isAngle, c1, c2, c3, c4, n10, rf]
          · simp (maxSteps := 5000000) (disch := first | assumption | omega) only [wpo_bind, wpo_some, wpo_gf, wpo_gk, wpo_ld, wpo_pf, wpo_pz, wpo_sd, wpo_sr, wpo_ln, wpo_idv, wpo_irm, wpo_lrm, wpo_ldv, wpo_cpy, mlet, mnar_int, mup_same, mup_cell, mup_slot, ite_true, ite_false, true_and, and_true, eq_self, or_true, true_or, and_self, Int.reduceLT, Int.reduceLE, Int.reduceEq, Int.reduceNe, Int.reduceAdd, Int.reduceSub, Int.reduceMul, Int.reduceNeg, ne_eq, not_false_eq_true, not_true_eq_false, false_or, or_false, zor_inl, zor_inr, Bool.false_eq_true, false_and, and_false, zk1, zk2, zk3, zk4, zk5, zk6, zk7, zk8, zk9, zk10, zk11, zk12, zk13, zk14, zk15, zk16, zk17, zk18, zk19, zk20, zk21, zk22, zk23, zk24, zk25, zk26, zk27, zk28, zk29, zk30, zk31, zk32, zk33, zk34, zk35, zk36, zk37, zk38, zk39, zk40, zk41, zk42, zk43, zk44, zk45, zk46, zk47, zk48, zk49, zk50, zk51, zk52, zk53, zk54, zk55, zk56, zk57, zk58, zk59, zk60, zk61, zk62, zk63, zk64, zk65, zk66, zk67, zk68, zk69, zk70, zk71, zk72, zk73, zk74, zk75, zk76, zk77, zk78, zk79, zk80, zk81, zk82, zk83, zk84, zk85, zk86, zk87, zk88, zk89, zk90, zr2_0, zr2_1, zr2_2, zr2_3, zr2_4, zr2_6, zr2_7, zr2_10, zr2_11, zr2_12, zr1_0, zr1_1, zr14_0, zr14_1, zr14_2, zr14_3, zr14_4, zr14_6, zr14_7, zr14_10, zr14_11, zr14_12, zr13_0, zr25_0, zr25_1, zr25_2, zr25_3, zr25_4, zr25_6, zr25_7, zr25_10, zr25_11, zr25_12, zr13_1, zr1_2, zr37_0, zr1_3, zr39_0, zr39_1, zr39_2, zr39_5, zr39_7, zr39_8, zr1_4, zr46_1, zr46_2, zr46_3, zr46_4, zr46_0, zr1_5, zr51_2, zr51_10, zr51_0, zr51_1, zr54_1, zr54_2, zr54_3, zr1_6, zr58_1, zr58_2, zr58_3, zr58_0, zr1_7, zr62_2, zr62_3, zr62_0, zr62_1, zr1_8, zr1_9, zr1_10, zr1_15, zr68_2, zr68_3, zr68_4, zr68_5, zr68_7, zr68_8, zr68_9, zr68_12, zr68_13, zr68_14, zr68_22, zr68_23, zr68_24, zr68_26, zr68_35, zr68_36, zr68_37, zr68_38, zr68_39, zr68_40, zr68_41, zr68_42, e_lies, f_isAngle, c1, c2, c3, n10, rf]
        · simp (maxSteps := 5000000) (disch := first | assumption | omega) only [wpo_bind, wpo_some, wpo_gf, wpo_gk, wpo_ld, wpo_pf, wpo_pz, wpo_sd, wpo_sr, wpo_ln, wpo_idv, wpo_irm, wpo_lrm, wpo_ldv, wpo_cpy, mlet, mnar_int, mup_same, mup_cell, mup_slot, ite_true, ite_false, true_and, and_true, eq_self, or_true, true_or, and_self, Int.reduceLT, Int.reduceLE, Int.reduceEq, Int.reduceNe, Int.reduceAdd, Int.reduceSub, Int.reduceMul, Int.reduceNeg, ne_eq, not_false_eq_true, not_true_eq_false, false_or, or_false, zor_inl, zor_inr, Bool.false_eq_true, false_and, and_false, zk1, zk2, zk3, zk4, zk5, zk6, zk7, zk8, zk9, zk10, zk11, zk12, zk13, zk14, zk15, zk16, zk17, zk18, zk19, zk20, zk21, zk22, zk23, zk24, zk25, zk26, zk27, zk28, zk29, zk30, zk31, zk32, zk33, zk34, zk35, zk36, zk37, zk38, zk39, zk40, zk41, zk42, zk43, zk44, zk45, zk46, zk47, zk48, zk49, zk50, zk51, zk52, zk53, zk54, zk55, zk56, zk57, zk58, zk59, zk60, zk61, zk62, zk63, zk64, zk65, zk66, zk67, zk68, zk69, zk70, zk71, zk72, zk73, zk74, zk75, zk76, zk77, zk78, zk79, zk80, zk81, zk82, zk83, zk84, zk85, zk86, zk87, zk88, zk89, zk90, zr2_0, zr2_1, zr2_2, zr2_3, zr2_4, zr2_6, zr2_7, zr2_10, zr2_11, zr2_12, zr1_0, zr1_1, zr14_0, zr14_1, zr14_2, zr14_3, zr14_4, zr14_6, zr14_7, zr14_10, zr14_11, zr14_12, zr13_0, zr25_0, zr25_1, zr25_2, zr25_3, zr25_4, zr25_6, zr25_7, zr25_10, zr25_11, zr25_12, zr13_1, zr1_2, zr37_0, zr1_3, zr39_0, zr39_1, zr39_2, zr39_5, zr39_7, zr39_8, zr1_4, zr46_1, zr46_2, zr46_3, zr46_4, zr46_0, zr1_5, zr51_2, zr51_10, zr51_0, zr51_1, zr54_1, zr54_2, zr54_3, zr1_6, zr58_1, zr58_2, zr58_3, zr58_0, zr1_7, zr62_2, zr62_3, zr62_0, zr62_1, zr1_8, zr1_9, zr1_10, zr1_15, zr68_2, zr68_3, zr68_4, zr68_5, zr68_7, zr68_8, zr68_9, zr68_12, zr68_13, zr68_14, zr68_22, zr68_23, zr68_24, zr68_26, zr68_35, zr68_36, zr68_37, zr68_38, zr68_39, zr68_40, zr68_41, zr68_42, e_lies, f_isAngle, c1, c2, n10, rf]
      · simp (maxSteps := 5000000) (disch := first | assumption | omega) only [wpo_bind, wpo_some, wpo_gf, wpo_gk, wpo_ld, wpo_pf, wpo_pz, wpo_sd, wpo_sr, wpo_ln, wpo_idv, wpo_irm, wpo_lrm, wpo_ldv, wpo_cpy, mlet, mnar_int, mup_same, mup_cell, mup_slot, ite_true, ite_false, true_and, and_true, eq_self, or_true, true_or, and_self, Int.reduceLT, Int.reduceLE, Int.reduceEq, Int.reduceNe, Int.reduceAdd, Int.reduceSub, Int.reduceMul, Int.reduceNeg, ne_eq, not_false_eq_true, not_true_eq_false, false_or, or_false, zor_inl, zor_inr, Bool.false_eq_true, false_and, and_false, zk1, zk2, zk3, zk4, zk5, zk6, zk7, zk8, zk9, zk10, zk11, zk12, zk13, zk14, zk15, zk16, zk17, zk18, zk19, zk20, zk21, zk22, zk23, zk24, zk25, zk26, zk27, zk28, zk29, zk30, zk31, zk32, zk33, zk34, zk35, zk36, zk37, zk38, zk39, zk40, zk41, zk42, zk43, zk44, zk45, zk46, zk47, zk48, zk49, zk50, zk51, zk52, zk53, zk54, zk55, zk56, zk57, zk58, zk59, zk60, zk61, zk62, zk63, zk64, zk65, zk66, zk67, zk68, zk69, zk70, zk71, zk72, zk73, zk74, zk75, zk76, zk77, zk78, zk79, zk80, zk81, zk82, zk83, zk84, zk85, zk86, zk87, zk88, zk89, zk90, zr2_0, zr2_1, zr2_2, zr2_3, zr2_4, zr2_6, zr2_7, zr2_10, zr2_11, zr2_12, zr1_0, zr1_1, zr14_0, zr14_1, zr14_2, zr14_3, zr14_4, zr14_6, zr14_7, zr14_10, zr14_11, zr14_12, zr13_0, zr25_0, zr25_1, zr25_2, zr25_3, zr25_4, zr25_6, zr25_7, zr25_10, zr25_11, zr25_12, zr13_1, zr1_2, zr37_0, zr1_3, zr39_0, zr39_1, zr39_2, zr39_5, zr39_7, zr39_8, zr1_4, zr46_1, zr46_2, zr46_3, zr46_4, zr46_0, zr1_5, zr51_2, zr51_10, zr51_0, zr51_1, zr54_1, zr54_2, zr54_3, zr1_6, zr58_1, zr58_2, zr58_3, zr58_0, zr1_7, zr62_2, zr62_3, zr62_0, zr62_1, zr1_8, zr1_9, zr1_10, zr1_15, zr68_2, zr68_3, zr68_4, zr68_5, zr68_7, zr68_8, zr68_9, zr68_12, zr68_13, zr68_14, zr68_22, zr68_23, zr68_24, zr68_26, zr68_35, zr68_36, zr68_37, zr68_38, zr68_39, zr68_40, zr68_41, zr68_42, e_lies, c1, rf]
end
