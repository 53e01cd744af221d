theorem zLt.of_turn {D : Int → (Int → Int) → Int} {A : Int → Int} {σ σ' : mS} {s bend e eh t pa hr : Int} (h : zLt σ s bend e eh t pa) (h0 : 0 ≤ hr) (h1 : hr < 24) (ht : σ'.1 51 5 = σ'.1 47 (zsh A σ hr) ∧ σ'.1 47 (zsh A σ hr) ≠ 0 ∧ zfresh σ' (σ'.1 47 (zsh A σ hr))) (hf : ∀ i, i ≠ 5 → σ'.1 51 i = σ.1 51 i) : zLt σ' (zsh A σ hr) bend e eh t pa := by
  obtain ⟨_, _, _, _, a1, a2, a3, a4, a5⟩ := h
  exact ⟨zsh_bd h0 h1, ht.2.1, ht.1, ht.2.2, by rw [hf 6 (by decide)]; exact a1, by rw [hf 3 (by decide)]; exact a2, by rw [hf 4 (by decide)]; exact a3, by rw [hf 8 (by decide)]; exact a4, by rw [hf 7 (by decide)]; exact a5⟩
theorem ql_turnTo {D : Int → (Int → Int) → Int} {A : Int → Int} {s bend eh t pa hr : Int} {σ : mS} (h : zQL D A s bend eh t pa σ) (h0 : 0 ≤ hr) (h1 : hr < 24) :
    wpo (M_Light_turnTo 51 hr σ) (fun q => zQL D A (zsh A σ hr) bend eh t pa q.2 ∧ zK2 σ q.2) := by
  refine wpo_mono (q_turnTo h.1 h0 h1) ?_
  intro q ⟨q1, q2, q3, q4⟩
  exact ⟨⟨q1, zLt.of_turn (D := D) h.2.1 h0 h1 q3 q4, h.2.2⟩, q2⟩
/-- cells of the eye are written, its air not -/
theorem zQ.eye {D : Int → (Int → Int) → Int} {A : Int → Int} {σ : mS} {i v : Int} (h : zQ D A σ) (hi : zokr 51 i = true) : zQ D A (mup σ.1 51 i v, σ.2) ∧ zK2 σ (mup σ.1 51 i v, σ.2) := by
  obtain ⟨hq, hN, hF⟩ := h
  have q6 : zCQ D A (mup σ.1 51 i v, σ.2) := zCQ_slot hq hi
  have k : zKc σ (mup σ.1 51 i v, σ.2) := zKc.of_scr rfl q6.1 (fun r hr => mup_fun (by omega))
  exact ⟨⟨q6, hN.kc k, zFd_frame hF (fun r a b => mup_fun (by omega)) (fun s _ => by show mup σ.1 51 i v 47 s = σ.1 47 s; exact mup_cell (by decide))⟩, k, fun r a b => mup_fun (by omega)⟩
set_option maxHeartbeats 4000000 in
theorem q_standBy {D : Int → (Int → Int) → Int} {A : Int → Int} {σ : mS} (h : zQ D A σ) :
    wpo (M_Light_standByTerms 51 σ) (fun q => zQL D A (zsh A σ (A 180)) (A 181) (A 183) 0 0 q.2 ∧ zK2 σ q.2) := by
  have hq := h.1
  have hB := hq.1
  have tm := hq.2.2.1.2.2.2.1
  have t0 : σ.1 8 0 = A 180 := tm 0 (by decide) (by decide)
  have wf := hq.2.1.2.2.2.2.1
  unfold M_Light_standByTerms
  simp (disch := first | assumption | omega) only [wpo_bind, wpo_some, wpo_gf, wpo_gk, wpo_ld, wpo_pf, wpo_pz, wpo_sd, wpo_sr, wpo_ln, wpo_idv, wpo_irm, wpo_lrm, wpo_ldv, wpo_cpy, mlet, mnar_int, mup_same, mup_cell, mup_slot, ite_true, ite_false, true_and, and_true, eq_self, or_true, true_or, and_self, Int.reduceLT, Int.reduceLE, Int.reduceEq, Int.reduceNe, Int.reduceAdd, Int.reduceSub, Int.reduceMul, Int.reduceNeg, ne_eq, not_false_eq_true, not_true_eq_false, false_or, or_false, zor_inl, zor_inr, false_and, and_false, zk1, zk2, zk3, zk4, zk5, zk6, zk7, zk8, zk9, zk10, zk11, zk12, zk13, zk14, zk15, zk16, zk17, zk18, zk19, zk20, zk21, zk22, zk23, zk24, zk25, zk26, zk27, zk28, zk29, zk30, zk31, zk32, zk33, zk34, zk35, zk36, zk37, zk38, zk39, zk40, zk41, zk42, zk43, zk44, zk45, zk46, zk47, zk48, zk49, zk50, zk51, zk52, zk53, zk54, zk55, zk56, zk57, zk58, zk59, zk60, zk61, zk62, zk63, zk64, zk65, zk66, zk67, zk68, zk69, zk70, zk71, zk72, zk73, zk74, zk75, zk76, zk77, zk78, zk79, zk80, zk81, zk82, zk83, zk84, zk85, zk86, zk87, zk88, zk89, zk90, zr2_0, zr2_1, zr2_2, zr2_3, zr2_4, zr2_6, zr2_7, zr2_10, zr2_11, zr2_12, zr1_0, zr1_1, zr14_0, zr14_1, zr14_2, zr14_3, zr14_4, zr14_6, zr14_7, zr14_10, zr14_11, zr14_12, zr13_0, zr25_0, zr25_1, zr25_2, zr25_3, zr25_4, zr25_6, zr25_7, zr25_10, zr25_11, zr25_12, zr13_1, zr1_2, zr37_0, zr1_3, zr39_0, zr39_1, zr39_2, zr39_5, zr39_7, zr39_8, zr1_4, zr46_1, zr46_2, zr46_3, zr46_4, zr46_0, zr1_5, zr51_2, zr51_10, zr51_0, zr51_1, zr54_1, zr54_2, zr54_3, zr1_6, zr58_1, zr58_2, zr58_3, zr58_0, zr1_7, zr62_2, zr62_3, zr62_0, zr62_1, zr1_8, zr1_9, zr1_10, zr1_15, zr68_2, zr68_3, zr68_4, zr68_5, zr68_7, zr68_8, zr68_9, zr68_12, zr68_13, zr68_14, zr68_22, zr68_23, zr68_24, zr68_26, zr68_35, zr68_36, zr68_37, zr68_38, zr68_39, zr68_40, zr68_41, zr68_42, t0]
  refine wpo_mono (q_turnTo h wf.1.1 (by omega)) ?_
  intro q ⟨q1, q2, q3, q4⟩
  have hB1 := q1.1.1
  have tm1 := q1.1.2.2.1.2.2.2.1
  have t1 : q.2.1 8 1 = A 181 := tm1 1 (by decide) (by decide)
  have t2 : q.2.1 8 2 = A 182 := tm1 2 (by decide) (by decide)
  have t3 : q.2.1 8 3 = A 183 := tm1 3 (by decide) (by decide)
  simp (disch := first | assumption | omega) only [wpo_bind, wpo_some, wpo_gf, wpo_gk, wpo_ld, wpo_pf, wpo_pz, wpo_sd, wpo_sr, wpo_ln, wpo_idv, wpo_irm, wpo_lrm, wpo_ldv, wpo_cpy, mlet, mnar_int, mup_same, mup_cell, mup_slot, ite_true, ite_false, true_and, and_true, eq_self, or_true, true_or, and_self, Int.reduceLT, Int.reduceLE, Int.reduceEq, Int.reduceNe, Int.reduceAdd, Int.reduceSub, Int.reduceMul, Int.reduceNeg, ne_eq, not_false_eq_true, not_true_eq_false, false_or, or_false, zor_inl, zor_inr, false_and, and_false, zk1, zk2, zk3, zk4, zk5, zk6, zk7, zk8, zk9, zk10, zk11, zk12, zk13, zk14, zk15, zk16, zk17, zk18, zk19, zk20, zk21, zk22, zk23, zk24, zk25, zk26, zk27, zk28, zk29, zk30, zk31, zk32, zk33, zk34, zk35, zk36, zk37, zk38, zk39, zk40, zk41, zk42, zk43, zk44, zk45, zk46, zk47, zk48, zk49, zk50, zk51, zk52, zk53, zk54, zk55, zk56, zk57, zk58, zk59, zk60, zk61, zk62, zk63, zk64, zk65, zk66, zk67, zk68, zk69, zk70, zk71, zk72, zk73, zk74, zk75, zk76, zk77, zk78, zk79, zk80, zk81, zk82, zk83, zk84, zk85, zk86, zk87, zk88, zk89, zk90, zr2_0, zr2_1, zr2_2, zr2_3, zr2_4, zr2_6, zr2_7, zr2_10, zr2_11, zr2_12, zr1_0, zr1_1, zr14_0, zr14_1, zr14_2, zr14_3, zr14_4, zr14_6, zr14_7, zr14_10, zr14_11, zr14_12, zr13_0, zr25_0, zr25_1, zr25_2, zr25_3, zr25_4, zr25_6, zr25_7, zr25_10, zr25_11, zr25_12, zr13_1, zr1_2, zr37_0, zr1_3, zr39_0, zr39_1, zr39_2, zr39_5, zr39_7, zr39_8, zr1_4, zr46_1, zr46_2, zr46_3, zr46_4, zr46_0, zr1_5, zr51_2, zr51_10, zr51_0, zr51_1, zr54_1, zr54_2, zr54_3, zr1_6, zr58_1, zr58_2, zr58_3, zr58_0, zr1_7, zr62_2, zr62_3, zr62_0, zr62_1, zr1_8, zr1_9, zr1_10, zr1_15, zr68_2, zr68_3, zr68_4, zr68_5, zr68_7, zr68_8, zr68_9, zr68_12, zr68_13, zr68_14, zr68_22, zr68_23, zr68_24, zr68_26, zr68_35, zr68_36, zr68_37, zr68_38, zr68_39, zr68_40, zr68_41, zr68_42, t1, t2, t3]
  have a1 := q1.eye (i := 6) (v := A 181) (by decide +kernel)
  have a2 := a1.1.eye (i := 3) (v := A 182) (by decide +kernel)
  have a3 := a2.1.eye (i := 4) (v := A 183) (by decide +kernel)
  have a4 := a3.1.eye (i := 7) (v := 0) (by decide +kernel)
  have a5 := a4.1.eye (i := 8) (v := 0) (by decide +kernel)
  refine ⟨⟨a5.1, ?_, wf.2.1, wf.2.2.2, by decide, by decide⟩, ((((q2.trans a1.2).trans a2.2).trans a3.2).trans a4.2).trans a5.2⟩
  have f : ∀ r, r ≠ 51 → mup (mup (mup (mup (mup q.2.1 51 6 (A 181)) 51 3 (A 182)) 51 4 (A 183)) 51 7 0) 51 8 0 r = q.2.1 r := fun r hr => by rw [mup_fun hr, mup_fun hr, mup_fun hr, mup_fun hr, mup_fun hr]
  have f47 := f 47 (by decide)
  have hh := zAir_get q1.1.2.2.2.2 (zsh_bd wf.1.1 (by omega)).1 (zsh_bd (A := A) (σ := σ) wf.1.1 (by omega)).2 q3.2.1
  have lo := zHB_low hh.1
  refine ⟨zsh_bd wf.1.1 (by omega), ?_, ?_, ?_, ?_, ?_, ?_, ?_, ?_⟩
  · simp only [f47]; exact q3.2.1
  · simp only [f47]; simp [mup]; exact q3.1
  · intro p p0 p1
    simp only [f47, f 48 (by decide)]
    rw [f _ (by omega)]; exact q3.2.2 p p0 p1
  · simp [mup]
  · simp [mup]
  · simp [mup]
  · simp [mup]
  · simp [mup]
set_option maxHeartbeats 4000000 in
theorem q_look_24 {D : Int → (Int → Int) → Int} {A : Int → Int} {s bend eh : Int} {σ : mS} (h : zQL D A s bend eh 0 0 σ) :
    wpo (M_Field_look_24 58 0 σ) (fun q => zQL D A s bend eh 0 0 q.2 ∧ zKc σ q.2 ∧ zFA D A s bend eh q.2) := by
  unfold M_Field_look_24
  refine miter_mN (fun n y => (n : Int) = 201 - y.1 ∧ 0 ≤ y.1 ∧ y.1 ≤ 201 ∧ zKc σ y.2 ∧ zCQ D A y.2 ∧ zLt y.2 s bend (A 182) eh 0 0 ∧ ∀ i, 0 ≤ i → i < y.1 → y.2.1 59 i = zwh (zSn D A s bend eh (i - 100) 0 0 0) ∧ y.2.1 60 i = zth (zSn D A s bend eh (i - 100) 0 0 0) ∧ y.2.1 61 i = zic (zSn D A s bend eh (i - 100) 0 0 0)) ?_ 201 _ (by decide) ?_
  · intro n y ⟨hn, y0, y1, yk, yq, yl, ya⟩
    obtain ⟨i, σ'⟩ := y
    simp only at hn y0 y1 yk yq yl ya
    have hB' := yq.1
    have hN' := h.1.2.1.kc yk
    show wpo (B_Field_look_24 58 i σ') _
    unfold B_Field_look_24
    by_cases c : i < 201
    · have w : w32 (i - 100) = i - 100 := w32_in (by omega) (by omega)
      have w' : w32 (i + 1) = i + 1 := w32_in (by omega) (by omega)
      simp (disch := first | assumption | omega) only [wpo_bind, wpo_some, wpo_gf, wpo_gk, wpo_ld, wpo_pf, wpo_pz, wpo_sd, wpo_sr, wpo_ln, wpo_idv, wpo_irm, wpo_lrm, wpo_ldv, wpo_cpy, mlet, mnar_int, mup_same, mup_cell, mup_slot, ite_true, ite_false, true_and, and_true, eq_self, or_true, true_or, and_self, Int.reduceLT, Int.reduceLE, Int.reduceEq, Int.reduceNe, Int.reduceAdd, Int.reduceSub, Int.reduceMul, Int.reduceNeg, ne_eq, not_false_eq_true, not_true_eq_false, false_or, or_false, zor_inl, zor_inr, false_and, and_false, zk1, zk2, zk3, zk4, zk5, zk6, zk7, zk8, zk9, zk10, zk11, zk12, zk13, zk14, zk15, zk16, zk17, zk18, zk19, zk20, zk21, zk22, zk23, zk24, zk25, zk26, zk27, zk28, zk29, zk30, zk31, zk32, zk33, zk34, zk35, zk36, zk37, zk38, zk39, zk40, zk41, zk42, zk43, zk44, zk45, zk46, zk47, zk48, zk49, zk50, zk51, zk52, zk53, zk54, zk55, zk56, zk57, zk58, zk59, zk60, zk61, zk62, zk63, zk64, zk65, zk66, zk67, zk68, zk69, zk70, zk71, zk72, zk73, zk74, zk75, zk76, zk77, zk78, zk79, zk80, zk81, zk82, zk83, zk84, zk85, zk86, zk87, zk88, zk89, zk90, zr2_0, zr2_1, zr2_2, zr2_3, zr2_4, zr2_6, zr2_7, zr2_10, zr2_11, zr2_12, zr1_0, zr1_1, zr14_0, zr14_1, zr14_2, zr14_3, zr14_4, zr14_6, zr14_7, zr14_10, zr14_11, zr14_12, zr13_0, zr25_0, zr25_1, zr25_2, zr25_3, zr25_4, zr25_6, zr25_7, zr25_10, zr25_11, zr25_12, zr13_1, zr1_2, zr37_0, zr1_3, zr39_0, zr39_1, zr39_2, zr39_5, zr39_7, zr39_8, zr1_4, zr46_1, zr46_2, zr46_3, zr46_4, zr46_0, zr1_5, zr51_2, zr51_10, zr51_0, zr51_1, zr54_1, zr54_2, zr54_3, zr1_6, zr58_1, zr58_2, zr58_3, zr58_0, zr1_7, zr62_2, zr62_3, zr62_0, zr62_1, zr1_8, zr1_9, zr1_10, zr1_15, zr68_2, zr68_3, zr68_4, zr68_5, zr68_7, zr68_8, zr68_9, zr68_12, zr68_13, zr68_14, zr68_22, zr68_23, zr68_24, zr68_26, zr68_35, zr68_36, zr68_37, zr68_38, zr68_39, zr68_40, zr68_41, zr68_42, c, w]
      have hS : zSok (zSn D A s bend eh (i - 100) 0 0 0) := h.sok (by omega) (by decide)
      refine wpo_mono (s_send (zSn D A s bend eh (i - 100) 0 0 0) rfl hS yq yl (fun x => absurd x (by decide))) ?_
      intro q ⟨q1, q2, q3⟩
      have hB1 := q1.1
      have hh := zAir_get yq.2.2.2.2 yl.1.1 yl.1.2 yl.2.1
      have lo := zHB_low hh.1
      have e14 := q3.2.2.2.1
      have e15 := q3.2.2.2.2.1
      have e16 := q3.2.2.2.2.2.1
      simp (disch := first | assumption | omega) only [wpo_bind, wpo_some, wpo_gf, wpo_gk, wpo_ld, wpo_pf, wpo_pz, wpo_sd, wpo_sr, wpo_ln, wpo_idv, wpo_irm, wpo_lrm, wpo_ldv, wpo_cpy, mlet, mnar_int, mup_same, mup_cell, mup_slot, ite_true, ite_false, true_and, and_true, eq_self, or_true, true_or, and_self, Int.reduceLT, Int.reduceLE, Int.reduceEq, Int.reduceNe, Int.reduceAdd, Int.reduceSub, Int.reduceMul, Int.reduceNeg, ne_eq, not_false_eq_true, not_true_eq_false, false_or, or_false, zor_inl, zor_inr, false_and, and_false, zk1, zk2, zk3, zk4, zk5, zk6, zk7, zk8, zk9, zk10, zk11, zk12, zk13, zk14, zk15, zk16, zk17, zk18, zk19, zk20, zk21, zk22, zk23, zk24, zk25, zk26, zk27, zk28, zk29, zk30, zk31, zk32, zk33, zk34, zk35, zk36, zk37, zk38, zk39, zk40, zk41, zk42, zk43, zk44, zk45, zk46, zk47, zk48, zk49, zk50, zk51, zk52, zk53, zk54, zk55, zk56, zk57, zk58, zk59, zk60, zk61, zk62, zk63, zk64, zk65, zk66, zk67, zk68, zk69, zk70, zk71, zk72, zk73, zk74, zk75, zk76, zk77, zk78, zk79, zk80, zk81, zk82, zk83, zk84, zk85, zk86, zk87, zk88, zk89, zk90, zr2_0, zr2_1, zr2_2, zr2_3, zr2_4, zr2_6, zr2_7, zr2_10, zr2_11, zr2_12, zr1_0, zr1_1, zr14_0, zr14_1, zr14_2, zr14_3, zr14_4, zr14_6, zr14_7, zr14_10, zr14_11, zr14_12, zr13_0, zr25_0, zr25_1, zr25_2, zr25_3, zr25_4, zr25_6, zr25_7, zr25_10, zr25_11, zr25_12, zr13_1, zr1_2, zr37_0, zr1_3, zr39_0, zr39_1, zr39_2, zr39_5, zr39_7, zr39_8, zr1_4, zr46_1, zr46_2, zr46_3, zr46_4, zr46_0, zr1_5, zr51_2, zr51_10, zr51_0, zr51_1, zr54_1, zr54_2, zr54_3, zr1_6, zr58_1, zr58_2, zr58_3, zr58_0, zr1_7, zr62_2, zr62_3, zr62_0, zr62_1, zr1_8, zr1_9, zr1_10, zr1_15, zr68_2, zr68_3, zr68_4, zr68_5, zr68_7, zr68_8, zr68_9, zr68_12, zr68_13, zr68_14, zr68_22, zr68_23, zr68_24, zr68_26, zr68_35, zr68_36, zr68_37, zr68_38, zr68_39, zr68_40, zr68_41, zr68_42, c, y0, w', e14, e15, e16]
      have k1 := zKc.of_frs hh.1 q2
      have hl1 := yl.fr yq q2
      generalize eX : ((mup (mup (mup q.2.1 59 i (zwh (zSn D A s bend eh (i - 100) 0 0 0))) 60 i (zth (zSn D A s bend eh (i - 100) 0 0 0))) 61 i (zic (zSn D A s bend eh (i - 100) 0 0 0)), q.2.2) : mS) = X
      have fX : ∀ r, r ≠ 59 → r ≠ 60 → r ≠ 61 → X.1 r = q.2.1 r := by
        intro r a1 a2 a3; rw [← eX]; show mup _ _ _ _ r = _; rw [mup_fun a3, mup_fun a2, mup_fun a1]
      have eX2 : X.2 = q.2.2 := by rw [← eX]
      have hBX : zB X := zB_core hB1 (fun r _ => by rw [eX2]) (fun r hr => fX r (fun e => by rw [e] at hr; exact absurd hr (by decide)) (fun e => by rw [e] at hr; exact absurd hr (by decide)) (fun e => by rw [e] at hr; exact absurd hr (by decide)))
      have qX : zCQ D A X := zCQ_scr q1 eX2 hBX (fun r hr => fX r (by omega) (by omega) (by omega))
      have kX : zKc q.2 X := zKc.of_scr eX2 hBX (fun r hr => fX r (by omega) (by omega) (by omega))
      have fq : ∀ r, 59 ≤ r → r ≤ 61 → q.2.1 r = σ'.1 r := fun r a b => q2.2.2.1 r (by omega) (by omega) (by omega) (by omega) (by omega) (by omega)
      refine ⟨n - 1, by omega, by omega, by omega, by omega, (yk.trans k1).trans kX, qX, ?_, ?_⟩
      · obtain ⟨b1, b2, b3, b4, b5, b6, b7, b8, b9⟩ := hl1
        have hh1 := zAir_get q1.2.2.2.2 b1.1 b1.2 b2
        have lo1 := zHB_low hh1.1
        have f51 := fX 51 (by decide) (by decide) (by decide)
        have f47 := fX 47 (by decide) (by decide) (by decide)
        have f48 := fX 48 (by decide) (by decide) (by decide)
        exact ⟨b1, by rw [f47]; exact b2, by rw [f51, f47]; exact b3, by rw [f47, f48, fX _ (by omega) (by omega) (by omega)]; exact b4, by rw [f51]; exact b5, by rw [f51]; exact b6, by rw [f51]; exact b7, by rw [f51]; exact b8, by rw [f51]; exact b9⟩
      · intro j j0 j1
        by_cases cj : j = i
        · rw [cj]; simp [mup]
        · have := ya j j0 (by omega)
          rw [← fq 59 (by decide) (by decide), ← fq 60 (by decide) (by decide), ← fq 61 (by decide) (by decide)] at this
          simp [mup, cj, this]
    · have i201 : i = 201 := by omega
      subst i201
      have l5 := yl.2.2.1
      have l6 := yl.2.2.2.2.1
      have l4 := yl.2.2.2.2.2.2.1
      simp (disch := first | assumption | omega) only [wpo_bind, wpo_some, wpo_gf, wpo_gk, wpo_ld, wpo_pf, wpo_pz, wpo_sd, wpo_sr, wpo_ln, wpo_idv, wpo_irm, wpo_lrm, wpo_ldv, wpo_cpy, mlet, mnar_int, mup_same, mup_cell, mup_slot, ite_true, ite_false, true_and, and_true, eq_self, or_true, true_or, and_self, Int.reduceLT, Int.reduceLE, Int.reduceEq, Int.reduceNe, Int.reduceAdd, Int.reduceSub, Int.reduceMul, Int.reduceNeg, ne_eq, not_false_eq_true, not_true_eq_false, false_or, or_false, zor_inl, zor_inr, false_and, and_false, zk1, zk2, zk3, zk4, zk5, zk6, zk7, zk8, zk9, zk10, zk11, zk12, zk13, zk14, zk15, zk16, zk17, zk18, zk19, zk20, zk21, zk22, zk23, zk24, zk25, zk26, zk27, zk28, zk29, zk30, zk31, zk32, zk33, zk34, zk35, zk36, zk37, zk38, zk39, zk40, zk41, zk42, zk43, zk44, zk45, zk46, zk47, zk48, zk49, zk50, zk51, zk52, zk53, zk54, zk55, zk56, zk57, zk58, zk59, zk60, zk61, zk62, zk63, zk64, zk65, zk66, zk67, zk68, zk69, zk70, zk71, zk72, zk73, zk74, zk75, zk76, zk77, zk78, zk79, zk80, zk81, zk82, zk83, zk84, zk85, zk86, zk87, zk88, zk89, zk90, zr2_0, zr2_1, zr2_2, zr2_3, zr2_4, zr2_6, zr2_7, zr2_10, zr2_11, zr2_12, zr1_0, zr1_1, zr14_0, zr14_1, zr14_2, zr14_3, zr14_4, zr14_6, zr14_7, zr14_10, zr14_11, zr14_12, zr13_0, zr25_0, zr25_1, zr25_2, zr25_3, zr25_4, zr25_6, zr25_7, zr25_10, zr25_11, zr25_12, zr13_1, zr1_2, zr37_0, zr1_3, zr39_0, zr39_1, zr39_2, zr39_5, zr39_7, zr39_8, zr1_4, zr46_1, zr46_2, zr46_3, zr46_4, zr46_0, zr1_5, zr51_2, zr51_10, zr51_0, zr51_1, zr54_1, zr54_2, zr54_3, zr1_6, zr58_1, zr58_2, zr58_3, zr58_0, zr1_7, zr62_2, zr62_3, zr62_0, zr62_1, zr1_8, zr1_9, zr1_10, zr1_15, zr68_2, zr68_3, zr68_4, zr68_5, zr68_7, zr68_8, zr68_9, zr68_12, zr68_13, zr68_14, zr68_22, zr68_23, zr68_24, zr68_26, zr68_35, zr68_36, zr68_37, zr68_38, zr68_39, zr68_40, zr68_41, zr68_42, c, l5, l6, l4]
      generalize eX : ((mup (mup (mup (mup σ'.1 58 4 1) 58 5 (σ'.1 47 s)) 58 6 bend) 58 7 eh, σ'.2) : mS) = X
      have fX : ∀ r, r ≠ 58 → X.1 r = σ'.1 r := by
        intro r a1; rw [← eX]; show mup _ _ _ _ r = _; rw [mup_fun a1, mup_fun a1, mup_fun a1, mup_fun a1]
      have eX2 : X.2 = σ'.2 := by rw [← eX]
      have hBX : zB X := by
        rw [← eX]
        exact zB_mup (zB_mup (zB_mup (zB_mup hB' (by decide +kernel)) (by decide +kernel)) (by decide +kernel)) (by decide +kernel)
      have qX : zCQ D A X := zCQ_scr yq eX2 hBX (fun r hr => fX r (by omega))
      have kX : zKc σ' X := zKc.of_scr eX2 hBX (fun r hr => fX r (by omega))
      have fa : zFA D A s bend eh X := by
        unfold zFA; rw [fX 59 (by decide), fX 60 (by decide), fX 61 (by decide)]; exact ya
      have f47 := fX 47 (by decide)
      refine ⟨⟨⟨qX, hN'.kc kX, Or.inr ⟨by rw [← eX]; simp [mup], s, yl.1.1, yl.1.2, by rw [f47]; exact yl.2.1, by rw [f47, ← eX]; simp [mup], ?_⟩⟩, ?_, h.2.2⟩, yk.trans kX, fa⟩
      · have e6 : X.1 58 6 = bend := by rw [← eX]; simp [mup]
        have e7 : X.1 58 7 = eh := by rw [← eX]; simp [mup]
        rw [e6, e7]; exact fa
      · obtain ⟨b1, b2, b3, b4, b5, b6, b7, b8, b9⟩ := yl
        have hh1 := zAir_get yq.2.2.2.2 b1.1 b1.2 b2
        have lo1 := zHB_low hh1.1
        have f51 := fX 51 (by decide)
        have f48 := fX 48 (by decide)
        exact ⟨b1, by rw [f47]; exact b2, by rw [f51, f47]; exact b3, by rw [f47, f48, fX _ (by omega)]; exact b4, by rw [f51]; exact b5, by rw [f51]; exact b6, by rw [f51]; exact b7, by rw [f51]; exact b8, by rw [f51]; exact b9⟩
  · exact ⟨rfl, Int.le_refl 0, (by show (0 : Int) ≤ 201; decide), zKc.rfl' h.1.1.1, h.1.1, h.2.1, fun i a b => by simp only at b; omega⟩
theorem wpo_nng {x y : Int} {Q : Unit → Prop} : wpo (nng x y) Q ↔ (0 ≤ x ∧ 0 ≤ y) ∧ Q () := by
  unfold nng; constructor
  · rintro ⟨z, h, q⟩; split at h
    · cases h; exact ⟨by assumption, q⟩
    · cases h
  · rintro ⟨h, q⟩; exact ⟨_, if_pos h, q⟩
theorem q_look {D : Int → (Int → Int) → Int} {A : Int → Int} {s bend eh : Int} {σ : mS} (h : zQL D A s bend eh 0 0 σ) :
    wpo (M_Field_look 58 σ) (fun q => zQL D A s bend eh 0 0 q.2 ∧ zKc σ q.2 ∧ zFA D A s bend eh q.2) := by
  have hB := h.1.1.1
  have l5 := h.2.1.2.2.1
  have l6 := h.2.1.2.2.2.2.1
  have l4 := h.2.1.2.2.2.2.2.2.1
  have key := q_look_24 h
  have hh := zAir_get h.1.1.2.2.2.2 h.2.1.1.1 h.2.1.1.2 h.2.1.2.1
  have lo := zHB_low hh.1
  have b0 : 0 ≤ σ.1 47 s := by omega
  unfold M_Field_look
  rcases h.1.2.2 with c | ⟨c, u, u0, u1, un, u5, ua⟩
  · simp (disch := first | assumption | omega) only [wpo_bind, wpo_some, wpo_gf, wpo_gk, wpo_ld, wpo_pf, wpo_pz, wpo_sd, wpo_sr, wpo_ln, wpo_idv, wpo_irm, wpo_lrm, wpo_ldv, wpo_cpy, mlet, mnar_int, mup_same, mup_cell, mup_slot, ite_true, ite_false, true_and, and_true, eq_self, or_true, true_or, and_self, Int.reduceLT, Int.reduceLE, Int.reduceEq, Int.reduceNe, Int.reduceAdd, Int.reduceSub, Int.reduceMul, Int.reduceNeg, ne_eq, not_false_eq_true, not_true_eq_false, false_or, or_false, zor_inl, zor_inr, false_and, and_false, zk1, zk2, zk3, zk4, zk5, zk6, zk7, zk8, zk9, zk10, zk11, zk12, zk13, zk14, zk15, zk16, zk17, zk18, zk19, zk20, zk21, zk22, zk23, zk24, zk25, zk26, zk27, zk28, zk29, zk30, zk31, zk32, zk33, zk34, zk35, zk36, zk37, zk38, zk39, zk40, zk41, zk42, zk43, zk44, zk45, zk46, zk47, zk48, zk49, zk50, zk51, zk52, zk53, zk54, zk55, zk56, zk57, zk58, zk59, zk60, zk61, zk62, zk63, zk64, zk65, zk66, zk67, zk68, zk69, zk70, zk71, zk72, zk73, zk74, zk75, zk76, zk77, zk78, zk79, zk80, zk81, zk82, zk83, zk84, zk85, zk86, zk87, zk88, zk89, zk90, zr2_0, zr2_1, zr2_2, zr2_3, zr2_4, zr2_6, zr2_7, zr2_10, zr2_11, zr2_12, zr1_0, zr1_1, zr14_0, zr14_1, zr14_2, zr14_3, zr14_4, zr14_6, zr14_7, zr14_10, zr14_11, zr14_12, zr13_0, zr25_0, zr25_1, zr25_2, zr25_3, zr25_4, zr25_6, zr25_7, zr25_10, zr25_11, zr25_12, zr13_1, zr1_2, zr37_0, zr1_3, zr39_0, zr39_1, zr39_2, zr39_5, zr39_7, zr39_8, zr1_4, zr46_1, zr46_2, zr46_3, zr46_4, zr46_0, zr1_5, zr51_2, zr51_10, zr51_0, zr51_1, zr54_1, zr54_2, zr54_3, zr1_6, zr58_1, zr58_2, zr58_3, zr58_0, zr1_7, zr62_2, zr62_3, zr62_0, zr62_1, zr1_8, zr1_9, zr1_10, zr1_15, zr68_2, zr68_3, zr68_4, zr68_5, zr68_7, zr68_8, zr68_9, zr68_12, zr68_13, zr68_14, zr68_22, zr68_23, zr68_24, zr68_26, zr68_35, zr68_36, zr68_37, zr68_38, zr68_39, zr68_40, zr68_41, zr68_42, c]
    exact key
  · have c0 : ¬ σ.1 58 4 = 0 := by omega
    have hu := zAir_get h.1.1.2.2.2.2 u0 u1 un
    have lu := zHB_low hu.1
    have bu : 0 ≤ σ.1 47 u := by omega
    by_cases c1 : σ.1 47 u = σ.1 47 s
    · by_cases c2 : σ.1 58 6 = bend
      · by_cases c3 : σ.1 58 7 = eh
        · simp (disch := first | assumption | omega) only [wpo_bind, wpo_some, wpo_gf, wpo_gk, wpo_ld, wpo_pf, wpo_pz, wpo_sd, wpo_sr, wpo_ln, wpo_idv, wpo_irm, wpo_lrm, wpo_ldv, wpo_cpy, mlet, mnar_int, mup_same, mup_cell, mup_slot, ite_true, ite_false, true_and, and_true, eq_self, or_true, true_or, and_self, Int.reduceLT, Int.reduceLE, Int.reduceEq, Int.reduceNe, Int.reduceAdd, Int.reduceSub, Int.reduceMul, Int.reduceNeg, ne_eq, not_false_eq_true, not_true_eq_false, false_or, or_false, zor_inl, zor_inr, false_and, and_false, zk1, zk2, zk3, zk4, zk5, zk6, zk7, zk8, zk9, zk10, zk11, zk12, zk13, zk14, zk15, zk16, zk17, zk18, zk19, zk20, zk21, zk22, zk23, zk24, zk25, zk26, zk27, zk28, zk29, zk30, zk31, zk32, zk33, zk34, zk35, zk36, zk37, zk38, zk39, zk40, zk41, zk42, zk43, zk44, zk45, zk46, zk47, zk48, zk49, zk50, zk51, zk52, zk53, zk54, zk55, zk56, zk57, zk58, zk59, zk60, zk61, zk62, zk63, zk64, zk65, zk66, zk67, zk68, zk69, zk70, zk71, zk72, zk73, zk74, zk75, zk76, zk77, zk78, zk79, zk80, zk81, zk82, zk83, zk84, zk85, zk86, zk87, zk88, zk89, zk90, zr2_0, zr2_1, zr2_2, zr2_3, zr2_4, zr2_6, zr2_7, zr2_10, zr2_11, zr2_12, zr1_0, zr1_1, zr14_0, zr14_1, zr14_2, zr14_3, zr14_4, zr14_6, zr14_7, zr14_10, zr14_11, zr14_12, zr13_0, zr25_0, zr25_1, zr25_2, zr25_3, zr25_4, zr25_6, zr25_7, zr25_10, zr25_11, zr25_12, zr13_1, zr1_2, zr37_0, zr1_3, zr39_0, zr39_1, zr39_2, zr39_5, zr39_7, zr39_8, zr1_4, zr46_1, zr46_2, zr46_3, zr46_4, zr46_0, zr1_5, zr51_2, zr51_10, zr51_0, zr51_1, zr54_1, zr54_2, zr54_3, zr1_6, zr58_1, zr58_2, zr58_3, zr58_0, zr1_7, zr62_2, zr62_3, zr62_0, zr62_1, zr1_8, zr1_9, zr1_10, zr1_15, zr68_2, zr68_3, zr68_4, zr68_5, zr68_7, zr68_8, zr68_9, zr68_12, zr68_13, zr68_14, zr68_22, zr68_23, zr68_24, zr68_26, zr68_35, zr68_36, zr68_37, zr68_38, zr68_39, zr68_40, zr68_41, zr68_42, c, u5, l5, wpo_nng, b0, c1, c2, l6, c3, l4]
          have us : u = s := by
            have a1 := hu.2.1
            have a2 := hh.2.1
            rw [c1] at a1
            omega
          rw [us, c2, c3] at ua
          exact ⟨h, zKc.rfl' hB, ua⟩
        · simp (disch := first | assumption | omega) only [wpo_bind, wpo_some, wpo_gf, wpo_gk, wpo_ld, wpo_pf, wpo_pz, wpo_sd, wpo_sr, wpo_ln, wpo_idv, wpo_irm, wpo_lrm, wpo_ldv, wpo_cpy, mlet, mnar_int, mup_same, mup_cell, mup_slot, ite_true, ite_false, true_and, and_true, eq_self, or_true, true_or, and_self, Int.reduceLT, Int.reduceLE, Int.reduceEq, Int.reduceNe, Int.reduceAdd, Int.reduceSub, Int.reduceMul, Int.reduceNeg, ne_eq, not_false_eq_true, not_true_eq_false, false_or, or_false, zor_inl, zor_inr, false_and, and_false, zk1, zk2, zk3, zk4, zk5, zk6, zk7, zk8, zk9, zk10, zk11, zk12, zk13, zk14, zk15, zk16, zk17, zk18, zk19, zk20, zk21, zk22, zk23, zk24, zk25, zk26, zk27, zk28, zk29, zk30, zk31, zk32, zk33, zk34, zk35, zk36, zk37, zk38, zk39, zk40, zk41, zk42, zk43, zk44, zk45, zk46, zk47, zk48, zk49, zk50, zk51, zk52, zk53, zk54, zk55, zk56, zk57, zk58, zk59, zk60, zk61, zk62, zk63, zk64, zk65, zk66, zk67, zk68, zk69, zk70, zk71, zk72, zk73, zk74, zk75, zk76, zk77, zk78, zk79, zk80, zk81, zk82, zk83, zk84, zk85, zk86, zk87, zk88, zk89, zk90, zr2_0, zr2_1, zr2_2, zr2_3, zr2_4, zr2_6, zr2_7, zr2_10, zr2_11, zr2_12, zr1_0, zr1_1, zr14_0, zr14_1, zr14_2, zr14_3, zr14_4, zr14_6, zr14_7, zr14_10, zr14_11, zr14_12, zr13_0, zr25_0, zr25_1, zr25_2, zr25_3, zr25_4, zr25_6, zr25_7, zr25_10, zr25_11, zr25_12, zr13_1, zr1_2, zr37_0, zr1_3, zr39_0, zr39_1, zr39_2, zr39_5, zr39_7, zr39_8, zr1_4, zr46_1, zr46_2, zr46_3, zr46_4, zr46_0, zr1_5, zr51_2, zr51_10, zr51_0, zr51_1, zr54_1, zr54_2, zr54_3, zr1_6, zr58_1, zr58_2, zr58_3, zr58_0, zr1_7, zr62_2, zr62_3, zr62_0, zr62_1, zr1_8, zr1_9, zr1_10, zr1_15, zr68_2, zr68_3, zr68_4, zr68_5, zr68_7, zr68_8, zr68_9, zr68_12, zr68_13, zr68_14, zr68_22, zr68_23, zr68_24, zr68_26, zr68_35, zr68_36, zr68_37, zr68_38, zr68_39, zr68_40, zr68_41, zr68_42, c, u5, l5, wpo_nng, b0, c1, c2, l6, c3, l4]
          exact key
      · simp (disch := first | assumption | omega) only [wpo_bind, wpo_some, wpo_gf, wpo_gk, wpo_ld, wpo_pf, wpo_pz, wpo_sd, wpo_sr, wpo_ln, wpo_idv, wpo_irm, wpo_lrm, wpo_ldv, wpo_cpy, mlet, mnar_int, mup_same, mup_cell, mup_slot, ite_true, ite_false, true_and, and_true, eq_self, or_true, true_or, and_self, Int.reduceLT, Int.reduceLE, Int.reduceEq, Int.reduceNe, Int.reduceAdd, Int.reduceSub, Int.reduceMul, Int.reduceNeg, ne_eq, not_false_eq_true, not_true_eq_false, false_or, or_false, zor_inl, zor_inr, false_and, and_false, zk1, zk2, zk3, zk4, zk5, zk6, zk7, zk8, zk9, zk10, zk11, zk12, zk13, zk14, zk15, zk16, zk17, zk18, zk19, zk20, zk21, zk22, zk23, zk24, zk25, zk26, zk27, zk28, zk29, zk30, zk31, zk32, zk33, zk34, zk35, zk36, zk37, zk38, zk39, zk40, zk41, zk42, zk43, zk44, zk45, zk46, zk47, zk48, zk49, zk50, zk51, zk52, zk53, zk54, zk55, zk56, zk57, zk58, zk59, zk60, zk61, zk62, zk63, zk64, zk65, zk66, zk67, zk68, zk69, zk70, zk71, zk72, zk73, zk74, zk75, zk76, zk77, zk78, zk79, zk80, zk81, zk82, zk83, zk84, zk85, zk86, zk87, zk88, zk89, zk90, zr2_0, zr2_1, zr2_2, zr2_3, zr2_4, zr2_6, zr2_7, zr2_10, zr2_11, zr2_12, zr1_0, zr1_1, zr14_0, zr14_1, zr14_2, zr14_3, zr14_4, zr14_6, zr14_7, zr14_10, zr14_11, zr14_12, zr13_0, zr25_0, zr25_1, zr25_2, zr25_3, zr25_4, zr25_6, zr25_7, zr25_10, zr25_11, zr25_12, zr13_1, zr1_2, zr37_0, zr1_3, zr39_0, zr39_1, zr39_2, zr39_5, zr39_7, zr39_8, zr1_4, zr46_1, zr46_2, zr46_3, zr46_4, zr46_0, zr1_5, zr51_2, zr51_10, zr51_0, zr51_1, zr54_1, zr54_2, zr54_3, zr1_6, zr58_1, zr58_2, zr58_3, zr58_0, zr1_7, zr62_2, zr62_3, zr62_0, zr62_1, zr1_8, zr1_9, zr1_10, zr1_15, zr68_2, zr68_3, zr68_4, zr68_5, zr68_7, zr68_8, zr68_9, zr68_12, zr68_13, zr68_14, zr68_22, zr68_23, zr68_24, zr68_26, zr68_35, zr68_36, zr68_37, zr68_38, zr68_39, zr68_40, zr68_41, zr68_42, c, u5, l5, wpo_nng, b0, c1, c2, l6]
        exact key
    · simp (disch := first | assumption | omega) only [wpo_bind, wpo_some, wpo_gf, wpo_gk, wpo_ld, wpo_pf, wpo_pz, wpo_sd, wpo_sr, wpo_ln, wpo_idv, wpo_irm, wpo_lrm, wpo_ldv, wpo_cpy, mlet, mnar_int, mup_same, mup_cell, mup_slot, ite_true, ite_false, true_and, and_true, eq_self, or_true, true_or, and_self, Int.reduceLT, Int.reduceLE, Int.reduceEq, Int.reduceNe, Int.reduceAdd, Int.reduceSub, Int.reduceMul, Int.reduceNeg, ne_eq, not_false_eq_true, not_true_eq_false, false_or, or_false, zor_inl, zor_inr, false_and, and_false, zk1, zk2, zk3, zk4, zk5, zk6, zk7, zk8, zk9, zk10, zk11, zk12, zk13, zk14, zk15, zk16, zk17, zk18, zk19, zk20, zk21, zk22, zk23, zk24, zk25, zk26, zk27, zk28, zk29, zk30, zk31, zk32, zk33, zk34, zk35, zk36, zk37, zk38, zk39, zk40, zk41, zk42, zk43, zk44, zk45, zk46, zk47, zk48, zk49, zk50, zk51, zk52, zk53, zk54, zk55, zk56, zk57, zk58, zk59, zk60, zk61, zk62, zk63, zk64, zk65, zk66, zk67, zk68, zk69, zk70, zk71, zk72, zk73, zk74, zk75, zk76, zk77, zk78, zk79, zk80, zk81, zk82, zk83, zk84, zk85, zk86, zk87, zk88, zk89, zk90, zr2_0, zr2_1, zr2_2, zr2_3, zr2_4, zr2_6, zr2_7, zr2_10, zr2_11, zr2_12, zr1_0, zr1_1, zr14_0, zr14_1, zr14_2, zr14_3, zr14_4, zr14_6, zr14_7, zr14_10, zr14_11, zr14_12, zr13_0, zr25_0, zr25_1, zr25_2, zr25_3, zr25_4, zr25_6, zr25_7, zr25_10, zr25_11, zr25_12, zr13_1, zr1_2, zr37_0, zr1_3, zr39_0, zr39_1, zr39_2, zr39_5, zr39_7, zr39_8, zr1_4, zr46_1, zr46_2, zr46_3, zr46_4, zr46_0, zr1_5, zr51_2, zr51_10, zr51_0, zr51_1, zr54_1, zr54_2, zr54_3, zr1_6, zr58_1, zr58_2, zr58_3, zr58_0, zr1_7, zr62_2, zr62_3, zr62_0, zr62_1, zr1_8, zr1_9, zr1_10, zr1_15, zr68_2, zr68_3, zr68_4, zr68_5, zr68_7, zr68_8, zr68_9, zr68_12, zr68_13, zr68_14, zr68_22, zr68_23, zr68_24, zr68_26, zr68_35, zr68_36, zr68_37, zr68_38, zr68_39, zr68_40, zr68_41, zr68_42, c, u5, l5, wpo_nng, b0, bu, c1]
      exact key
