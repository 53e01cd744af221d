/-! THE FIELD of the developers' program; what a question leaves -/
def zSn (D : Int → (Int → Int) → Int) (A : Int → Int) (s bend eh a t sd pa : Int) : zSc := (A, zWd D A s, bend, A 182, eh, a, t, sd, pa)
def zKc (σ σ' : mS) : Prop := zB σ' ∧ (∀ r, r ≤ 46 ∨ r = 48 ∨ r = 52 ∨ r = 62 ∨ 65 ≤ r ∧ r ≤ 90 → σ'.1 r = σ.1 r) ∧
  (∀ b, 90 < b → (b - 91) % 4 = 0 → σ.2.1 b = (4, 4) → b + 3 ≤ σ.2.2.1 → ∀ j, 0 ≤ j → j ≤ 3 → σ'.1 (b + j) = σ.1 (b + j)) ∧ (∀ r, r ≤ σ.2.2.1 → σ'.2.1 r = σ.2.1 r) ∧ σ.2.2.1 ≤ σ'.2.2.1 ∧
  σ'.2.2.1 - σ.2.2.1 = 4 * (zPh (σ'.1 47) 24 - zPh (σ.1 47) 24) ∧ σ'.2.2.2 - σ.2.2.2 = 4164 * (zPh (σ'.1 47) 24 - zPh (σ.1 47) 24)
theorem zKc.rfl' {σ : mS} (h : zB σ) : zKc σ σ := ⟨h, fun _ _ => rfl, fun _ _ _ _ _ _ _ _ => rfl, fun _ _ => rfl, Int.le_refl _, by omega, by omega⟩
theorem zKc.trans {σ σ' σ'' : mS} (h : zKc σ σ') (h' : zKc σ' σ'') : zKc σ σ'' := by
  obtain ⟨a1, a2, a4, a5, a6, a7, a8⟩ := h
  obtain ⟨b1, b2, b4, b5, b6, b7, b8⟩ := h'
  refine ⟨b1, fun r x => (b2 r x).trans (a2 r x), ?_, fun r x => (b5 r (by omega)).trans (a5 r x), by omega, by omega, by omega⟩
  intro b x1 x2 x3 x4 j j0 j3
  rw [b4 b x1 x2 (by rw [a5 b (by omega)]; exact x3) (by omega) j j0 j3]
  exact a4 b x1 x2 x3 x4 j j0 j3
theorem zKc.of_fo {σ σ' : mS} (h : zFo σ σ') : zKc σ σ' := ⟨h.1, fun r x => h.2.1 r (by omega), h.2.2.2.1, h.2.2.2.2.1, h.2.2.2.2.2.1, h.2.2.2.2.2.2.1, h.2.2.2.2.2.2.2⟩
theorem zKc.of_frs {σ σ' : mS} {b : Int} (hb : zHB σ b) (h : zFrs b σ σ') : zKc σ σ' := by
  have lo := zHB_low hb
  obtain ⟨e2, hB, hf, _⟩ := h
  have f47 : σ'.1 47 = σ.1 47 := hf 47 (by decide) (by decide) (by decide) (by decide) (by omega) (by omega)
  refine ⟨hB, fun r x => hf r (by omega) (by omega) (by omega) (by omega) (by omega) (by omega), ?_, fun r _ => by rw [e2], by rw [e2]; exact Int.le_refl _, by rw [e2, f47]; omega, by rw [e2, f47]; omega⟩
  intro r x1 x2 x3 x4 j j0 j3
  have ne : r ≠ b := by intro e; rw [e, hb.2.2.1] at x3; exact absurd x3 (by decide)
  rcases hb.1 with e | e <;> exact hf _ (by omega) (by omega) (by omega) (by omega) (by omega) (by omega)
/-- cells of the eye, the field, the survey alone are written -/
theorem zKc.of_scr {σ σ' : mS} (e2 : σ'.2 = σ.2) (hB : zB σ') (hf : ∀ r, r ≤ 48 ∨ r = 52 ∨ 54 ≤ r ∧ r ≤ 57 ∨ r = 62 ∨ 65 ≤ r → σ'.1 r = σ.1 r) : zKc σ σ' := by
  have f47 : σ'.1 47 = σ.1 47 := hf 47 (by omega)
  exact ⟨hB, fun r x => hf r (by omega), fun r x1 _ _ _ j _ _ => hf _ (by omega), fun r _ => by rw [e2], by rw [e2]; exact Int.le_refl _, by rw [e2, f47]; omega, by rw [e2, f47]; omega⟩
theorem zN.kc {σ σ' : mS} (h : zN σ) (k : zKc σ σ') : zN σ' := by
  obtain ⟨a, b⟩ := h
  have := k.2.2.2.2.1
  have := k.2.2.2.2.2.1
  exact ⟨by omega, by omega⟩
theorem zdif.kc {D : Int → (Int → Int) → Int} {A : Int → Int} {σ σ' : mS} (hq : zCQ D A σ) (k : zKc σ σ') : zdif A σ' = zdif A σ := by
  unfold zdif
  by_cases c : A 187 < 0
  · rw [if_pos c, if_pos c]
  · rw [if_neg c, if_neg c, k.2.1 9 (by omega)]
    have hf := hq.2.1.2.2.2.2.2.2.2.2
    have hl := hq.2.2.2.1 (A 187) (by omega) (by omega)
    have := k.2.2.1 _ hl.1.1 hl.1.2.1 hl.1.2.2.2.1 hl.1.2.2.1 0 (by decide) (by decide)
    rw [Int.add_zero] at this
    exact congrFun this 3
theorem zsh.kc {D : Int → (Int → Int) → Int} {A : Int → Int} {σ σ' : mS} (hq : zCQ D A σ) (k : zKc σ σ') (hr : Int) : zsh A σ' hr = zsh A σ hr := by
  unfold zsh; rw [zdif.kc hq k]
theorem zsh_W {D : Int → (Int → Int) → Int} {A : Int → Int} {σ : mS} (hq : zCQ D A σ) (hr : Int) : zWd D A (zsh A σ hr) = zWd D A hr := by
  unfold zsh
  by_cases c : zdif A σ = 0
  · rw [if_pos c]; funext p i; exact (s_differs hq).2.2 c 0 hr p i
  · rw [if_neg c]
theorem zsh_bd {A : Int → Int} {σ : mS} {hr : Int} (h0 : 0 ≤ hr) (h1 : hr < 24) : 0 ≤ zsh A σ hr ∧ zsh A σ hr < 24 := by
  unfold zsh; split <;> omega
def zFA (D : Int → (Int → Int) → Int) (A : Int → Int) (s bend eh : Int) (σ : mS) : Prop := ∀ i, 0 ≤ i → i < 201 → σ.1 59 i = zwh (zSn D A s bend eh (i - 100) 0 0 0) ∧ σ.1 60 i = zth (zSn D A s bend eh (i - 100) 0 0 0) ∧ σ.1 61 i = zic (zSn D A s bend eh (i - 100) 0 0 0)
def zFd (D : Int → (Int → Int) → Int) (A : Int → Int) (σ : mS) : Prop := σ.1 58 4 = 0 ∨ (σ.1 58 4 = 1 ∧ ∃ s, 0 ≤ s ∧ s < 24 ∧ σ.1 47 s ≠ 0 ∧ σ.1 58 5 = σ.1 47 s ∧ zFA D A s (σ.1 58 6) (σ.1 58 7) σ)
theorem zFd_frame {D : Int → (Int → Int) → Int} {A : Int → Int} {σ σ' : mS} (h : zFd D A σ) (hf : ∀ r, 58 ≤ r → r ≤ 61 → σ'.1 r = σ.1 r) (h47 : ∀ s, σ.1 47 s ≠ 0 → σ'.1 47 s = σ.1 47 s) : zFd D A σ' := by
  have f58 := hf 58 (by decide) (by decide)
  rcases h with h | ⟨h1, s, s0, s1, hn, h5, ha⟩
  · exact Or.inl (by rw [f58]; exact h)
  · refine Or.inr ⟨by rw [f58]; exact h1, s, s0, s1, by rw [h47 s hn]; exact hn, by rw [f58, h47 s hn]; exact h5, ?_⟩
    unfold zFA at ha ⊢
    rw [hf 59 (by decide) (by decide), hf 60 (by decide) (by decide), hf 61 (by decide) (by decide), f58]
    exact ha
def zQ (D : Int → (Int → Int) → Int) (A : Int → Int) (σ : mS) : Prop := zCQ D A σ ∧ zN σ ∧ zFd D A σ
def zQL (D : Int → (Int → Int) → Int) (A : Int → Int) (s bend eh t pa : Int) (σ : mS) : Prop := zQ D A σ ∧ zLt σ s bend (A 182) eh t pa ∧ (0 ≤ bend ∧ bend ≤ 9) ∧ (0 ≤ eh ∧ eh ≤ 31) ∧ (0 ≤ t ∧ t ≤ 50)
theorem zQL.sok {D : Int → (Int → Int) → Int} {A : Int → Int} {s bend eh t pa a sd : Int} {σ : mS} (h : zQL D A s bend eh t pa σ) (ha : -500 ≤ a ∧ a ≤ 500) (hd : 0 ≤ sd ∧ sd ≤ 1000002) : zSok (zSn D A s bend eh a t sd pa) := by
  obtain ⟨⟨hq, _⟩, hl, hb, heh, ht⟩ := h
  exact ⟨hq.2.1, fun p i => zWd_bd hq.2.1 hq.2.2.2.1 s p i, hb, hq.2.1.2.2.2.2.1.2.2.1, heh, ha, ht, hd⟩
def zK2 (σ σ' : mS) : Prop := zKc σ σ' ∧ ∀ r, 58 ≤ r → r ≤ 64 → σ'.1 r = σ.1 r
theorem zK2.rfl' {σ : mS} (h : zB σ) : zK2 σ σ := ⟨zKc.rfl' h, fun _ _ _ => rfl⟩
theorem zK2.trans {σ σ' σ'' : mS} (h : zK2 σ σ') (h' : zK2 σ' σ'') : zK2 σ σ'' := ⟨h.1.trans h'.1, fun r a b => (h'.2 r a b).trans (h.2 r a b)⟩
/-- a RAY, with all that stays -/
theorem q_send {D : Int → (Int → Int) → Int} {A : Int → Int} {s bend eh t pa a sd : Int} {σ : mS} (h : zQL D A s bend eh t pa σ) (ha : -500 ≤ a ∧ a ≤ 500) (hd : 0 ≤ sd ∧ sd ≤ 1000002) (hsd : 0 < t → σ.1 51 9 = sd) :
    wpo (M_Light_send 51 a σ) (fun q => zQL D A s bend eh t pa q.2 ∧ zK2 σ q.2 ∧ zRes (zSn D A s bend eh a t sd pa) q.2) := by
  have hS := h.sok ha hd
  obtain ⟨⟨hq, hN, hF⟩, hl, hb, heh, ht⟩ := h
  have hh := zAir_get hq.2.2.2.2 hl.1.1 hl.1.2 hl.2.1
  have lo := zHB_low hh.1
  refine wpo_mono (s_send _ rfl hS hq hl hsd) ?_
  intro q ⟨h1, h2, h3⟩
  have k := zKc.of_frs hh.1 h2
  have f47 : q.2.1 47 = σ.1 47 := h2.2.2.1 47 (by decide) (by decide) (by decide) (by decide) (by omega) (by omega)
  have ff : ∀ r, 58 ≤ r → r ≤ 64 → q.2.1 r = σ.1 r := fun r a b => h2.2.2.1 r (by omega) (by omega) (by omega) (by omega) (by omega) (by omega)
  exact ⟨⟨⟨h1, hN.kc k, zFd_frame hF (fun r a b => ff r a (by omega)) (fun s _ => by rw [f47])⟩, hl.fr hq h2, hb, heh, ht⟩, ⟨k, ff⟩, h3⟩
theorem q_turnTo {D : Int → (Int → Int) → Int} {A : Int → Int} {hr : Int} {σ : mS} (h : zQ D A σ) (h0 : 0 ≤ hr) (h1 : hr < 24) :
    wpo (M_Light_turnTo 51 hr σ) (fun q => zQ D A q.2 ∧ zK2 σ q.2 ∧ (q.2.1 51 5 = q.2.1 47 (zsh A σ hr) ∧ q.2.1 47 (zsh A σ hr) ≠ 0 ∧ zfresh q.2 (q.2.1 47 (zsh A σ hr))) ∧ ∀ i, i ≠ 5 → q.2.1 51 i = σ.1 51 i) := by
  obtain ⟨hq, hN, hF⟩ := h
  have hB := hq.1
  unfold M_Light_turnTo
  simp (disch := first | assumption | omega) only [wpo_bind, wpo_some, wpo_gf, wpo_gk, wpo_ld, wpo_pf, wpo_pz, wpo_sd, wpo_sr, wpo_ln, wpo_idv, wpo_irm, wpo_lrm, wpo_ldv, wpo_cpy, mlet, mnar_int, mup_same, mup_cell, mup_slot, ite_true, ite_false, true_and, and_true, eq_self, or_true, true_or, and_self, Int.reduceLT, Int.reduceLE, Int.reduceEq, Int.reduceNe, Int.reduceAdd, Int.reduceSub, Int.reduceMul, Int.reduceNeg, ne_eq, not_false_eq_true, not_true_eq_false, false_or, or_false, zor_inl, zor_inr, false_and, and_false, zk1, zk2, zk3, zk4, zk5, zk6, zk7, zk8, zk9, zk10, zk11, zk12, zk13, zk14, zk15, zk16, zk17, zk18, zk19, zk20, zk21, zk22, zk23, zk24, zk25, zk26, zk27, zk28, zk29, zk30, zk31, zk32, zk33, zk34, zk35, zk36, zk37, zk38, zk39, zk40, zk41, zk42, zk43, zk44, zk45, zk46, zk47, zk48, zk49, zk50, zk51, zk52, zk53, zk54, zk55, zk56, zk57, zk58, zk59, zk60, zk61, zk62, zk63, zk64, zk65, zk66, zk67, zk68, zk69, zk70, zk71, zk72, zk73, zk74, zk75, zk76, zk77, zk78, zk79, zk80, zk81, zk82, zk83, zk84, zk85, zk86, zk87, zk88, zk89, zk90, zr2_0, zr2_1, zr2_2, zr2_3, zr2_4, zr2_6, zr2_7, zr2_10, zr2_11, zr2_12, zr1_0, zr1_1, zr14_0, zr14_1, zr14_2, zr14_3, zr14_4, zr14_6, zr14_7, zr14_10, zr14_11, zr14_12, zr13_0, zr25_0, zr25_1, zr25_2, zr25_3, zr25_4, zr25_6, zr25_7, zr25_10, zr25_11, zr25_12, zr13_1, zr1_2, zr37_0, zr1_3, zr39_0, zr39_1, zr39_2, zr39_5, zr39_7, zr39_8, zr1_4, zr46_1, zr46_2, zr46_3, zr46_4, zr46_0, zr1_5, zr51_2, zr51_10, zr51_0, zr51_1, zr54_1, zr54_2, zr54_3, zr1_6, zr58_1, zr58_2, zr58_3, zr58_0, zr1_7, zr62_2, zr62_3, zr62_0, zr62_1, zr1_8, zr1_9, zr1_10, zr1_15, zr68_2, zr68_3, zr68_4, zr68_5, zr68_7, zr68_8, zr68_9, zr68_12, zr68_13, zr68_14, zr68_22, zr68_23, zr68_24, zr68_26, zr68_35, zr68_36, zr68_37, zr68_38, zr68_39, zr68_40, zr68_41, zr68_42]
  refine wpo_mono (s_ofHour hq hN h0 h1) ?_
  intro q ⟨q1, q2, q3, q4, q5⟩
  have hB1 := q1.1
  simp (disch := first | assumption | omega) only [wpo_bind, wpo_some, wpo_gf, wpo_gk, wpo_ld, wpo_pf, wpo_pz, wpo_sd, wpo_sr, wpo_ln, wpo_idv, wpo_irm, wpo_lrm, wpo_ldv, wpo_cpy, mlet, mnar_int, mup_same, mup_cell, mup_slot, ite_true, ite_false, true_and, and_true, eq_self, or_true, true_or, and_self, Int.reduceLT, Int.reduceLE, Int.reduceEq, Int.reduceNe, Int.reduceAdd, Int.reduceSub, Int.reduceMul, Int.reduceNeg, ne_eq, not_false_eq_true, not_true_eq_false, false_or, or_false, zor_inl, zor_inr, false_and, and_false, zk1, zk2, zk3, zk4, zk5, zk6, zk7, zk8, zk9, zk10, zk11, zk12, zk13, zk14, zk15, zk16, zk17, zk18, zk19, zk20, zk21, zk22, zk23, zk24, zk25, zk26, zk27, zk28, zk29, zk30, zk31, zk32, zk33, zk34, zk35, zk36, zk37, zk38, zk39, zk40, zk41, zk42, zk43, zk44, zk45, zk46, zk47, zk48, zk49, zk50, zk51, zk52, zk53, zk54, zk55, zk56, zk57, zk58, zk59, zk60, zk61, zk62, zk63, zk64, zk65, zk66, zk67, zk68, zk69, zk70, zk71, zk72, zk73, zk74, zk75, zk76, zk77, zk78, zk79, zk80, zk81, zk82, zk83, zk84, zk85, zk86, zk87, zk88, zk89, zk90, zr2_0, zr2_1, zr2_2, zr2_3, zr2_4, zr2_6, zr2_7, zr2_10, zr2_11, zr2_12, zr1_0, zr1_1, zr14_0, zr14_1, zr14_2, zr14_3, zr14_4, zr14_6, zr14_7, zr14_10, zr14_11, zr14_12, zr13_0, zr25_0, zr25_1, zr25_2, zr25_3, zr25_4, zr25_6, zr25_7, zr25_10, zr25_11, zr25_12, zr13_1, zr1_2, zr37_0, zr1_3, zr39_0, zr39_1, zr39_2, zr39_5, zr39_7, zr39_8, zr1_4, zr46_1, zr46_2, zr46_3, zr46_4, zr46_0, zr1_5, zr51_2, zr51_10, zr51_0, zr51_1, zr54_1, zr54_2, zr54_3, zr1_6, zr58_1, zr58_2, zr58_3, zr58_0, zr1_7, zr62_2, zr62_3, zr62_0, zr62_1, zr1_8, zr1_9, zr1_10, zr1_15, zr68_2, zr68_3, zr68_4, zr68_5, zr68_7, zr68_8, zr68_9, zr68_12, zr68_13, zr68_14, zr68_22, zr68_23, zr68_24, zr68_26, zr68_35, zr68_36, zr68_37, zr68_38, zr68_39, zr68_40, zr68_41, zr68_42]
  have f51 : q.2.1 51 = σ.1 51 := q2.2.1 51 (by omega)
  have q6 : zCQ D A (mup q.2.1 51 5 q.1, q.2.2) := zCQ_slot q1 (by decide +kernel)
  have k : zKc q.2 (mup q.2.1 51 5 q.1, q.2.2) := zKc.of_scr rfl q6.1 (fun r hr => mup_fun (by omega))
  have k2 := (zKc.of_fo q2).trans k
  have f2 : ∀ r, r ≠ 51 → mup q.2.1 51 5 q.1 r = q.2.1 r := fun r hr => mup_fun hr
  refine ⟨⟨q6, hN.kc k2, zFd_frame hF (fun r a b => ?_) (fun s hs => ?_)⟩, ⟨k2, fun r a b => ?_⟩, ⟨?_, ?_, ?_⟩, ?_⟩
  · show mup q.2.1 51 5 q.1 r = σ.1 r
    rw [f2 r (by omega)]; exact q2.2.1 r (by omega)
  · show mup q.2.1 51 5 q.1 47 s = σ.1 47 s
    rw [f2 47 (by decide)]; exact q2.2.2.1 s hs
  · show mup q.2.1 51 5 q.1 r = σ.1 r
    rw [f2 r (by omega)]; exact q2.2.1 r (by omega)
  · show q.1 = mup q.2.1 51 5 q.1 47 _
    rw [f2 47 (by decide)]; exact q3.symm
  · show mup q.2.1 51 5 q.1 47 _ ≠ 0
    rw [f2 47 (by decide), q3]; exact q4
  · rw [q3]
    intro p p0 p1
    have hh := zAir_get q1.2.2.2.2 (zsh_bd h0 h1).1 (zsh_bd (A := A) (σ := σ) h0 h1).2 (by rw [q3]; exact q4)
    rw [q3] at hh
    have lo := zHB_low hh.1
    show mup q.2.1 51 5 q.1 (q.1 + 3) p = mup q.2.1 51 5 q.1 48 p
    rw [f2 _ (by omega), f2 48 (by decide)]; exact q5 p p0 p1
  · intro i hi
    rw [mup_slot hi, f51]
