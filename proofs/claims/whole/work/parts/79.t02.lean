noncomputable section
/-- what a trembling leaves -/
def zKt (σ σ' : mS) : Prop := zB σ' ∧ (∀ r, r ≤ 46 ∨ r = 48 ∨ r = 52 ∨ r = 62 ∨ 67 ≤ r ∧ r ≤ 90 → σ'.1 r = σ.1 r) ∧
  (∀ b, 90 < b → (b - 91) % 4 = 0 → σ.2.1 b = (4, 4) → b + 3 ≤ σ.2.2.1 → ∀ j, 0 ≤ j → j ≤ 3 → σ'.1 (b + j) = σ.1 (b + j)) ∧ (∀ r, r ≤ σ.2.2.1 → σ'.2.1 r = σ.2.1 r) ∧ σ.2.2.1 ≤ σ'.2.2.1 ∧
  σ'.2.2.1 - σ.2.2.1 = 4 * (zPh (σ'.1 47) 24 - zPh (σ.1 47) 24) ∧ σ'.2.2.2 - σ.2.2.2 = 4164 * (zPh (σ'.1 47) 24 - zPh (σ.1 47) 24)
theorem zKt.of_kc {σ σ' : mS} (h : zKc σ σ') : zKt σ σ' := ⟨h.1, fun r x => h.2.1 r (by omega), h.2.2⟩
theorem zKt.trans {σ σ' σ'' : mS} (h : zKt σ σ') (h' : zKt σ' σ'') : zKt σ σ'' := by
  obtain ⟨a1, a2, a4, a5, a6, a7, a8⟩ := h
  obtain ⟨b1, b2, b4, b5, b6, b7, b8⟩ := h'
  refine ⟨b1, fun r x => (b2 r x).trans (a2 r x), ?_, fun r x => (b5 r (by omega)).trans (a5 r x), by omega, by omega, by omega⟩
  intro b x1 x2 x3 x4 j j0 j3
  rw [b4 b x1 x2 (by rw [a5 b (by omega)]; exact x3) (by omega) j j0 j3]
  exact a4 b x1 x2 x3 x4 j j0 j3
theorem zKt.of_tr {σ σ' : mS} (hB : zB σ') (e2 : σ'.2 = σ.2) (hf : ∀ r, r ≠ 65 → r ≠ 66 → σ'.1 r = σ.1 r) : zKt σ σ' := by
  have f47 := hf 47 (by decide) (by decide)
  exact ⟨hB, fun r x => hf r (by omega) (by omega), fun b x1 _ _ _ j _ _ => hf _ (by omega) (by omega), fun r _ => by rw [e2], by rw [e2]; exact Int.le_refl _, by rw [e2, f47]; omega, by rw [e2, f47]; omega⟩
set_option maxHeartbeats 4000000 in
theorem t_tremble {D : Int → (Int → Int) → Int} {A : Int → Int} {s a t seed : Int} {n : Nat} {σ : mS} (es : zSn D A s = zSn D A (A 180)) (h : zQL D A s (A 181) (A 183) t 0 σ) (ha : -500 ≤ a ∧ a ≤ 500) (hs : 0 ≤ seed ∧ seed ≤ 1000000) (hn : n ≤ 40) (hsd : 0 < t → σ.1 51 9 = seed) (Q : Int × mS → Prop)
    (hfin : ∀ σ' : mS, zQL D A s (A 181) (A 183) t 0 σ' → zKt σ σ' → (∀ i : Nat, i < n → σ'.1 65 i = zwh (ztR D A a t seed i) ∧ σ'.1 66 i = zpl (ztR D A a t seed i)) → (∀ i : Int, n ≤ i → σ'.1 65 i = σ.1 65 i ∧ σ'.1 66 i = σ.1 66 i) → wpo (B_RW_tremble_49 1 a n (zwh (zS0 D A a)) (zth (zS0 D A a)) (zit (ztG D A a t seed) 0 n) n σ') (zor (fun _ => False) Q)) :
    wpo (M_RW_tremble_49 1 a n (zwh (zS0 D A a)) (zth (zS0 D A a)) 0 0 σ) Q := by
  have hbd := ztS_bd (D := D) (a := a) (t := t) (seed := seed) h.1.1.2.1 (fun s p i => zWd_bd h.1.1.2.1 h.1.1.2.2.2.1 s p i) ha h.2.2.2.2 hs
  unfold M_RW_tremble_49
  refine loopH (fun k x y => y.1 = x ∧ y.2.1 = (k : Int) ∧ zQL D A s (A 181) (A 183) t 0 y.2.2 ∧ zKt σ y.2.2 ∧ (0 < t → y.2.2.1 51 9 = ztS D A a t seed k) ∧ (∀ i : Nat, i < k → y.2.2.1 65 i = zwh (ztR D A a t seed i) ∧ y.2.2.1 66 i = zpl (ztR D A a t seed i)) ∧ (∀ i : Int, k ≤ i → y.2.2.1 65 i = σ.1 65 i ∧ y.2.2.1 66 i = σ.1 66 i)) (ztG D A a t seed) 0 n Q _ (by omega) ⟨rfl, rfl, h, zKt.of_kc (zKc.rfl' h.1.1.1), hsd, fun i hi => absurd hi (Nat.not_lt_zero _), fun i _ => ⟨rfl, rfl⟩⟩ ?_ ?_
  · intro k x y hk hx ⟨y1, y2, y3, y4, y5, y6, y7⟩
    obtain ⟨l7, l8, σ'⟩ := y
    simp only at y1 y2 y3 y4 y5 y6 y7
    subst y1; subst y2
    have bx := zit_cnt (g := ztG D A a t seed) (fun k x => by unfold ztG; split <;> omega) 0 k
    rw [← hx] at bx
    clear hx
    have hB' := y3.1.1.1
    have c : (k : Int) < (n : Int) := by omega
    have c0 : (0 : Int) ≤ k := by omega
    have c40 : (k : Int) < 40 := by omega
    have w : w32 ((k : Int) + 1) = ((k + 1 : Nat) : Int) := by rw [w32_in (by omega) (by omega)]; omega
    show wpo (B_RW_tremble_49 1 a n (zwh (zS0 D A a)) (zth (zS0 D A a)) l7 k σ') _
    obtain ⟨PF, ePF, fPF⟩ : ∃ PF : Int → mS → Prop, (∀ v σ2, (v = ztG D A a t seed k l7 ∧ zQL D A s (A 181) (A 183) t 0 σ2 ∧ zKt σ σ2 ∧ (0 < t → σ2.1 51 9 = ztS D A a t seed (k + 1)) ∧ (∀ i : Nat, i < k + 1 → σ2.1 65 i = zwh (ztR D A a t seed i) ∧ σ2.1 66 i = zpl (ztR D A a t seed i)) ∧ (∀ i : Int, ((k + 1 : Nat) : Int) ≤ i → σ2.1 65 i = σ.1 65 i ∧ σ2.1 66 i = σ.1 66 i)) → PF v σ2) ∧ (∀ v σ2, PF v σ2 → (v = ztG D A a t seed k l7 ∧ zQL D A s (A 181) (A 183) t 0 σ2 ∧ zKt σ σ2 ∧ (0 < t → σ2.1 51 9 = ztS D A a t seed (k + 1)) ∧ (∀ i : Nat, i < k + 1 → σ2.1 65 i = zwh (ztR D A a t seed i) ∧ σ2.1 66 i = zpl (ztR D A a t seed i)) ∧ (∀ i : Int, ((k + 1 : Nat) : Int) ≤ i → σ2.1 65 i = σ.1 65 i ∧ σ2.1 66 i = σ.1 66 i))) := ⟨fun v σ2 => v = ztG D A a t seed k l7 ∧ zQL D A s (A 181) (A 183) t 0 σ2 ∧ zKt σ σ2 ∧ (0 < t → σ2.1 51 9 = ztS D A a t seed (k + 1)) ∧ (∀ i : Nat, i < k + 1 → σ2.1 65 i = zwh (ztR D A a t seed i) ∧ σ2.1 66 i = zpl (ztR D A a t seed i)) ∧ (∀ i : Int, ((k + 1 : Nat) : Int) ≤ i → σ2.1 65 i = σ.1 65 i ∧ σ2.1 66 i = σ.1 66 i), fun _ _ h => h, fun _ _ h => h⟩
    refine wpo_mono (Q := fun z : (Int × Int × mS) ⊕ (Int × mS) => ∃ (σ2 : mS) (v : Int), PF v σ2 ∧ z = Sum.inl (v, ((k + 1 : Nat) : Int), σ2)) ?_ (fun z hz => by
      obtain ⟨σ2, v, pf, ez⟩ := hz
      rw [ez]
      have := fPF v σ2 pf
      exact ⟨this.1, rfl, this.2⟩)
    unfold B_RW_tremble_49
    (try simp (disch := first | assumption | omega) only [wpo_bind, wpo_some, wpo_gf, wpo_gk, wpo_ld, wpo_pf, wpo_pz, wpo_sd, wpo_sr, wpo_ln, wpo_idv, wpo_irm, wpo_lrm, wpo_ldv, wpo_cpy, mlet, mnar_int, mup_same, mup_cell, mup_slot, ite_true, ite_false, true_and, and_true, eq_self, or_true, true_or, and_self, Int.reduceLT, Int.reduceLE, Int.reduceEq, Int.reduceNe, Int.reduceAdd, Int.reduceSub, Int.reduceMul, Int.reduceNeg, ne_eq, not_false_eq_true, not_true_eq_false, false_or, or_false, zor_inl, zor_inr, Bool.false_eq_true, false_and, and_false, zk1, zk2, zk3, zk4, zk5, zk6, zk7, zk8, zk9, zk10, zk11, zk12, zk13, zk14, zk15, zk16, zk17, zk18, zk19, zk20, zk21, zk22, zk23, zk24, zk25, zk26, zk27, zk28, zk29, zk30, zk31, zk32, zk33, zk34, zk35, zk36, zk37, zk38, zk39, zk40, zk41, zk42, zk43, zk44, zk45, zk46, zk47, zk48, zk49, zk50, zk51, zk52, zk53, zk54, zk55, zk56, zk57, zk58, zk59, zk60, zk61, zk62, zk63, zk64, zk65, zk66, zk67, zk68, zk69, zk70, zk71, zk72, zk73, zk74, zk75, zk76, zk77, zk78, zk79, zk80, zk81, zk82, zk83, zk84, zk85, zk86, zk87, zk88, zk89, zk90, zr2_0, zr2_1, zr2_2, zr2_3, zr2_4, zr2_6, zr2_7, zr2_10, zr2_11, zr2_12, zr1_0, zr1_1, zr14_0, zr14_1, zr14_2, zr14_3, zr14_4, zr14_6, zr14_7, zr14_10, zr14_11, zr14_12, zr13_0, zr25_0, zr25_1, zr25_2, zr25_3, zr25_4, zr25_6, zr25_7, zr25_10, zr25_11, zr25_12, zr13_1, zr1_2, zr37_0, zr1_3, zr39_0, zr39_1, zr39_2, zr39_5, zr39_7, zr39_8, zr1_4, zr46_1, zr46_2, zr46_3, zr46_4, zr46_0, zr1_5, zr51_2, zr51_10, zr51_0, zr51_1, zr54_1, zr54_2, zr54_3, zr1_6, zr58_1, zr58_2, zr58_3, zr58_0, zr1_7, zr62_2, zr62_3, zr62_0, zr62_1, zr1_8, zr1_9, zr1_10, zr1_15, zr68_2, zr68_3, zr68_4, zr68_5, zr68_7, zr68_8, zr68_9, zr68_12, zr68_13, zr68_14, zr68_22, zr68_23, zr68_24, zr68_26, zr68_35, zr68_36, zr68_37, zr68_38, zr68_39, zr68_40, zr68_41, zr68_42, c])
    refine wpo_mono (q_send (sd := ztS D A a t seed k) y3 ha (hbd k).1 y5) ?_
    intro q ⟨q1, qk, qr⟩
    rw [es] at qr
    have qr' : zRes (ztR D A a t seed k) q.2 := qr
    have hBq := q1.1.1.1
    have e14 := qr'.2.2.2.1
    have e15 := qr'.2.2.2.2.1
    have e11 := qr'.1
    have eX2 : ((mup (mup q.2.1 65 k (zwh (ztR D A a t seed k))) 66 k (zpl (ztR D A a t seed k)), q.2.2) : mS).2 = q.2.2 := rfl
    have fX : ∀ r, r ≠ 65 → r ≠ 66 → mup (mup q.2.1 65 k (zwh (ztR D A a t seed k))) 66 k (zpl (ztR D A a t seed k)) r = q.2.1 r := fun r x1 x2 => by rw [mup_fun x2, mup_fun x1]
    have qX := q1.tr (σ' := (mup (mup q.2.1 65 k (zwh (ztR D A a t seed k))) 66 k (zpl (ztR D A a t seed k)), q.2.2)) rfl fX
    have kX : zKt q.2 (mup (mup q.2.1 65 k (zwh (ztR D A a t seed k))) 66 k (zpl (ztR D A a t seed k)), q.2.2) := zKt.of_tr qX.1.1.1 rfl fX
    have k65 : q.2.1 65 = σ'.1 65 := qk.1.2.1 65 (by omega)
    have k66 : q.2.1 66 = σ'.1 66 := qk.1.2.1 66 (by omega)
    have res : ∀ v : Int, v = ztG D A a t seed k l7 → PF v (mup (mup q.2.1 65 k (zwh (ztR D A a t seed k))) 66 k (zpl (ztR D A a t seed k)), q.2.2) := by
      intro v ev
      refine ePF _ _ ⟨ev, qX, (y4.trans (zKt.of_kc qk.1)).trans kX, ?_, ?_, ?_⟩
      · intro ht
        exact (congrFun (fX 51 (by decide) (by decide)) 9).trans (qr'.2.2.2.2.2.2.2 ht)
      · intro i hi
        show mup (mup q.2.1 65 k (zwh (ztR D A a t seed k))) 66 k (zpl (ztR D A a t seed k)) 65 i = _ ∧ mup (mup q.2.1 65 k (zwh (ztR D A a t seed k))) 66 k (zpl (ztR D A a t seed k)) 66 i = _
        by_cases ci : i = k
        · subst ci
          rw [mup_cell (by decide), mup_same, mup_same]
          exact ⟨rfl, rfl⟩
        · have ne : (i : Int) ≠ (k : Int) := by omega
          rw [mup_cell (by decide), mup_slot ne, mup_slot ne, mup_cell (by decide), k65, k66]
          exact y6 i (by omega)
      · intro i hi
        show mup (mup q.2.1 65 k (zwh (ztR D A a t seed k))) 66 k (zpl (ztR D A a t seed k)) 65 i = _ ∧ mup (mup q.2.1 65 k (zwh (ztR D A a t seed k))) 66 k (zpl (ztR D A a t seed k)) 66 i = _
        have ne : i ≠ (k : Int) := by omega
        rw [mup_cell (by decide), mup_slot ne, mup_slot ne, mup_cell (by decide), k65, k66]
        exact y7 i (by omega)
    have w1 := (w32_01 bx (show k < 1000 by clear w; omega)).1
    clear bx
    unfold ztG at res
    by_cases d1 : zwh (ztR D A a t seed k) = zwh (zS0 D A a)
    · by_cases d2 : zth (ztR D A a t seed k) = zth (zS0 D A a)
      · (try simp (disch := first | assumption | omega) only [wpo_bind, wpo_some, wpo_gf, wpo_gk, wpo_ld, wpo_pf, wpo_pz, wpo_sd, wpo_sr, wpo_ln, wpo_idv, wpo_irm, wpo_lrm, wpo_ldv, wpo_cpy, mlet, mnar_int, mup_same, mup_cell, mup_slot, ite_true, ite_false, true_and, and_true, eq_self, or_true, true_or, and_self, Int.reduceLT, Int.reduceLE, Int.reduceEq, Int.reduceNe, Int.reduceAdd, Int.reduceSub, Int.reduceMul, Int.reduceNeg, ne_eq, not_false_eq_true, not_true_eq_false, false_or, or_false, zor_inl, zor_inr, Bool.false_eq_true, false_and, and_false, zk1, zk2, zk3, zk4, zk5, zk6, zk7, zk8, zk9, zk10, zk11, zk12, zk13, zk14, zk15, zk16, zk17, zk18, zk19, zk20, zk21, zk22, zk23, zk24, zk25, zk26, zk27, zk28, zk29, zk30, zk31, zk32, zk33, zk34, zk35, zk36, zk37, zk38, zk39, zk40, zk41, zk42, zk43, zk44, zk45, zk46, zk47, zk48, zk49, zk50, zk51, zk52, zk53, zk54, zk55, zk56, zk57, zk58, zk59, zk60, zk61, zk62, zk63, zk64, zk65, zk66, zk67, zk68, zk69, zk70, zk71, zk72, zk73, zk74, zk75, zk76, zk77, zk78, zk79, zk80, zk81, zk82, zk83, zk84, zk85, zk86, zk87, zk88, zk89, zk90, zr2_0, zr2_1, zr2_2, zr2_3, zr2_4, zr2_6, zr2_7, zr2_10, zr2_11, zr2_12, zr1_0, zr1_1, zr14_0, zr14_1, zr14_2, zr14_3, zr14_4, zr14_6, zr14_7, zr14_10, zr14_11, zr14_12, zr13_0, zr25_0, zr25_1, zr25_2, zr25_3, zr25_4, zr25_6, zr25_7, zr25_10, zr25_11, zr25_12, zr13_1, zr1_2, zr37_0, zr1_3, zr39_0, zr39_1, zr39_2, zr39_5, zr39_7, zr39_8, zr1_4, zr46_1, zr46_2, zr46_3, zr46_4, zr46_0, zr1_5, zr51_2, zr51_10, zr51_0, zr51_1, zr54_1, zr54_2, zr54_3, zr1_6, zr58_1, zr58_2, zr58_3, zr58_0, zr1_7, zr62_2, zr62_3, zr62_0, zr62_1, zr1_8, zr1_9, zr1_10, zr1_15, zr68_2, zr68_3, zr68_4, zr68_5, zr68_7, zr68_8, zr68_9, zr68_12, zr68_13, zr68_14, zr68_22, zr68_23, zr68_24, zr68_26, zr68_35, zr68_36, zr68_37, zr68_38, zr68_39, zr68_40, zr68_41, zr68_42, c0, c40, e14, e15, e11, d1, d2, w, w1])
        exact ⟨_, _, (by have r0 := res (l7 + 1) (by rw [if_pos ⟨d1, d2⟩]); rw [d1] at r0; exact r0), rfl⟩
      · (try simp (disch := first | assumption | omega) only [wpo_bind, wpo_some, wpo_gf, wpo_gk, wpo_ld, wpo_pf, wpo_pz, wpo_sd, wpo_sr, wpo_ln, wpo_idv, wpo_irm, wpo_lrm, wpo_ldv, wpo_cpy, mlet, mnar_int, mup_same, mup_cell, mup_slot, ite_true, ite_false, true_and, and_true, eq_self, or_true, true_or, and_self, Int.reduceLT, Int.reduceLE, Int.reduceEq, Int.reduceNe, Int.reduceAdd, Int.reduceSub, Int.reduceMul, Int.reduceNeg, ne_eq, not_false_eq_true, not_true_eq_false, false_or, or_false, zor_inl, zor_inr, Bool.false_eq_true, false_and, and_false, zk1, zk2, zk3, zk4, zk5, zk6, zk7, zk8, zk9, zk10, zk11, zk12, zk13, zk14, zk15, zk16, zk17, zk18, zk19, zk20, zk21, zk22, zk23, zk24, zk25, zk26, zk27, zk28, zk29, zk30, zk31, zk32, zk33, zk34, zk35, zk36, zk37, zk38, zk39, zk40, zk41, zk42, zk43, zk44, zk45, zk46, zk47, zk48, zk49, zk50, zk51, zk52, zk53, zk54, zk55, zk56, zk57, zk58, zk59, zk60, zk61, zk62, zk63, zk64, zk65, zk66, zk67, zk68, zk69, zk70, zk71, zk72, zk73, zk74, zk75, zk76, zk77, zk78, zk79, zk80, zk81, zk82, zk83, zk84, zk85, zk86, zk87, zk88, zk89, zk90, zr2_0, zr2_1, zr2_2, zr2_3, zr2_4, zr2_6, zr2_7, zr2_10, zr2_11, zr2_12, zr1_0, zr1_1, zr14_0, zr14_1, zr14_2, zr14_3, zr14_4, zr14_6, zr14_7, zr14_10, zr14_11, zr14_12, zr13_0, zr25_0, zr25_1, zr25_2, zr25_3, zr25_4, zr25_6, zr25_7, zr25_10, zr25_11, zr25_12, zr13_1, zr1_2, zr37_0, zr1_3, zr39_0, zr39_1, zr39_2, zr39_5, zr39_7, zr39_8, zr1_4, zr46_1, zr46_2, zr46_3, zr46_4, zr46_0, zr1_5, zr51_2, zr51_10, zr51_0, zr51_1, zr54_1, zr54_2, zr54_3, zr1_6, zr58_1, zr58_2, zr58_3, zr58_0, zr1_7, zr62_2, zr62_3, zr62_0, zr62_1, zr1_8, zr1_9, zr1_10, zr1_15, zr68_2, zr68_3, zr68_4, zr68_5, zr68_7, zr68_8, zr68_9, zr68_12, zr68_13, zr68_14, zr68_22, zr68_23, zr68_24, zr68_26, zr68_35, zr68_36, zr68_37, zr68_38, zr68_39, zr68_40, zr68_41, zr68_42, c0, c40, e14, e15, e11, d1, d2, w])
        exact ⟨_, _, (by have r0 := res l7 (by rw [if_neg (fun x => d2 x.2)]); rw [d1] at r0; exact r0), rfl⟩
    · (try simp (disch := first | assumption | omega) only [wpo_bind, wpo_some, wpo_gf, wpo_gk, wpo_ld, wpo_pf, wpo_pz, wpo_sd, wpo_sr, wpo_ln, wpo_idv, wpo_irm, wpo_lrm, wpo_ldv, wpo_cpy, mlet, mnar_int, mup_same, mup_cell, mup_slot, ite_true, ite_false, true_and, and_true, eq_self, or_true, true_or, and_self, Int.reduceLT, Int.reduceLE, Int.reduceEq, Int.reduceNe, Int.reduceAdd, Int.reduceSub, Int.reduceMul, Int.reduceNeg, ne_eq, not_false_eq_true, not_true_eq_false, false_or, or_false, zor_inl, zor_inr, Bool.false_eq_true, false_and, and_false, zk1, zk2, zk3, zk4, zk5, zk6, zk7, zk8, zk9, zk10, zk11, zk12, zk13, zk14, zk15, zk16, zk17, zk18, zk19, zk20, zk21, zk22, zk23, zk24, zk25, zk26, zk27, zk28, zk29, zk30, zk31, zk32, zk33, zk34, zk35, zk36, zk37, zk38, zk39, zk40, zk41, zk42, zk43, zk44, zk45, zk46, zk47, zk48, zk49, zk50, zk51, zk52, zk53, zk54, zk55, zk56, zk57, zk58, zk59, zk60, zk61, zk62, zk63, zk64, zk65, zk66, zk67, zk68, zk69, zk70, zk71, zk72, zk73, zk74, zk75, zk76, zk77, zk78, zk79, zk80, zk81, zk82, zk83, zk84, zk85, zk86, zk87, zk88, zk89, zk90, zr2_0, zr2_1, zr2_2, zr2_3, zr2_4, zr2_6, zr2_7, zr2_10, zr2_11, zr2_12, zr1_0, zr1_1, zr14_0, zr14_1, zr14_2, zr14_3, zr14_4, zr14_6, zr14_7, zr14_10, zr14_11, zr14_12, zr13_0, zr25_0, zr25_1, zr25_2, zr25_3, zr25_4, zr25_6, zr25_7, zr25_10, zr25_11, zr25_12, zr13_1, zr1_2, zr37_0, zr1_3, zr39_0, zr39_1, zr39_2, zr39_5, zr39_7, zr39_8, zr1_4, zr46_1, zr46_2, zr46_3, zr46_4, zr46_0, zr1_5, zr51_2, zr51_10, zr51_0, zr51_1, zr54_1, zr54_2, zr54_3, zr1_6, zr58_1, zr58_2, zr58_3, zr58_0, zr1_7, zr62_2, zr62_3, zr62_0, zr62_1, zr1_8, zr1_9, zr1_10, zr1_15, zr68_2, zr68_3, zr68_4, zr68_5, zr68_7, zr68_8, zr68_9, zr68_12, zr68_13, zr68_14, zr68_22, zr68_23, zr68_24, zr68_26, zr68_35, zr68_36, zr68_37, zr68_38, zr68_39, zr68_40, zr68_41, zr68_42, c0, c40, e14, e11, d1, w])
      exact ⟨_, _, res l7 (by rw [if_neg (fun x => d1 x.1)]), rfl⟩
  · intro x y hx ⟨y1, y2, y3, y4, y5, y6, y7⟩
    obtain ⟨l7, l8, σ'⟩ := y
    simp only at y1 y2 y3 y4 y5 y6 y7
    subst y1; subst y2
    rw [hx]
    exact hfin σ' y3 y4 y6 y7
end
