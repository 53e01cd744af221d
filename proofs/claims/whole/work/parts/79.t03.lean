noncomputable section
/-- what a trembling leaves of the reference -/
def zKn (σ σ' : mS) : Prop := σ'.2 = σ.2 ∧ zB σ' ∧ (∀ r, r ≤ 67 ∨ 69 ≤ r ∧ r ≤ 78 ∨ 91 ≤ r → σ'.1 r = σ.1 r) ∧ (∀ i, i ≤ 18 ∨ i = 22 ∨ i = 23 ∨ i = 24 ∨ i = 26 ∨ 35 ≤ i → σ'.1 68 i = σ.1 68 i)
theorem zKn.of_km {σ σ' : mS} (h : zKm σ σ') : zKn σ σ' := ⟨h.1, h.2.1, fun r x => h.2.2.1 r (by omega), h.2.2.2⟩
theorem zKn.trans {σ σ' σ'' : mS} (h : zKn σ σ') (h' : zKn σ' σ'') : zKn σ σ'' := ⟨h'.1.trans h.1, h'.2.1, fun r x => (h'.2.2.1 r x).trans (h.2.2.1 r x), fun i x => (h'.2.2.2 i x).trans (h.2.2.2 i x)⟩
theorem zMQ.tr {D : Int → (Int → Int) → Int} {A : Int → Int} {σ σ' : mS} (h : zMQ D A σ) (e2 : σ'.2 = σ.2) (hf : ∀ r, r ≠ 89 → r ≠ 90 → σ'.1 r = σ.1 r) : zMQ D A σ' ∧ zKn σ σ' := by
  obtain ⟨hB, hW, hb', hA, hM, hv, hc⟩ := h
  have hB' : zB σ' := zB_core hB (fun r _ => by rw [e2]) (fun r hr => hf r (fun e => by rw [e] at hr; exact absurd hr (by decide)) (fun e => by rw [e] at hr; exact absurd hr (by decide)))
  have f68 := hf 68 (by decide) (by decide)
  exact ⟨⟨hB', hW, hb', by rw [hf 70 (by decide) (by decide)]; exact hA, hM, by rw [f68]; exact hv, by rw [f68, hf 80 (by decide) (by decide), hf 81 (by decide) (by decide)]; exact hc⟩, e2, hB', fun r x => hf r (by omega) (by omega), fun i _ => by rw [f68]⟩
set_option maxHeartbeats 4000000 in
theorem m_trembleLoop {D : Int → (Int → Int) → Int} {A : Int → Int} {a t seed : Int} {n : Nat} {σ : mS} (h : zMQ D A σ) (ha : -500 ≤ a ∧ a ≤ 500) (ht : 0 ≤ t ∧ t ≤ 50) (hs : 0 ≤ seed ∧ seed ≤ 1000000) (hn : n ≤ 40) (hsd : σ.1 68 34 = seed) (Q : Int × mS → Prop)
    (hfin : ∀ σ' : mS, zMQ D A σ' → zKn σ σ' → (∀ i : Nat, i < n → σ'.1 89 i = zwh (ztR D A a t seed i) ∧ σ'.1 90 i = zpl (ztR D A a t seed i)) → (∀ i : Int, n ≤ i → σ'.1 89 i = σ.1 89 i ∧ σ'.1 90 i = σ.1 90 i) → wpo (B_Mo_tremble_41 68 a t n (zwh (zS0 D A a)) (zth (zS0 D A a)) (zit (ztG D A a t seed) 0 n) n σ') (zor (fun _ => False) Q)) :
    wpo (M_Mo_tremble_41 68 a t n (zwh (zS0 D A a)) (zth (zS0 D A a)) 0 0 σ) Q := by
  have hbd := ztS_bd (D := D) (a := a) (t := t) (seed := seed) h.2.1 h.2.2.1 ha ht hs
  have tm := h.2.1.2.2.2.2.1
  unfold M_Mo_tremble_41
  refine loopH (fun k x y => y.1 = x ∧ y.2.1 = (k : Int) ∧ zMQ D A y.2.2 ∧ zKn σ y.2.2 ∧ y.2.2.1 68 34 = ztS D A a t seed k ∧ (∀ i : Nat, i < k → y.2.2.1 89 i = zwh (ztR D A a t seed i) ∧ y.2.2.1 90 i = zpl (ztR D A a t seed i)) ∧ (∀ i : Int, k ≤ i → y.2.2.1 89 i = σ.1 89 i ∧ y.2.2.1 90 i = σ.1 90 i)) (ztG D A a t seed) 0 n Q _ (by omega) ⟨rfl, rfl, h, zKn.of_km (zKm.rfl' h.1), hsd, fun i hi => absurd hi (Nat.not_lt_zero _), fun i _ => ⟨rfl, rfl⟩⟩ ?_ ?_
  · intro k x y hk hx ⟨y1, y2, y3, y4, y5, y6, y7⟩
    obtain ⟨l7, l8, σ'⟩ := y
    simp only at y1 y2 y3 y4 y5 y6 y7
    subst y1; subst y2
    have bx := zit_cnt (g := ztG D A a t seed) (fun k x => by unfold ztG; split <;> omega) 0 k
    rw [← hx] at bx
    clear hx
    have hB' := y3.1
    have hA' := y3.2.2.2.1
    have c : (k : Int) < (n : Int) := by omega
    have c0 : (0 : Int) ≤ k := by omega
    have c40 : (k : Int) < 40 := by omega
    have w : ∀ u : Int, u = (k : Int) → w32 (u + 1) = ((k + 1 : Nat) : Int) := fun u hu => by rw [w32_in (by omega) (by omega)]; omega
    have k1000 : k < 1000 := by omega
    show wpo (B_Mo_tremble_41 68 a t n (zwh (zS0 D A a)) (zth (zS0 D A a)) l7 k σ') _
    obtain ⟨PF, ePF, fPF⟩ : ∃ PF : Int → mS → Prop, (∀ v σ2, (v = ztG D A a t seed k l7 ∧ zMQ D A σ2 ∧ zKn σ σ2 ∧ σ2.1 68 34 = ztS D A a t seed (k + 1) ∧ (∀ i : Nat, i < k + 1 → σ2.1 89 i = zwh (ztR D A a t seed i) ∧ σ2.1 90 i = zpl (ztR D A a t seed i)) ∧ (∀ i : Int, ((k + 1 : Nat) : Int) ≤ i → σ2.1 89 i = σ.1 89 i ∧ σ2.1 90 i = σ.1 90 i)) → PF v σ2) ∧ (∀ v σ2, PF v σ2 → (v = ztG D A a t seed k l7 ∧ zMQ D A σ2 ∧ zKn σ σ2 ∧ σ2.1 68 34 = ztS D A a t seed (k + 1) ∧ (∀ i : Nat, i < k + 1 → σ2.1 89 i = zwh (ztR D A a t seed i) ∧ σ2.1 90 i = zpl (ztR D A a t seed i)) ∧ (∀ i : Int, ((k + 1 : Nat) : Int) ≤ i → σ2.1 89 i = σ.1 89 i ∧ σ2.1 90 i = σ.1 90 i))) := ⟨fun v σ2 => v = ztG D A a t seed k l7 ∧ zMQ D A σ2 ∧ zKn σ σ2 ∧ σ2.1 68 34 = ztS D A a t seed (k + 1) ∧ (∀ i : Nat, i < k + 1 → σ2.1 89 i = zwh (ztR D A a t seed i) ∧ σ2.1 90 i = zpl (ztR D A a t seed i)) ∧ (∀ i : Int, ((k + 1 : Nat) : Int) ≤ i → σ2.1 89 i = σ.1 89 i ∧ σ2.1 90 i = σ.1 90 i), fun _ _ h => h, fun _ _ h => h⟩
    refine wpo_mono (Q := fun z : (Int × Int × mS) ⊕ (Int × mS) => ∃ (σ2 : mS) (v : Int), PF v σ2 ∧ z = Sum.inl (v, ((k + 1 : Nat) : Int), σ2)) ?_ (fun z hz => by
      obtain ⟨σ2, v, pf, ez⟩ := hz
      rw [ez]
      have := fPF v σ2 pf
      exact ⟨this.1, rfl, this.2⟩)
    unfold B_Mo_tremble_41
    (try simp (disch := first | assumption | omega) only [wpo_bind, wpo_some, wpo_gf, wpo_gk, wpo_ld, wpo_pf, wpo_pz, wpo_sd, wpo_sr, wpo_ln, wpo_idv, wpo_irm, wpo_lrm, wpo_ldv, wpo_cpy, mlet, mnar_int, mup_same, mup_cell, mup_slot, ite_true, ite_false, true_and, and_true, eq_self, or_true, true_or, and_self, Int.reduceLT, Int.reduceLE, Int.reduceEq, Int.reduceNe, Int.reduceAdd, Int.reduceSub, Int.reduceMul, Int.reduceNeg, ne_eq, not_false_eq_true, not_true_eq_false, false_or, or_false, zor_inl, zor_inr, Bool.false_eq_true, false_and, and_false, zk1, zk2, zk3, zk4, zk5, zk6, zk7, zk8, zk9, zk10, zk11, zk12, zk13, zk14, zk15, zk16, zk17, zk18, zk19, zk20, zk21, zk22, zk23, zk24, zk25, zk26, zk27, zk28, zk29, zk30, zk31, zk32, zk33, zk34, zk35, zk36, zk37, zk38, zk39, zk40, zk41, zk42, zk43, zk44, zk45, zk46, zk47, zk48, zk49, zk50, zk51, zk52, zk53, zk54, zk55, zk56, zk57, zk58, zk59, zk60, zk61, zk62, zk63, zk64, zk65, zk66, zk67, zk68, zk69, zk70, zk71, zk72, zk73, zk74, zk75, zk76, zk77, zk78, zk79, zk80, zk81, zk82, zk83, zk84, zk85, zk86, zk87, zk88, zk89, zk90, zr2_0, zr2_1, zr2_2, zr2_3, zr2_4, zr2_6, zr2_7, zr2_10, zr2_11, zr2_12, zr1_0, zr1_1, zr14_0, zr14_1, zr14_2, zr14_3, zr14_4, zr14_6, zr14_7, zr14_10, zr14_11, zr14_12, zr13_0, zr25_0, zr25_1, zr25_2, zr25_3, zr25_4, zr25_6, zr25_7, zr25_10, zr25_11, zr25_12, zr13_1, zr1_2, zr37_0, zr1_3, zr39_0, zr39_1, zr39_2, zr39_5, zr39_7, zr39_8, zr1_4, zr46_1, zr46_2, zr46_3, zr46_4, zr46_0, zr1_5, zr51_2, zr51_10, zr51_0, zr51_1, zr54_1, zr54_2, zr54_3, zr1_6, zr58_1, zr58_2, zr58_3, zr58_0, zr1_7, zr62_2, zr62_3, zr62_0, zr62_1, zr1_8, zr1_9, zr1_10, zr1_15, zr68_2, zr68_3, zr68_4, zr68_5, zr68_7, zr68_8, zr68_9, zr68_12, zr68_13, zr68_14, zr68_22, zr68_23, zr68_24, zr68_26, zr68_35, zr68_36, zr68_37, zr68_38, zr68_39, zr68_40, zr68_41, zr68_42, c, hA'])
    refine wpo_mono (m_goes (ztR D A a t seed k) rfl (hbd k).2 y3 tm.1.1 (by omega) rfl (Or.inr ⟨ht.1, ht.2, rfl, y5⟩)) ?_
    intro q ⟨q1, qk, qr⟩
    have hBq := q1.1
    have e27 := qr.1
    have e28 := qr.2.1
    have e29 := qr.2.2.1
    have fX : ∀ r, r ≠ 89 → r ≠ 90 → mup (mup q.2.1 89 k (zwh (ztR D A a t seed k))) 90 k (zpl (ztR D A a t seed k)) r = q.2.1 r := fun r x1 x2 => by rw [mup_fun x2, mup_fun x1]
    have qX := q1.tr (σ' := (mup (mup q.2.1 89 k (zwh (ztR D A a t seed k))) 90 k (zpl (ztR D A a t seed k)), q.2.2)) rfl fX
    have k89 : q.2.1 89 = σ'.1 89 := qk.1.2.2.1 89 (by decide)
    have k90 : q.2.1 90 = σ'.1 90 := qk.1.2.2.1 90 (by decide)
    have res : ∀ v : Int, v = ztG D A a t seed k l7 → PF v (mup (mup q.2.1 89 k (zwh (ztR D A a t seed k))) 90 k (zpl (ztR D A a t seed k)), q.2.2) := by
      intro v ev
      refine ePF _ _ ⟨ev, qX.1, (y4.trans (zKn.of_km qk.1)).trans qX.2, ?_, ?_, ?_⟩
      · exact (congrFun (fX 68 (by decide) (by decide)) 34).trans (qr.2.2.2.2.2.2.2.2 ht.1)
      · intro i hi
        show mup (mup q.2.1 89 k (zwh (ztR D A a t seed k))) 90 k (zpl (ztR D A a t seed k)) 89 i = _ ∧ mup (mup q.2.1 89 k (zwh (ztR D A a t seed k))) 90 k (zpl (ztR D A a t seed k)) 90 i = _
        by_cases ci : i = k
        · subst ci
          rw [mup_cell (by decide), mup_same, mup_same]
          exact ⟨rfl, rfl⟩
        · have ne : (i : Int) ≠ (k : Int) := by omega
          rw [mup_cell (by decide), mup_slot ne, mup_slot ne, mup_cell (by decide), k89, k90]
          exact y6 i (by omega)
      · intro i hi
        show mup (mup q.2.1 89 k (zwh (ztR D A a t seed k))) 90 k (zpl (ztR D A a t seed k)) 89 i = _ ∧ mup (mup q.2.1 89 k (zwh (ztR D A a t seed k))) 90 k (zpl (ztR D A a t seed k)) 90 i = _
        have ne : i ≠ (k : Int) := by omega
        rw [mup_cell (by decide), mup_slot ne, mup_slot ne, mup_cell (by decide), k89, k90]
        exact y7 i (by omega)
    have w01 : ∀ u : Int, u = l7 → w32 (u + 1) = u + 1 ∧ w32 (u + 0) = u := fun u hu => by subst hu; exact w32_01 bx k1000
    clear bx
    unfold ztG at res
    by_cases d1 : zwh (ztR D A a t seed k) = zwh (zS0 D A a)
    · by_cases d2 : zth (ztR D A a t seed k) = zth (zS0 D A a)
      · have w1 : ∀ u : Int, u = l7 → w32 (u + 1) = u + 1 := fun u hu => (w01 u hu).1
        clear w01
        (try simp (disch := first | assumption | omega) only [wpo_bind, wpo_some, wpo_gf, wpo_gk, wpo_ld, wpo_pf, wpo_pz, wpo_sd, wpo_sr, wpo_ln, wpo_idv, wpo_irm, wpo_lrm, wpo_ldv, wpo_cpy, mlet, mnar_int, mup_same, mup_cell, mup_slot, ite_true, ite_false, true_and, and_true, eq_self, or_true, true_or, and_self, Int.reduceLT, Int.reduceLE, Int.reduceEq, Int.reduceNe, Int.reduceAdd, Int.reduceSub, Int.reduceMul, Int.reduceNeg, ne_eq, not_false_eq_true, not_true_eq_false, false_or, or_false, zor_inl, zor_inr, Bool.false_eq_true, false_and, and_false, zk1, zk2, zk3, zk4, zk5, zk6, zk7, zk8, zk9, zk10, zk11, zk12, zk13, zk14, zk15, zk16, zk17, zk18, zk19, zk20, zk21, zk22, zk23, zk24, zk25, zk26, zk27, zk28, zk29, zk30, zk31, zk32, zk33, zk34, zk35, zk36, zk37, zk38, zk39, zk40, zk41, zk42, zk43, zk44, zk45, zk46, zk47, zk48, zk49, zk50, zk51, zk52, zk53, zk54, zk55, zk56, zk57, zk58, zk59, zk60, zk61, zk62, zk63, zk64, zk65, zk66, zk67, zk68, zk69, zk70, zk71, zk72, zk73, zk74, zk75, zk76, zk77, zk78, zk79, zk80, zk81, zk82, zk83, zk84, zk85, zk86, zk87, zk88, zk89, zk90, zr2_0, zr2_1, zr2_2, zr2_3, zr2_4, zr2_6, zr2_7, zr2_10, zr2_11, zr2_12, zr1_0, zr1_1, zr14_0, zr14_1, zr14_2, zr14_3, zr14_4, zr14_6, zr14_7, zr14_10, zr14_11, zr14_12, zr13_0, zr25_0, zr25_1, zr25_2, zr25_3, zr25_4, zr25_6, zr25_7, zr25_10, zr25_11, zr25_12, zr13_1, zr1_2, zr37_0, zr1_3, zr39_0, zr39_1, zr39_2, zr39_5, zr39_7, zr39_8, zr1_4, zr46_1, zr46_2, zr46_3, zr46_4, zr46_0, zr1_5, zr51_2, zr51_10, zr51_0, zr51_1, zr54_1, zr54_2, zr54_3, zr1_6, zr58_1, zr58_2, zr58_3, zr58_0, zr1_7, zr62_2, zr62_3, zr62_0, zr62_1, zr1_8, zr1_9, zr1_10, zr1_15, zr68_2, zr68_3, zr68_4, zr68_5, zr68_7, zr68_8, zr68_9, zr68_12, zr68_13, zr68_14, zr68_22, zr68_23, zr68_24, zr68_26, zr68_35, zr68_36, zr68_37, zr68_38, zr68_39, zr68_40, zr68_41, zr68_42, c0, c40, e27, e28, e29, d1, d2, w, w1])
        exact ⟨_, _, (by have r0 := res (l7 + 1) (by rw [if_pos ⟨d1, d2⟩]); rw [d1] at r0; exact r0), rfl⟩
      · have w0 : ∀ u : Int, u = l7 → w32 (u + 0) = u := fun u hu => (w01 u hu).2
        clear w01
        (try simp (disch := first | assumption | omega) only [wpo_bind, wpo_some, wpo_gf, wpo_gk, wpo_ld, wpo_pf, wpo_pz, wpo_sd, wpo_sr, wpo_ln, wpo_idv, wpo_irm, wpo_lrm, wpo_ldv, wpo_cpy, mlet, mnar_int, mup_same, mup_cell, mup_slot, ite_true, ite_false, true_and, and_true, eq_self, or_true, true_or, and_self, Int.reduceLT, Int.reduceLE, Int.reduceEq, Int.reduceNe, Int.reduceAdd, Int.reduceSub, Int.reduceMul, Int.reduceNeg, ne_eq, not_false_eq_true, not_true_eq_false, false_or, or_false, zor_inl, zor_inr, Bool.false_eq_true, false_and, and_false, zk1, zk2, zk3, zk4, zk5, zk6, zk7, zk8, zk9, zk10, zk11, zk12, zk13, zk14, zk15, zk16, zk17, zk18, zk19, zk20, zk21, zk22, zk23, zk24, zk25, zk26, zk27, zk28, zk29, zk30, zk31, zk32, zk33, zk34, zk35, zk36, zk37, zk38, zk39, zk40, zk41, zk42, zk43, zk44, zk45, zk46, zk47, zk48, zk49, zk50, zk51, zk52, zk53, zk54, zk55, zk56, zk57, zk58, zk59, zk60, zk61, zk62, zk63, zk64, zk65, zk66, zk67, zk68, zk69, zk70, zk71, zk72, zk73, zk74, zk75, zk76, zk77, zk78, zk79, zk80, zk81, zk82, zk83, zk84, zk85, zk86, zk87, zk88, zk89, zk90, zr2_0, zr2_1, zr2_2, zr2_3, zr2_4, zr2_6, zr2_7, zr2_10, zr2_11, zr2_12, zr1_0, zr1_1, zr14_0, zr14_1, zr14_2, zr14_3, zr14_4, zr14_6, zr14_7, zr14_10, zr14_11, zr14_12, zr13_0, zr25_0, zr25_1, zr25_2, zr25_3, zr25_4, zr25_6, zr25_7, zr25_10, zr25_11, zr25_12, zr13_1, zr1_2, zr37_0, zr1_3, zr39_0, zr39_1, zr39_2, zr39_5, zr39_7, zr39_8, zr1_4, zr46_1, zr46_2, zr46_3, zr46_4, zr46_0, zr1_5, zr51_2, zr51_10, zr51_0, zr51_1, zr54_1, zr54_2, zr54_3, zr1_6, zr58_1, zr58_2, zr58_3, zr58_0, zr1_7, zr62_2, zr62_3, zr62_0, zr62_1, zr1_8, zr1_9, zr1_10, zr1_15, zr68_2, zr68_3, zr68_4, zr68_5, zr68_7, zr68_8, zr68_9, zr68_12, zr68_13, zr68_14, zr68_22, zr68_23, zr68_24, zr68_26, zr68_35, zr68_36, zr68_37, zr68_38, zr68_39, zr68_40, zr68_41, zr68_42, c0, c40, e27, e28, e29, d1, d2, w, w0])
        exact ⟨_, _, (by have r0 := res l7 (by rw [if_neg (fun x => d2 x.2)]); rw [d1] at r0; exact r0), rfl⟩
    · have w0 : ∀ u : Int, u = l7 → w32 (u + 0) = u := fun u hu => (w01 u hu).2
      clear w01
      (try simp (disch := first | assumption | omega) only [wpo_bind, wpo_some, wpo_gf, wpo_gk, wpo_ld, wpo_pf, wpo_pz, wpo_sd, wpo_sr, wpo_ln, wpo_idv, wpo_irm, wpo_lrm, wpo_ldv, wpo_cpy, mlet, mnar_int, mup_same, mup_cell, mup_slot, ite_true, ite_false, true_and, and_true, eq_self, or_true, true_or, and_self, Int.reduceLT, Int.reduceLE, Int.reduceEq, Int.reduceNe, Int.reduceAdd, Int.reduceSub, Int.reduceMul, Int.reduceNeg, ne_eq, not_false_eq_true, not_true_eq_false, false_or, or_false, zor_inl, zor_inr, Bool.false_eq_true, false_and, and_false, zk1, zk2, zk3, zk4, zk5, zk6, zk7, zk8, zk9, zk10, zk11, zk12, zk13, zk14, zk15, zk16, zk17, zk18, zk19, zk20, zk21, zk22, zk23, zk24, zk25, zk26, zk27, zk28, zk29, zk30, zk31, zk32, zk33, zk34, zk35, zk36, zk37, zk38, zk39, zk40, zk41, zk42, zk43, zk44, zk45, zk46, zk47, zk48, zk49, zk50, zk51, zk52, zk53, zk54, zk55, zk56, zk57, zk58, zk59, zk60, zk61, zk62, zk63, zk64, zk65, zk66, zk67, zk68, zk69, zk70, zk71, zk72, zk73, zk74, zk75, zk76, zk77, zk78, zk79, zk80, zk81, zk82, zk83, zk84, zk85, zk86, zk87, zk88, zk89, zk90, zr2_0, zr2_1, zr2_2, zr2_3, zr2_4, zr2_6, zr2_7, zr2_10, zr2_11, zr2_12, zr1_0, zr1_1, zr14_0, zr14_1, zr14_2, zr14_3, zr14_4, zr14_6, zr14_7, zr14_10, zr14_11, zr14_12, zr13_0, zr25_0, zr25_1, zr25_2, zr25_3, zr25_4, zr25_6, zr25_7, zr25_10, zr25_11, zr25_12, zr13_1, zr1_2, zr37_0, zr1_3, zr39_0, zr39_1, zr39_2, zr39_5, zr39_7, zr39_8, zr1_4, zr46_1, zr46_2, zr46_3, zr46_4, zr46_0, zr1_5, zr51_2, zr51_10, zr51_0, zr51_1, zr54_1, zr54_2, zr54_3, zr1_6, zr58_1, zr58_2, zr58_3, zr58_0, zr1_7, zr62_2, zr62_3, zr62_0, zr62_1, zr1_8, zr1_9, zr1_10, zr1_15, zr68_2, zr68_3, zr68_4, zr68_5, zr68_7, zr68_8, zr68_9, zr68_12, zr68_13, zr68_14, zr68_22, zr68_23, zr68_24, zr68_26, zr68_35, zr68_36, zr68_37, zr68_38, zr68_39, zr68_40, zr68_41, zr68_42, c0, c40, e27, e28, d1, w, w0])
      exact ⟨_, _, res l7 (by rw [if_neg (fun x => d1 x.1)]), rfl⟩
  · intro x y hx ⟨y1, y2, y3, y4, y5, y6, y7⟩
    obtain ⟨l7, l8, σ'⟩ := y
    simp only at y1 y2 y3 y4 y5 y6 y7
    subst y1; subst y2
    rw [hx]
    exact hfin σ' y3 y4 y6 y7
end
