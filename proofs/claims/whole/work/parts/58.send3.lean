theorem zcl_j (x : Int) : jmax (-2000) (jmin 2000 x) = zcl x := by
  unfold jmax jmin zcl
  split <;> split <;> (try split) <;> omega
theorem tdiv100 {x : Int} (h0 : 0 ≤ x) (h1 : x < 3200) : w32 (Int.tdiv x 100) = x / 100 := by
  rw [Int.tdiv_eq_ediv_of_nonneg h0]
  exact w32_in (by omega) (by omega)
/-- what a step leaves -/
def zstep (D : Int → (Int → Int) → Int) (A : Int → Int) (S : zSc) (b : Int) (σ : mS) (k : Nat) (z : (Int × Int × Int × Int × mS) ⊕ (Int × mS)) : Prop :=
  match z with
  | .inl (at', high, steep, going, σ') => at' = ze S + k ∧ high = zH S k ∧ zgo S k steep going ∧ zCQ D A σ' ∧ zFrs b σ σ' ∧ (∀ j : Nat, j ≤ k → σ'.1 53 (ze S + j) = zH S j) ∧ (0 < zt S → σ'.1 51 9 = zd S k)
  | .inr _ => False
set_option maxHeartbeats 4000000 in
theorem s_send_60 {D : Int → (Int → Int) → Int} {A : Int → Int} {σ : mS} {s bend e eh t pa a sd : Int} {k : Nat} (S : zSc) (eS : S = (A, zWd D A s, bend, e, eh, a, t, sd, pa)) (hS : zSok S) (hq : zCQ D A σ) (hl : zLt σ s bend e eh t pa)
    (hk : e + k < 63) (hns : ∀ j, 0 < j → j ≤ k → ¬ zstop S j) (hh : ∀ j : Nat, j ≤ k → σ.1 53 (e + j) = zH S j) (hd : 0 < t → σ.1 51 9 = zd S (k + 1)) :
    wpo (M_Light_send_60 51 (zthc pa) (σ.1 47 s + 2) (e + ((k : Int) + 1)) (zH S (k + 1)) (zs S k) σ) (zstep D A S (σ.1 47 s) σ (k + 1)) := by
  have hB := hq.1
  have e1 : ze S = e := by rw [eS]; rfl
  have e2 : zA S = A := by rw [eS]; rfl
  have e3 : zpa S = pa := by rw [eS]; rfl
  have e4 : zt S = t := by rw [eS]; rfl
  have e5 : zb S = bend := by rw [eS]; rfl
  have e6 : zW S = zWd D A s := by rw [eS]; rfl
  have he := hS.2.2.2.1
  rw [e1] at he
  have hbend := hS.2.2.1
  rw [e5] at hbend
  have hH := zH_bd hS (k + 1)
  have hsb := zs_bd hS k
  have ek : e + ((k : Int) + 1) = e + ((k + 1 : Nat) : Int) := by omega
  have p0 : 0 ≤ e + ((k : Int) + 1) := by omega
  have p1 : e + ((k : Int) + 1) < 64 := by omega
  have hw := hq.2.1.1 _ p0 p1
  have w1 : w32 (100 * A (e + ((k : Int) + 1))) = 100 * A (e + ((k : Int) + 1)) := w32_in (by omega) (by omega)
  have w2 : w32 (zH S (k + 1) - 100 * A (e + ((k : Int) + 1))) = zH S (k + 1) - 100 * A (e + ((k : Int) + 1)) := w32_in (by omega) (by omega)
  have hh0 := zAir_get hq.2.2.2.2 hl.1.1 hl.1.2 hl.2.1
  have lo := zHB_low hh0.1
  -- behind the store of the height
  have q1 : zCQ D A (mup σ.1 53 (e + ((k : Int) + 1)) (zH S (k + 1)), σ.2) := zCQ_height hq
  have f1 : zFrs (σ.1 47 s) σ (mup σ.1 53 (e + ((k : Int) + 1)) (zH S (k + 1)), σ.2) := zFrs.height hB
  have l1 : zLt (mup σ.1 53 (e + ((k : Int) + 1)) (zH S (k + 1)), σ.2) s bend e eh t pa := hl.fr hq f1
  have h1 : ∀ j : Nat, j ≤ k + 1 → mup σ.1 53 (e + ((k : Int) + 1)) (zH S (k + 1)) 53 (e + j) = zH S j := by
    intro j hj
    by_cases c : j = k + 1
    · rw [c, ← ek]; exact mup_same
    · rw [mup_slot (by omega)]; exact hh j (by omega)
  have d1 : 0 < t → mup σ.1 53 (e + ((k : Int) + 1)) (zH S (k + 1)) 51 9 = zd S (k + 1) := by
    intro ht; rw [mup_cell (by decide)]; exact hd ht
  have m47 : mup σ.1 53 (e + ((k : Int) + 1)) (zH S (k + 1)) 47 = σ.1 47 := mup_fun (by decide)
  generalize eσ : ((mup σ.1 53 (e + ((k : Int) + 1)) (zH S (k + 1)), σ.2) : mS) = σ1 at q1 f1 l1
  have h1' : ∀ j : Nat, j ≤ k + 1 → σ1.1 53 (e + j) = zH S j := by rw [← eσ]; exact h1
  have d1' : 0 < t → σ1.1 51 9 = zd S (k + 1) := by rw [← eσ]; exact d1
  have m47' : σ1.1 47 = σ.1 47 := by rw [← eσ]; exact m47
  have hB1 := q1.1
  have gr_iff : zgr S (k + 1) ↔ zH S (k + 1) < 100 * A (e + ((k : Int) + 1)) := by unfold zgr; rw [e1, e2, ek]
  have sk_iff : zsk S (k + 1) ↔ 3200 ≤ zH S (k + 1) := Iff.rfl
  have in_iff : zin S (k + 1) ↔ pa = 0 ∧ ztA A (e + ((k : Int) + 1)) ≠ -1 ∧ zH S (k + 1) < 100 * (A (e + ((k : Int) + 1)) + A (136 + ztA A (e + ((k : Int) + 1)))) := by unfold zin; rw [e1, e2, e3, ek]
  -- stopped
  have st : (zgr S (k + 1) ∨ zsk S (k + 1) ∨ zin S (k + 1)) → wpo (M_Light_send_98 51 (zthc pa) (σ.1 47 s + 2) (e + ((k : Int) + 1)) (zH S (k + 1)) (zs S k) σ1) (zstep D A S (σ.1 47 s) σ (k + 1)) := by
    intro hz
    unfold M_Light_send_98 M_Light_send_99
    rw [if_pos rfl]
    refine wpo_some.mpr ⟨by rw [e1, ek], rfl, Or.inr ⟨?_, rfl, Or.inl ⟨rfl, by omega, by omega, hz⟩⟩, q1, f1, by rw [e1]; exact h1', by rw [e4]; exact d1'⟩
    refine zK_eq (by omega) ?_ (by omega) (by omega) (fun j j0 j1 => hns j j0 (by omega))
    unfold zstop
    rcases hz with x | x | x
    · exact Or.inl x
    · exact Or.inr (Or.inl x)
    · exact Or.inr (Or.inr (Or.inl x))
  -- going on
  have gon : ¬ zgr S (k + 1) → ¬ zsk S (k + 1) → ¬ zin S (k + 1) → wpo (M_Light_send_96 51 (zthc pa) (σ.1 47 s + 2) (e + ((k : Int) + 1)) (zH S (k + 1)) (zs S k) σ1) (zstep D A S (σ.1 47 s) σ (k + 1)) := by
    intro n1 n2 n3
    have H0 : 0 ≤ zH S (k + 1) := by rw [gr_iff] at n1; omega
    have H1 : zH S (k + 1) < 3200 := by rw [sk_iff] at n2; omega
    unfold M_Light_send_96 M_Light_send_99
    rw [if_neg (by decide)]
    by_cases c : e + ((k : Int) + 1) < 63
    · rw [if_pos c]
      have b0 := zpull_bd hS (e + ((k : Int) + 1)) (zH S (k + 1) / 100)
      rw [e6] at b0
      have fin : ∀ (σ2 : mS) (v : Int), v = zpull (zWd D A s) (e + ((k : Int) + 1)) (zH S (k + 1) / 100) → zCQ D A σ2 → zWr (σ.1 47 s) σ1 σ2 → wpo (M_Light_send_128 51 (zthc pa) (σ.1 47 s + 2) (e + ((k : Int) + 1)) (zH S (k + 1)) (zs S k) 1 v σ2) (zstep D A S (σ.1 47 s) σ (k + 1)) := by
        intro σ2 v ev q2 f2
        have hB2 := q2.1
        have g51 : σ2.1 51 = σ1.1 51 := f2.2.2 51 (by decide) (by decide) (by omega) (by omega)
        have g53 : σ2.1 53 = σ1.1 53 := f2.2.2 53 (by decide) (by decide) (by omega) (by omega)
        have l2 : σ2.1 51 6 = bend := by rw [g51]; exact l1.2.2.2.2.1
        have mb : -1341 ≤ bend * v ∧ bend * v ≤ 1341 := by
          rw [← ev] at b0
          constructor
          · have := Int.mul_le_mul_of_nonneg_left b0.1 hbend.1
            omega
          · have := Int.mul_le_mul_of_nonneg_left b0.2 hbend.1
            omega
        have m1 : w32 (bend * v) = bend * v := w32_in (by omega) (by omega)
        have m2 : w32 (zs S k + bend * v) = zs S k + bend * v := w32_in (by omega) (by omega)
        unfold M_Light_send_128
        simp (disch := first | assumption | omega) only [wpo_bind, wpo_some, wpo_gf, wpo_gk, wpo_ld, wpo_pf, wpo_pz, wpo_sd, wpo_sr, wpo_ln, wpo_idv, wpo_irm, wpo_lrm, wpo_ldv, wpo_cpy, mlet, mnar_int, mup_same, mup_cell, mup_slot, ite_true, ite_false, true_and, and_true, eq_self, or_true, true_or, and_self, Int.reduceLT, Int.reduceLE, Int.reduceEq, Int.reduceNe, Int.reduceAdd, Int.reduceSub, Int.reduceMul, Int.reduceNeg, ne_eq, not_false_eq_true, not_true_eq_false, if_pos, if_neg, false_or, or_false, zor_inl, zor_inr, false_and, and_false, zk1, zk2, zk3, zk4, zk5, zk6, zk7, zk8, zk9, zk10, zk11, zk12, zk13, zk14, zk15, zk16, zk17, zk18, zk19, zk20, zk21, zk22, zk23, zk24, zk25, zk26, zk27, zk28, zk29, zk30, zk31, zk32, zk33, zk34, zk35, zk36, zk37, zk38, zk39, zk40, zk41, zk42, zk43, zk44, zk45, zk46, zk47, zk48, zk49, zk50, zk51, zk52, zk53, zk54, zk55, zk56, zk57, zk58, zk59, zk60, zk61, zk62, zk63, zk64, zk65, zk66, zk67, zk68, zk69, zk70, zk71, zk72, zk73, zk74, zk75, zk76, zk77, zk78, zk79, zk80, zk81, zk82, zk83, zk84, zk85, zk86, zk87, zk88, zk89, zk90, zr2_0, zr2_1, zr2_2, zr2_3, zr2_4, zr2_6, zr2_7, zr2_10, zr2_11, zr2_12, zr1_0, zr1_1, zr14_0, zr14_1, zr14_2, zr14_3, zr14_4, zr14_6, zr14_7, zr14_10, zr14_11, zr14_12, zr13_0, zr25_0, zr25_1, zr25_2, zr25_3, zr25_4, zr25_6, zr25_7, zr25_10, zr25_11, zr25_12, zr13_1, zr1_2, zr37_0, zr1_3, zr39_0, zr39_1, zr39_2, zr39_5, zr39_7, zr39_8, zr1_4, zr46_1, zr46_2, zr46_3, zr46_4, zr46_0, zr1_5, zr51_2, zr51_10, zr51_0, zr51_1, zr54_1, zr54_2, zr54_3, zr1_6, zr58_1, zr58_2, zr58_3, zr58_0, zr1_7, zr62_2, zr62_3, zr62_0, zr62_1, zr1_8, zr1_9, zr1_10, zr1_15, zr68_2, zr68_3, zr68_4, zr68_5, zr68_7, zr68_8, zr68_9, zr68_12, zr68_13, zr68_14, zr68_22, zr68_23, zr68_24, zr68_26, zr68_35, zr68_36, zr68_37, zr68_38, zr68_39, zr68_40, zr68_41, zr68_42, l2, m1, m2, zcl_j]
        refine ⟨by rw [e1, ek], rfl, Or.inl ⟨rfl, by rw [e1, ← ek]; exact c, ?_, ?_⟩, q2, f1.trans (zFrs.of_wr lo.1 f2), ?_, ?_⟩
        · rw [zs_succ, e5, e6, e1, ev]
        · intro j j0 j1
          by_cases cj : j = k + 1
          · rw [cj]; unfold zstop
            intro x
            rcases x with x | x | x | x
            · exact n1 x
            · exact n2 x
            · exact n3 x
            · rw [e1] at x; omega
          · exact hns j j0 (by omega)
        · rw [e1, g53]; exact h1'
        · rw [e4, g51]; exact d1'
      have dv := tdiv100 H0 H1
      have ix : w32 (w32 ((e + ((k : Int) + 1)) * 32) + zH S (k + 1) / 100) = (e + ((k : Int) + 1)) * 32 + zH S (k + 1) / 100 := by
        rw [w32_in (x := (e + ((k : Int) + 1)) * 32) (by omega) (by omega)]
        exact w32_in (by omega) (by omega)
      have x0 : 0 ≤ (e + ((k : Int) + 1)) * 32 + zH S (k + 1) / 100 := by omega
      have x1 : (e + ((k : Int) + 1)) * 32 + zH S (k + 1) / 100 < 2048 := by omega
      have hhA := zAir_get q1.2.2.2.2 hl.1.1 hl.1.2 (by rw [m47']; exact hl.2.1)
      rw [m47'] at hhA
      have kb2 := hhA.1.2.2.2.2.1
      have hag := l1.2.2.2.1 _ p0 p1
      rw [m47'] at hag
      have l5 : σ1.1 51 5 = σ.1 47 s := by rw [l1.2.2.1, m47']
      by_cases cu : σ1.1 (σ.1 47 s + 2) ((e + ((k : Int) + 1)) * 32 + zH S (k + 1) / 100) = -1000000
      · simp (disch := first | assumption | omega) only [wpo_bind, wpo_some, wpo_gf, wpo_gk, wpo_ld, wpo_pf, wpo_pz, wpo_sd, wpo_sr, wpo_ln, wpo_idv, wpo_irm, wpo_lrm, wpo_ldv, wpo_cpy, mlet, mnar_int, mup_same, mup_cell, mup_slot, ite_true, ite_false, true_and, and_true, eq_self, or_true, true_or, and_self, Int.reduceLT, Int.reduceLE, Int.reduceEq, Int.reduceNe, Int.reduceAdd, Int.reduceSub, Int.reduceMul, Int.reduceNeg, ne_eq, not_false_eq_true, not_true_eq_false, if_pos, if_neg, false_or, or_false, zor_inl, zor_inr, false_and, and_false, zk1, zk2, zk3, zk4, zk5, zk6, zk7, zk8, zk9, zk10, zk11, zk12, zk13, zk14, zk15, zk16, zk17, zk18, zk19, zk20, zk21, zk22, zk23, zk24, zk25, zk26, zk27, zk28, zk29, zk30, zk31, zk32, zk33, zk34, zk35, zk36, zk37, zk38, zk39, zk40, zk41, zk42, zk43, zk44, zk45, zk46, zk47, zk48, zk49, zk50, zk51, zk52, zk53, zk54, zk55, zk56, zk57, zk58, zk59, zk60, zk61, zk62, zk63, zk64, zk65, zk66, zk67, zk68, zk69, zk70, zk71, zk72, zk73, zk74, zk75, zk76, zk77, zk78, zk79, zk80, zk81, zk82, zk83, zk84, zk85, zk86, zk87, zk88, zk89, zk90, zr2_0, zr2_1, zr2_2, zr2_3, zr2_4, zr2_6, zr2_7, zr2_10, zr2_11, zr2_12, zr1_0, zr1_1, zr14_0, zr14_1, zr14_2, zr14_3, zr14_4, zr14_6, zr14_7, zr14_10, zr14_11, zr14_12, zr13_0, zr25_0, zr25_1, zr25_2, zr25_3, zr25_4, zr25_6, zr25_7, zr25_10, zr25_11, zr25_12, zr13_1, zr1_2, zr37_0, zr1_3, zr39_0, zr39_1, zr39_2, zr39_5, zr39_7, zr39_8, zr1_4, zr46_1, zr46_2, zr46_3, zr46_4, zr46_0, zr1_5, zr51_2, zr51_10, zr51_0, zr51_1, zr54_1, zr54_2, zr54_3, zr1_6, zr58_1, zr58_2, zr58_3, zr58_0, zr1_7, zr62_2, zr62_3, zr62_0, zr62_1, zr1_8, zr1_9, zr1_10, zr1_15, zr68_2, zr68_3, zr68_4, zr68_5, zr68_7, zr68_8, zr68_9, zr68_12, zr68_13, zr68_14, zr68_22, zr68_23, zr68_24, zr68_26, zr68_35, zr68_36, zr68_37, zr68_38, zr68_39, zr68_40, zr68_41, zr68_42, dv, ix, kb2, x0, x1, cu, l5]
        have sp := s_findPull (s := s) (p := e + ((k : Int) + 1)) (i := zH S (k + 1) / 100) q1 hl.1.1 hl.1.2 (by rw [m47']; exact hl.2.1) (by rw [m47']; exact hag) p0 p1 (by omega) (by omega)
        rw [m47'] at sp
        refine wpo_mono sp ?_
        intro q hq
        exact fin q.2 q.1 hq.1 (zCQ_wr q1 hhA.1 hq.2.1 hq.2.2) hq.2.1
      · simp (disch := first | assumption | omega) only [wpo_bind, wpo_some, wpo_gf, wpo_gk, wpo_ld, wpo_pf, wpo_pz, wpo_sd, wpo_sr, wpo_ln, wpo_idv, wpo_irm, wpo_lrm, wpo_ldv, wpo_cpy, mlet, mnar_int, mup_same, mup_cell, mup_slot, ite_true, ite_false, true_and, and_true, eq_self, or_true, true_or, and_self, Int.reduceLT, Int.reduceLE, Int.reduceEq, Int.reduceNe, Int.reduceAdd, Int.reduceSub, Int.reduceMul, Int.reduceNeg, ne_eq, not_false_eq_true, not_true_eq_false, if_pos, if_neg, false_or, or_false, zor_inl, zor_inr, false_and, and_false, zk1, zk2, zk3, zk4, zk5, zk6, zk7, zk8, zk9, zk10, zk11, zk12, zk13, zk14, zk15, zk16, zk17, zk18, zk19, zk20, zk21, zk22, zk23, zk24, zk25, zk26, zk27, zk28, zk29, zk30, zk31, zk32, zk33, zk34, zk35, zk36, zk37, zk38, zk39, zk40, zk41, zk42, zk43, zk44, zk45, zk46, zk47, zk48, zk49, zk50, zk51, zk52, zk53, zk54, zk55, zk56, zk57, zk58, zk59, zk60, zk61, zk62, zk63, zk64, zk65, zk66, zk67, zk68, zk69, zk70, zk71, zk72, zk73, zk74, zk75, zk76, zk77, zk78, zk79, zk80, zk81, zk82, zk83, zk84, zk85, zk86, zk87, zk88, zk89, zk90, zr2_0, zr2_1, zr2_2, zr2_3, zr2_4, zr2_6, zr2_7, zr2_10, zr2_11, zr2_12, zr1_0, zr1_1, zr14_0, zr14_1, zr14_2, zr14_3, zr14_4, zr14_6, zr14_7, zr14_10, zr14_11, zr14_12, zr13_0, zr25_0, zr25_1, zr25_2, zr25_3, zr25_4, zr25_6, zr25_7, zr25_10, zr25_11, zr25_12, zr13_1, zr1_2, zr37_0, zr1_3, zr39_0, zr39_1, zr39_2, zr39_5, zr39_7, zr39_8, zr1_4, zr46_1, zr46_2, zr46_3, zr46_4, zr46_0, zr1_5, zr51_2, zr51_10, zr51_0, zr51_1, zr54_1, zr54_2, zr54_3, zr1_6, zr58_1, zr58_2, zr58_3, zr58_0, zr1_7, zr62_2, zr62_3, zr62_0, zr62_1, zr1_8, zr1_9, zr1_10, zr1_15, zr68_2, zr68_3, zr68_4, zr68_5, zr68_7, zr68_8, zr68_9, zr68_12, zr68_13, zr68_14, zr68_22, zr68_23, zr68_24, zr68_26, zr68_35, zr68_36, zr68_37, zr68_38, zr68_39, zr68_40, zr68_41, zr68_42, dv, ix, kb2, x0, x1, cu]
        refine fin σ1 _ ?_ q1 (zWr.rfl' hB1)
        have := ((hhA.2.2 _ p0 p1).2 hag (zH S (k + 1) / 100) (by omega) (by omega)).2
        rcases this with x | x
        · exact absurd x cu
        · exact x
    · rw [if_neg c]
      refine wpo_some.mpr ⟨by rw [e1, ek], rfl, Or.inr ⟨?_, rfl, Or.inr ⟨rfl, by rw [e1]; omega, Or.inr ⟨n1, n2, n3⟩⟩⟩, q1, f1, by rw [e1]; exact h1', by rw [e4]; exact d1'⟩
      refine zK_eq (by omega) ?_ (by omega) (by omega) (fun j j0 j1 => hns j j0 (by omega))
      unfold zstop
      exact Or.inr (Or.inr (Or.inr (by rw [e1]; omega)))
  have g3 : σ.1 3 (e + ((k : Int) + 1)) = A (e + ((k : Int) + 1)) := (hq.2.2.1.1 _ p0 p1).1
  have kt := zthc_kind (pa := pa) hB
  have gt := zthc_get (pa := pa) hq p0 p1
  have gn : zthc pa ≠ 53 := by unfold zthc; split <;> decide
  unfold M_Light_send_60
  by_cases c1 : zH S (k + 1) - 100 * A (e + ((k : Int) + 1)) < 0
  · simp (disch := first | assumption | omega) only [wpo_bind, wpo_some, wpo_gf, wpo_gk, wpo_ld, wpo_pf, wpo_pz, wpo_sd, wpo_sr, wpo_ln, wpo_idv, wpo_irm, wpo_lrm, wpo_ldv, wpo_cpy, mlet, mnar_int, mup_same, mup_cell, mup_slot, ite_true, ite_false, true_and, and_true, eq_self, or_true, true_or, and_self, Int.reduceLT, Int.reduceLE, Int.reduceEq, Int.reduceNe, Int.reduceAdd, Int.reduceSub, Int.reduceMul, Int.reduceNeg, ne_eq, not_false_eq_true, not_true_eq_false, if_pos, if_neg, false_or, or_false, zor_inl, zor_inr, false_and, and_false, zk1, zk2, zk3, zk4, zk5, zk6, zk7, zk8, zk9, zk10, zk11, zk12, zk13, zk14, zk15, zk16, zk17, zk18, zk19, zk20, zk21, zk22, zk23, zk24, zk25, zk26, zk27, zk28, zk29, zk30, zk31, zk32, zk33, zk34, zk35, zk36, zk37, zk38, zk39, zk40, zk41, zk42, zk43, zk44, zk45, zk46, zk47, zk48, zk49, zk50, zk51, zk52, zk53, zk54, zk55, zk56, zk57, zk58, zk59, zk60, zk61, zk62, zk63, zk64, zk65, zk66, zk67, zk68, zk69, zk70, zk71, zk72, zk73, zk74, zk75, zk76, zk77, zk78, zk79, zk80, zk81, zk82, zk83, zk84, zk85, zk86, zk87, zk88, zk89, zk90, zr2_0, zr2_1, zr2_2, zr2_3, zr2_4, zr2_6, zr2_7, zr2_10, zr2_11, zr2_12, zr1_0, zr1_1, zr14_0, zr14_1, zr14_2, zr14_3, zr14_4, zr14_6, zr14_7, zr14_10, zr14_11, zr14_12, zr13_0, zr25_0, zr25_1, zr25_2, zr25_3, zr25_4, zr25_6, zr25_7, zr25_10, zr25_11, zr25_12, zr13_1, zr1_2, zr37_0, zr1_3, zr39_0, zr39_1, zr39_2, zr39_5, zr39_7, zr39_8, zr1_4, zr46_1, zr46_2, zr46_3, zr46_4, zr46_0, zr1_5, zr51_2, zr51_10, zr51_0, zr51_1, zr54_1, zr54_2, zr54_3, zr1_6, zr58_1, zr58_2, zr58_3, zr58_0, zr1_7, zr62_2, zr62_3, zr62_0, zr62_1, zr1_8, zr1_9, zr1_10, zr1_15, zr68_2, zr68_3, zr68_4, zr68_5, zr68_7, zr68_8, zr68_9, zr68_12, zr68_13, zr68_14, zr68_22, zr68_23, zr68_24, zr68_26, zr68_35, zr68_36, zr68_37, zr68_38, zr68_39, zr68_40, zr68_41, zr68_42, g3, w1, w2, p0, p1, kt, gt, c1]
    rw [eσ]
    exact st (Or.inl (gr_iff.mpr (by omega)))
  · by_cases c2 : zH S (k + 1) < 3200
    · by_cases c3 : pa = 0
      · rw [if_pos c3] at gt
        by_cases c4 : ztA A (e + ((k : Int) + 1)) = -1
        · simp (disch := first | assumption | omega) only [wpo_bind, wpo_some, wpo_gf, wpo_gk, wpo_ld, wpo_pf, wpo_pz, wpo_sd, wpo_sr, wpo_ln, wpo_idv, wpo_irm, wpo_lrm, wpo_ldv, wpo_cpy, mlet, mnar_int, mup_same, mup_cell, mup_slot, ite_true, ite_false, true_and, and_true, eq_self, or_true, true_or, and_self, Int.reduceLT, Int.reduceLE, Int.reduceEq, Int.reduceNe, Int.reduceAdd, Int.reduceSub, Int.reduceMul, Int.reduceNeg, ne_eq, not_false_eq_true, not_true_eq_false, if_pos, if_neg, false_or, or_false, zor_inl, zor_inr, false_and, and_false, zk1, zk2, zk3, zk4, zk5, zk6, zk7, zk8, zk9, zk10, zk11, zk12, zk13, zk14, zk15, zk16, zk17, zk18, zk19, zk20, zk21, zk22, zk23, zk24, zk25, zk26, zk27, zk28, zk29, zk30, zk31, zk32, zk33, zk34, zk35, zk36, zk37, zk38, zk39, zk40, zk41, zk42, zk43, zk44, zk45, zk46, zk47, zk48, zk49, zk50, zk51, zk52, zk53, zk54, zk55, zk56, zk57, zk58, zk59, zk60, zk61, zk62, zk63, zk64, zk65, zk66, zk67, zk68, zk69, zk70, zk71, zk72, zk73, zk74, zk75, zk76, zk77, zk78, zk79, zk80, zk81, zk82, zk83, zk84, zk85, zk86, zk87, zk88, zk89, zk90, zr2_0, zr2_1, zr2_2, zr2_3, zr2_4, zr2_6, zr2_7, zr2_10, zr2_11, zr2_12, zr1_0, zr1_1, zr14_0, zr14_1, zr14_2, zr14_3, zr14_4, zr14_6, zr14_7, zr14_10, zr14_11, zr14_12, zr13_0, zr25_0, zr25_1, zr25_2, zr25_3, zr25_4, zr25_6, zr25_7, zr25_10, zr25_11, zr25_12, zr13_1, zr1_2, zr37_0, zr1_3, zr39_0, zr39_1, zr39_2, zr39_5, zr39_7, zr39_8, zr1_4, zr46_1, zr46_2, zr46_3, zr46_4, zr46_0, zr1_5, zr51_2, zr51_10, zr51_0, zr51_1, zr54_1, zr54_2, zr54_3, zr1_6, zr58_1, zr58_2, zr58_3, zr58_0, zr1_7, zr62_2, zr62_3, zr62_0, zr62_1, zr1_8, zr1_9, zr1_10, zr1_15, zr68_2, zr68_3, zr68_4, zr68_5, zr68_7, zr68_8, zr68_9, zr68_12, zr68_13, zr68_14, zr68_22, zr68_23, zr68_24, zr68_26, zr68_35, zr68_36, zr68_37, zr68_38, zr68_39, zr68_40, zr68_41, zr68_42, g3, w1, w2, p0, p1, kt, gt, c1, c2, c4]
          rw [eσ]
          exact gon (fun x => by rw [gr_iff] at x; omega) (fun x => by rw [sk_iff] at x; omega) (fun x => (in_iff.mp x).2.1 c4)
        · have ta := zWF_ta hq.2.1 _ c4
          have g7 : σ.1 7 (ztA A (e + ((k : Int) + 1))) = A (136 + ztA A (e + ((k : Int) + 1))) := (hq.2.2.1.2.1 _ ta.1 ta.2.1).2
          have w3 : w32 (100 * A (136 + ztA A (e + ((k : Int) + 1)))) = 100 * A (136 + ztA A (e + ((k : Int) + 1))) := w32_in (by omega) (by omega)
          have t0 := ta.1
          have t1 := ta.2.1
          by_cases c5 : zH S (k + 1) - 100 * A (e + ((k : Int) + 1)) < 100 * A (136 + ztA A (e + ((k : Int) + 1)))
          · simp (disch := first | assumption | omega) only [wpo_bind, wpo_some, wpo_gf, wpo_gk, wpo_ld, wpo_pf, wpo_pz, wpo_sd, wpo_sr, wpo_ln, wpo_idv, wpo_irm, wpo_lrm, wpo_ldv, wpo_cpy, mlet, mnar_int, mup_same, mup_cell, mup_slot, ite_true, ite_false, true_and, and_true, eq_self, or_true, true_or, and_self, Int.reduceLT, Int.reduceLE, Int.reduceEq, Int.reduceNe, Int.reduceAdd, Int.reduceSub, Int.reduceMul, Int.reduceNeg, ne_eq, not_false_eq_true, not_true_eq_false, if_pos, if_neg, false_or, or_false, zor_inl, zor_inr, false_and, and_false, zk1, zk2, zk3, zk4, zk5, zk6, zk7, zk8, zk9, zk10, zk11, zk12, zk13, zk14, zk15, zk16, zk17, zk18, zk19, zk20, zk21, zk22, zk23, zk24, zk25, zk26, zk27, zk28, zk29, zk30, zk31, zk32, zk33, zk34, zk35, zk36, zk37, zk38, zk39, zk40, zk41, zk42, zk43, zk44, zk45, zk46, zk47, zk48, zk49, zk50, zk51, zk52, zk53, zk54, zk55, zk56, zk57, zk58, zk59, zk60, zk61, zk62, zk63, zk64, zk65, zk66, zk67, zk68, zk69, zk70, zk71, zk72, zk73, zk74, zk75, zk76, zk77, zk78, zk79, zk80, zk81, zk82, zk83, zk84, zk85, zk86, zk87, zk88, zk89, zk90, zr2_0, zr2_1, zr2_2, zr2_3, zr2_4, zr2_6, zr2_7, zr2_10, zr2_11, zr2_12, zr1_0, zr1_1, zr14_0, zr14_1, zr14_2, zr14_3, zr14_4, zr14_6, zr14_7, zr14_10, zr14_11, zr14_12, zr13_0, zr25_0, zr25_1, zr25_2, zr25_3, zr25_4, zr25_6, zr25_7, zr25_10, zr25_11, zr25_12, zr13_1, zr1_2, zr37_0, zr1_3, zr39_0, zr39_1, zr39_2, zr39_5, zr39_7, zr39_8, zr1_4, zr46_1, zr46_2, zr46_3, zr46_4, zr46_0, zr1_5, zr51_2, zr51_10, zr51_0, zr51_1, zr54_1, zr54_2, zr54_3, zr1_6, zr58_1, zr58_2, zr58_3, zr58_0, zr1_7, zr62_2, zr62_3, zr62_0, zr62_1, zr1_8, zr1_9, zr1_10, zr1_15, zr68_2, zr68_3, zr68_4, zr68_5, zr68_7, zr68_8, zr68_9, zr68_12, zr68_13, zr68_14, zr68_22, zr68_23, zr68_24, zr68_26, zr68_35, zr68_36, zr68_37, zr68_38, zr68_39, zr68_40, zr68_41, zr68_42, g3, w1, w2, p0, p1, kt, gt, c1, c2, c4, t0, t1, g7, w3, c5]
            rw [eσ]
            exact st (Or.inr (Or.inr (in_iff.mpr ⟨c3, c4, by omega⟩)))
          · simp (disch := first | assumption | omega) only [wpo_bind, wpo_some, wpo_gf, wpo_gk, wpo_ld, wpo_pf, wpo_pz, wpo_sd, wpo_sr, wpo_ln, wpo_idv, wpo_irm, wpo_lrm, wpo_ldv, wpo_cpy, mlet, mnar_int, mup_same, mup_cell, mup_slot, ite_true, ite_false, true_and, and_true, eq_self, or_true, true_or, and_self, Int.reduceLT, Int.reduceLE, Int.reduceEq, Int.reduceNe, Int.reduceAdd, Int.reduceSub, Int.reduceMul, Int.reduceNeg, ne_eq, not_false_eq_true, not_true_eq_false, if_pos, if_neg, false_or, or_false, zor_inl, zor_inr, false_and, and_false, zk1, zk2, zk3, zk4, zk5, zk6, zk7, zk8, zk9, zk10, zk11, zk12, zk13, zk14, zk15, zk16, zk17, zk18, zk19, zk20, zk21, zk22, zk23, zk24, zk25, zk26, zk27, zk28, zk29, zk30, zk31, zk32, zk33, zk34, zk35, zk36, zk37, zk38, zk39, zk40, zk41, zk42, zk43, zk44, zk45, zk46, zk47, zk48, zk49, zk50, zk51, zk52, zk53, zk54, zk55, zk56, zk57, zk58, zk59, zk60, zk61, zk62, zk63, zk64, zk65, zk66, zk67, zk68, zk69, zk70, zk71, zk72, zk73, zk74, zk75, zk76, zk77, zk78, zk79, zk80, zk81, zk82, zk83, zk84, zk85, zk86, zk87, zk88, zk89, zk90, zr2_0, zr2_1, zr2_2, zr2_3, zr2_4, zr2_6, zr2_7, zr2_10, zr2_11, zr2_12, zr1_0, zr1_1, zr14_0, zr14_1, zr14_2, zr14_3, zr14_4, zr14_6, zr14_7, zr14_10, zr14_11, zr14_12, zr13_0, zr25_0, zr25_1, zr25_2, zr25_3, zr25_4, zr25_6, zr25_7, zr25_10, zr25_11, zr25_12, zr13_1, zr1_2, zr37_0, zr1_3, zr39_0, zr39_1, zr39_2, zr39_5, zr39_7, zr39_8, zr1_4, zr46_1, zr46_2, zr46_3, zr46_4, zr46_0, zr1_5, zr51_2, zr51_10, zr51_0, zr51_1, zr54_1, zr54_2, zr54_3, zr1_6, zr58_1, zr58_2, zr58_3, zr58_0, zr1_7, zr62_2, zr62_3, zr62_0, zr62_1, zr1_8, zr1_9, zr1_10, zr1_15, zr68_2, zr68_3, zr68_4, zr68_5, zr68_7, zr68_8, zr68_9, zr68_12, zr68_13, zr68_14, zr68_22, zr68_23, zr68_24, zr68_26, zr68_35, zr68_36, zr68_37, zr68_38, zr68_39, zr68_40, zr68_41, zr68_42, g3, w1, w2, p0, p1, kt, gt, c1, c2, c4, t0, t1, g7, w3, c5]
            rw [eσ]
            exact gon (fun x => by rw [gr_iff] at x; omega) (fun x => by rw [sk_iff] at x; omega) (fun x => by have := (in_iff.mp x).2.2; omega)
      · rw [if_neg c3] at gt
        simp (disch := first | assumption | omega) only [wpo_bind, wpo_some, wpo_gf, wpo_gk, wpo_ld, wpo_pf, wpo_pz, wpo_sd, wpo_sr, wpo_ln, wpo_idv, wpo_irm, wpo_lrm, wpo_ldv, wpo_cpy, mlet, mnar_int, mup_same, mup_cell, mup_slot, ite_true, ite_false, true_and, and_true, eq_self, or_true, true_or, and_self, Int.reduceLT, Int.reduceLE, Int.reduceEq, Int.reduceNe, Int.reduceAdd, Int.reduceSub, Int.reduceMul, Int.reduceNeg, ne_eq, not_false_eq_true, not_true_eq_false, if_pos, if_neg, false_or, or_false, zor_inl, zor_inr, false_and, and_false, zk1, zk2, zk3, zk4, zk5, zk6, zk7, zk8, zk9, zk10, zk11, zk12, zk13, zk14, zk15, zk16, zk17, zk18, zk19, zk20, zk21, zk22, zk23, zk24, zk25, zk26, zk27, zk28, zk29, zk30, zk31, zk32, zk33, zk34, zk35, zk36, zk37, zk38, zk39, zk40, zk41, zk42, zk43, zk44, zk45, zk46, zk47, zk48, zk49, zk50, zk51, zk52, zk53, zk54, zk55, zk56, zk57, zk58, zk59, zk60, zk61, zk62, zk63, zk64, zk65, zk66, zk67, zk68, zk69, zk70, zk71, zk72, zk73, zk74, zk75, zk76, zk77, zk78, zk79, zk80, zk81, zk82, zk83, zk84, zk85, zk86, zk87, zk88, zk89, zk90, zr2_0, zr2_1, zr2_2, zr2_3, zr2_4, zr2_6, zr2_7, zr2_10, zr2_11, zr2_12, zr1_0, zr1_1, zr14_0, zr14_1, zr14_2, zr14_3, zr14_4, zr14_6, zr14_7, zr14_10, zr14_11, zr14_12, zr13_0, zr25_0, zr25_1, zr25_2, zr25_3, zr25_4, zr25_6, zr25_7, zr25_10, zr25_11, zr25_12, zr13_1, zr1_2, zr37_0, zr1_3, zr39_0, zr39_1, zr39_2, zr39_5, zr39_7, zr39_8, zr1_4, zr46_1, zr46_2, zr46_3, zr46_4, zr46_0, zr1_5, zr51_2, zr51_10, zr51_0, zr51_1, zr54_1, zr54_2, zr54_3, zr1_6, zr58_1, zr58_2, zr58_3, zr58_0, zr1_7, zr62_2, zr62_3, zr62_0, zr62_1, zr1_8, zr1_9, zr1_10, zr1_15, zr68_2, zr68_3, zr68_4, zr68_5, zr68_7, zr68_8, zr68_9, zr68_12, zr68_13, zr68_14, zr68_22, zr68_23, zr68_24, zr68_26, zr68_35, zr68_36, zr68_37, zr68_38, zr68_39, zr68_40, zr68_41, zr68_42, g3, w1, w2, p0, p1, kt, gt, c1, c2]
        rw [eσ]
        exact gon (fun x => by rw [gr_iff] at x; omega) (fun x => by rw [sk_iff] at x; omega) (fun x => c3 (in_iff.mp x).1)
    · simp (disch := first | assumption | omega) only [wpo_bind, wpo_some, wpo_gf, wpo_gk, wpo_ld, wpo_pf, wpo_pz, wpo_sd, wpo_sr, wpo_ln, wpo_idv, wpo_irm, wpo_lrm, wpo_ldv, wpo_cpy, mlet, mnar_int, mup_same, mup_cell, mup_slot, ite_true, ite_false, true_and, and_true, eq_self, or_true, true_or, and_self, Int.reduceLT, Int.reduceLE, Int.reduceEq, Int.reduceNe, Int.reduceAdd, Int.reduceSub, Int.reduceMul, Int.reduceNeg, ne_eq, not_false_eq_true, not_true_eq_false, if_pos, if_neg, false_or, or_false, zor_inl, zor_inr, false_and, and_false, zk1, zk2, zk3, zk4, zk5, zk6, zk7, zk8, zk9, zk10, zk11, zk12, zk13, zk14, zk15, zk16, zk17, zk18, zk19, zk20, zk21, zk22, zk23, zk24, zk25, zk26, zk27, zk28, zk29, zk30, zk31, zk32, zk33, zk34, zk35, zk36, zk37, zk38, zk39, zk40, zk41, zk42, zk43, zk44, zk45, zk46, zk47, zk48, zk49, zk50, zk51, zk52, zk53, zk54, zk55, zk56, zk57, zk58, zk59, zk60, zk61, zk62, zk63, zk64, zk65, zk66, zk67, zk68, zk69, zk70, zk71, zk72, zk73, zk74, zk75, zk76, zk77, zk78, zk79, zk80, zk81, zk82, zk83, zk84, zk85, zk86, zk87, zk88, zk89, zk90, zr2_0, zr2_1, zr2_2, zr2_3, zr2_4, zr2_6, zr2_7, zr2_10, zr2_11, zr2_12, zr1_0, zr1_1, zr14_0, zr14_1, zr14_2, zr14_3, zr14_4, zr14_6, zr14_7, zr14_10, zr14_11, zr14_12, zr13_0, zr25_0, zr25_1, zr25_2, zr25_3, zr25_4, zr25_6, zr25_7, zr25_10, zr25_11, zr25_12, zr13_1, zr1_2, zr37_0, zr1_3, zr39_0, zr39_1, zr39_2, zr39_5, zr39_7, zr39_8, zr1_4, zr46_1, zr46_2, zr46_3, zr46_4, zr46_0, zr1_5, zr51_2, zr51_10, zr51_0, zr51_1, zr54_1, zr54_2, zr54_3, zr1_6, zr58_1, zr58_2, zr58_3, zr58_0, zr1_7, zr62_2, zr62_3, zr62_0, zr62_1, zr1_8, zr1_9, zr1_10, zr1_15, zr68_2, zr68_3, zr68_4, zr68_5, zr68_7, zr68_8, zr68_9, zr68_12, zr68_13, zr68_14, zr68_22, zr68_23, zr68_24, zr68_26, zr68_35, zr68_36, zr68_37, zr68_38, zr68_39, zr68_40, zr68_41, zr68_42, g3, w1, w2, p0, p1, kt, gt, c1, c2]
      rw [eσ]
      exact st (Or.inr (Or.inl (sk_iff.mpr (by omega))))
