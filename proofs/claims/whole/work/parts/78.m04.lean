noncomputable section
theorem znr_cl (x : Int) : znr x (-2000) 2000 = zcl x := rfl
/-- a ray of the reference ends -/
theorem m_end {S : zSc} {tr wh th ic : Int} {k : Nat} {σ : mS} (hB : zB σ) (hK : zK S = k) (e1 : zwh S = wh) (e2 : zth S = th) (e3 : zic S = ic) (h31 : σ.1 68 31 = zH S (zlo S k)) (h32 : σ.1 68 32 = (ztu S k).1) (h33 : σ.1 68 33 = zs S (k - 1)) (hh : ∀ j : Nat, j ≤ k → σ.1 82 (ze S + j) = zH S j) (hd : 0 ≤ tr → σ.1 68 34 = zd S k) :
    zRm S tr (mup (mup (mup (mup σ.1 68 27 wh) 68 28 (ze S + k)) 68 29 th) 68 30 ic, σ.2) ∧ zFg σ (mup (mup (mup (mup σ.1 68 27 wh) 68 28 (ze S + k)) 68 29 th) 68 30 ic, σ.2) := by
  constructor
  · refine ⟨?_, ?_, ?_, ?_, ?_, ?_, ?_, ?_, ?_⟩
    · show mup (mup (mup (mup σ.1 68 27 wh) 68 28 (ze S + k)) 68 29 th) 68 30 ic 68 27 = _; (try simp (disch := omega) only [mup_same, mup_cell, mup_slot]); exact e1.symm
    · show mup (mup (mup (mup σ.1 68 27 wh) 68 28 (ze S + k)) 68 29 th) 68 30 ic 68 28 = _; (try simp (disch := omega) only [mup_same, mup_cell, mup_slot]); unfold zpl; rw [hK]
    · show mup (mup (mup (mup σ.1 68 27 wh) 68 28 (ze S + k)) 68 29 th) 68 30 ic 68 29 = _; (try simp (disch := omega) only [mup_same, mup_cell, mup_slot]); exact e2.symm
    · show mup (mup (mup (mup σ.1 68 27 wh) 68 28 (ze S + k)) 68 29 th) 68 30 ic 68 30 = _; (try simp (disch := omega) only [mup_same, mup_cell, mup_slot]); exact e3.symm
    · show mup (mup (mup (mup σ.1 68 27 wh) 68 28 (ze S + k)) 68 29 th) 68 30 ic 68 31 = _; (try simp (disch := omega) only [mup_same, mup_cell, mup_slot]); rw [hK]; exact h31
    · show mup (mup (mup (mup σ.1 68 27 wh) 68 28 (ze S + k)) 68 29 th) 68 30 ic 68 32 = _; (try simp (disch := omega) only [mup_same, mup_cell, mup_slot]); rw [hK]; exact h32
    · show mup (mup (mup (mup σ.1 68 27 wh) 68 28 (ze S + k)) 68 29 th) 68 30 ic 68 33 = _; (try simp (disch := omega) only [mup_same, mup_cell, mup_slot]); unfold zsl; rw [hK]; exact h33
    · intro j hj; show mup (mup (mup (mup σ.1 68 27 wh) 68 28 (ze S + k)) 68 29 th) 68 30 ic 82 _ = _; (try simp (disch := omega) only [mup_same, mup_cell, mup_slot]); exact hh j (by omega)
    · intro ht; show mup (mup (mup (mup σ.1 68 27 wh) 68 28 (ze S + k)) 68 29 th) 68 30 ic 68 34 = _; (try simp (disch := omega) only [mup_same, mup_cell, mup_slot]); rw [hK]; exact hd ht
  · have f1 : zFg σ (mup σ.1 68 27 wh, σ.2) := zFg.slot hB (by decide) (by decide +kernel)
    have f2 := f1.trans (zFg.slot (i := 28) (v := ze S + k) f1.2.1 (by decide) (by decide +kernel))
    have f3 := f2.trans (zFg.slot (i := 29) (v := th) f2.2.1 (by decide) (by decide +kernel))
    exact f3.trans (zFg.slot (i := 30) (v := ic) f3.2.1 (by decide) (by decide +kernel))
set_option maxHeartbeats 8000000 in
theorem m_goes_88 {D : Int → (Int → Int) → Int} {A : Int → Int} {σ : mS} {hr bend eh a t sd pa l5 tr sign : Int} {k : Nat} (S : zSc) (eS : S = zSn D A hr bend eh a t sd pa) (hS : zSok S) (hm : zMQ D A σ) (hw : zWarm D A hr σ) (h0 : 0 ≤ hr) (h1 : hr < 24)
    (hk : A 182 + k < 63) (h33 : σ.1 68 33 = zs S k) (hsg : sign = (ztu S (k + 1)).2) (h32 : σ.1 68 32 = (ztu S (k + 1)).1) (h31 : σ.1 68 31 = zH S (zlo S (k + 1))) (hns : ∀ j, 0 < j → j ≤ k → ¬ zstop S j) (hh : ∀ j : Nat, j ≤ k + 1 → σ.1 82 (ze S + j) = zH S j) (hd : 0 ≤ tr → σ.1 68 34 = zd S (k + 1)) :
    wpo (M_Mo_goes_88 68 hr bend l5 tr (A 182 + ((k : Int) + 1)) (zH S (k + 1)) sign (if pa = 0 then ztA A (A 182 + ((k : Int) + 1)) else -1) σ) (zor (fun y => y.1 = A 182 + ((k : Int) + 1) ∧ y.2.1 = zH S (k + 1) ∧ zgm S tr (k + 1) y.2.2.1 y.2.2.2.1 y.2.2.2.2 ∧ zFg σ y.2.2.2.2) (fun _ => False)) := by
  have hB := hm.1
  have hA := hm.2.2.2.1
  have wf := hm.2.1
  have e1 : ze S = A 182 := by rw [eS]; rfl
  have e2 : zA S = A := by rw [eS]; rfl
  have e3 : zpa S = pa := by rw [eS]; rfl
  have e5 : zb S = bend := by rw [eS]; rfl
  have e6 : zW S = zWd D A hr := by rw [eS]; rfl
  have he := hS.2.2.2.1
  rw [e1] at he
  have hbend := hS.2.2.1
  rw [e5] at hbend
  have hH := zH_bd hS (k + 1)
  have hsb := zs_bd hS k
  have ek : A 182 + ((k : Int) + 1) = A 182 + ((k + 1 : Nat) : Int) := by omega
  have p0 : 0 ≤ A 182 + ((k : Int) + 1) := by omega
  have p1 : A 182 + ((k : Int) + 1) < 64 := by omega
  have hwf := wf.1 _ p0 p1
  have er := f_riseOf hB hA p0 p1
  have w1 : w32 (100 * A (A 182 + ((k : Int) + 1))) = 100 * A (A 182 + ((k : Int) + 1)) := w32_in (by omega) (by omega)
  have w2 : w32 (zH S (k + 1) - 100 * A (A 182 + ((k : Int) + 1))) = zH S (k + 1) - 100 * A (A 182 + ((k : Int) + 1)) := w32_in (by omega) (by omega)
  have gr_iff : zgr S (k + 1) ↔ zH S (k + 1) < 100 * A (A 182 + ((k : Int) + 1)) := by unfold zgr; rw [e1, e2, ek]
  have sk_iff : zsk S (k + 1) ↔ 3200 ≤ zH S (k + 1) := Iff.rfl
  have in_iff : zin S (k + 1) ↔ pa = 0 ∧ ztA A (A 182 + ((k : Int) + 1)) ≠ -1 ∧ zH S (k + 1) < 100 * (A (A 182 + ((k : Int) + 1)) + A (136 + ztA A (A 182 + ((k : Int) + 1)))) := by unfold zin; rw [e1, e2, e3, ek]
  have hK : zstop S (k + 1) → zK S = k + 1 := fun hz => zK_eq (by omega) hz (by omega) (by omega) (fun j j0 j1 => hns j j0 (by omega))
  have ne63 : ¬ ze S = 63 := by omega
  have pl : zK S = k + 1 → zpl S = A 182 + ((k : Int) + 1) := by intro x; unfold zpl; rw [x, e1, ek]
  have ex : ze S + ((k + 1 : Nat) : Int) = A 182 + ((k : Int) + 1) := by rw [e1]; omega
  have fend : ∀ wh th ic : Int, zK S = k + 1 → zwh S = wh → zth S = th → zic S = ic → zRm S tr (mup (mup (mup (mup σ.1 68 27 wh) 68 28 (A 182 + ((k : Int) + 1))) 68 29 th) 68 30 ic, σ.2) ∧ zFg σ (mup (mup (mup (mup σ.1 68 27 wh) 68 28 (A 182 + ((k : Int) + 1))) 68 29 th) 68 30 ic, σ.2) := by
    intro wh th ic x1 x2 x3 x4
    have := m_end (tr := tr) hB x1 x2 x3 x4 h31 h32 h33 hh hd
    rw [ex] at this
    exact this
  have en : ∀ w : Int, w ≠ 1 → zwh S = w → zth S = -1 ∧ zic S = -1 := by
    intro w hw1 hw2
    unfold zth zic
    rw [if_neg (by rw [hw2]; exact hw1), if_neg (by rw [hw2]; exact hw1)]
    exact ⟨rfl, rfl⟩
  have key : ∀ Q : ((Int × Int × Int × Int × mS) ⊕ (Int × mS)) → Prop, (∀ sg' mo' σ2, zgm S tr (k + 1) sg' mo' σ2 → zFg σ σ2 → Q (.inl (A 182 + ((k : Int) + 1), zH S (k + 1), sg', mo', σ2))) → wpo (M_Mo_goes_88 68 hr bend l5 tr (A 182 + ((k : Int) + 1)) (zH S (k + 1)) sign (if pa = 0 then ztA A (A 182 + ((k : Int) + 1)) else -1) σ) Q := by
    intro Q hQ
    have on : ¬ zgr S (k + 1) → ¬ zsk S (k + 1) → ¬ zin S (k + 1) → wpo (M_Mo_goes_147 68 hr bend l5 tr (A 182 + ((k : Int) + 1)) (zH S (k + 1)) sign 0 σ) Q := by
      intro n1 n2 n3
      have H0 : 0 ≤ zH S (k + 1) := by rw [gr_iff] at n1; omega
      have H1 : zH S (k + 1) < 3200 := by rw [sk_iff] at n2; omega
      unfold M_Mo_goes_147
      by_cases c : A 182 + ((k : Int) + 1) = 63
      · have hz : zstop S (k + 1) := Or.inr (Or.inr (Or.inr (by rw [e1]; omega)))
        have hk1 := hK hz
        have w0 : zwh S = 2 := by unfold zwh; rw [if_neg ne63, hk1, if_neg n1, if_neg n2, if_neg n3]
        have en2 := en 2 (by decide) w0
        have fe := fend 2 (-1) (-1) hk1 w0 en2.1 en2.2
        have ee := f_ends (a := 2) (b := A 182 + ((k : Int) + 1)) (c := -1) (d := -1) hB
        rw [if_pos c]
        (try simp (disch := first | assumption | omega) only [wpo_bind, wpo_some, wpo_gf, wpo_gk, wpo_ld, wpo_pf, wpo_pz, wpo_sd, wpo_sr, wpo_ln, wpo_idv, wpo_irm, wpo_lrm, wpo_ldv, wpo_cpy, mlet, mnar_int, mup_same, mup_cell, mup_slot, ite_true, ite_false, true_and, and_true, eq_self, or_true, true_or, and_self, Int.reduceLT, Int.reduceLE, Int.reduceEq, Int.reduceNe, Int.reduceAdd, Int.reduceSub, Int.reduceMul, Int.reduceNeg, ne_eq, not_false_eq_true, not_true_eq_false, false_or, or_false, zor_inl, zor_inr, Bool.false_eq_true, false_and, and_false, zk1, zk2, zk3, zk4, zk5, zk6, zk7, zk8, zk9, zk10, zk11, zk12, zk13, zk14, zk15, zk16, zk17, zk18, zk19, zk20, zk21, zk22, zk23, zk24, zk25, zk26, zk27, zk28, zk29, zk30, zk31, zk32, zk33, zk34, zk35, zk36, zk37, zk38, zk39, zk40, zk41, zk42, zk43, zk44, zk45, zk46, zk47, zk48, zk49, zk50, zk51, zk52, zk53, zk54, zk55, zk56, zk57, zk58, zk59, zk60, zk61, zk62, zk63, zk64, zk65, zk66, zk67, zk68, zk69, zk70, zk71, zk72, zk73, zk74, zk75, zk76, zk77, zk78, zk79, zk80, zk81, zk82, zk83, zk84, zk85, zk86, zk87, zk88, zk89, zk90, zr2_0, zr2_1, zr2_2, zr2_3, zr2_4, zr2_6, zr2_7, zr2_10, zr2_11, zr2_12, zr1_0, zr1_1, zr14_0, zr14_1, zr14_2, zr14_3, zr14_4, zr14_6, zr14_7, zr14_10, zr14_11, zr14_12, zr13_0, zr25_0, zr25_1, zr25_2, zr25_3, zr25_4, zr25_6, zr25_7, zr25_10, zr25_11, zr25_12, zr13_1, zr1_2, zr37_0, zr1_3, zr39_0, zr39_1, zr39_2, zr39_5, zr39_7, zr39_8, zr1_4, zr46_1, zr46_2, zr46_3, zr46_4, zr46_0, zr1_5, zr51_2, zr51_10, zr51_0, zr51_1, zr54_1, zr54_2, zr54_3, zr1_6, zr58_1, zr58_2, zr58_3, zr58_0, zr1_7, zr62_2, zr62_3, zr62_0, zr62_1, zr1_8, zr1_9, zr1_10, zr1_15, zr68_2, zr68_3, zr68_4, zr68_5, zr68_7, zr68_8, zr68_9, zr68_12, zr68_13, zr68_14, zr68_22, zr68_23, zr68_24, zr68_26, zr68_35, zr68_36, zr68_37, zr68_38, zr68_39, zr68_40, zr68_41, zr68_42, ee])
        exact hQ _ _ _ (Or.inr ⟨rfl, fe.1⟩) fe.2
      · have dv := tdiv100 H0 H1
        have ew := f_warmer (p := A 182 + ((k : Int) + 1)) (i := zH S (k + 1) / 100) hB hw hm.2.2.1 h0 h1 p0 p1 (by omega) (by omega)
        have b0 := zpull_bd hS (A 182 + ((k : Int) + 1)) (zH S (k + 1) / 100)
        rw [e6] at b0
        have mb : -1341 ≤ bend * zpull (zWd D A hr) (A 182 + ((k : Int) + 1)) (zH S (k + 1) / 100) ∧ bend * zpull (zWd D A hr) (A 182 + ((k : Int) + 1)) (zH S (k + 1) / 100) ≤ 1341 := by
          constructor
          · have := Int.mul_le_mul_of_nonneg_left b0.1 hbend.1
            omega
          · have := Int.mul_le_mul_of_nonneg_left b0.2 hbend.1
            omega
        have m1 := w32_in (x := bend * zpull (zWd D A hr) (A 182 + ((k : Int) + 1)) (zH S (k + 1) / 100)) (by omega) (by omega)
        have m2 := w32_in (x := zs S k + bend * zpull (zWd D A hr) (A 182 + ((k : Int) + 1)) (zH S (k + 1) / 100)) (by omega) (by omega)
        have ss : zcl (zs S k + bend * zpull (zWd D A hr) (A 182 + ((k : Int) + 1)) (zH S (k + 1) / 100)) = zs S (k + 1) := by rw [zs_succ, e5, e6, e1]
        have st := ztu_step S (k + 1)
        have tb := ztu_bd S (k + 1)
        have w63 : A 182 + ((k : Int) + 1) < 63 := by omega
        have run : ∀ (sg' n' : Int), sg' = (ztu S (k + 2)).2 → n' = (ztu S (k + 2)).1 → zgm S tr (k + 1) sg' 1 (mup (mup σ.1 68 33 (zs S (k + 1))) 68 32 n', σ.2) ∧ zFg σ (mup (mup σ.1 68 33 (zs S (k + 1))) 68 32 n', σ.2) := by
          intro sg' n' x1 x2
          have f1 : zFg σ (mup σ.1 68 33 (zs S (k + 1)), σ.2) := zFg.slot hB (by decide) (by decide +kernel)
          refine ⟨Or.inl ⟨rfl, by rw [ex]; exact w63, ?_, x1, ?_, ?_, ?_, ?_, ?_⟩, f1.trans (zFg.slot (i := 32) (v := n') f1.2.1 (by decide) (by decide +kernel))⟩
          · show mup (mup σ.1 68 33 (zs S (k + 1))) 68 32 n' 68 33 = _; (try simp (disch := omega) only [mup_same, mup_cell, mup_slot])
          · show mup (mup σ.1 68 33 (zs S (k + 1))) 68 32 n' 68 32 = _; (try simp (disch := omega) only [mup_same, mup_cell, mup_slot]); exact x2
          · show mup (mup σ.1 68 33 (zs S (k + 1))) 68 32 n' 68 31 = _; (try simp (disch := omega) only [mup_same, mup_cell, mup_slot]); exact h31
          · intro j j0 j1
            by_cases cj : j = k + 1
            · rw [cj]; unfold zstop
              intro x
              rcases x with x | x | x | x
              · exact n1 x
              · exact n2 x
              · exact n3 x
              · rw [e1] at x; omega
            · exact hns j j0 (by omega)
          · intro j hj; show mup (mup σ.1 68 33 (zs S (k + 1))) 68 32 n' 82 _ = _; (try simp (disch := omega) only [mup_same, mup_cell, mup_slot]); exact hh j hj
          · intro ht; show mup (mup σ.1 68 33 (zs S (k + 1))) 68 32 n' 68 34 = _; (try simp (disch := omega) only [mup_same, mup_cell, mup_slot]); exact hd ht
        rw [if_neg c]
        unfold M_Mo_goes_190 M_Mo_goes_191
        have sb2 : -1 ≤ zsg (zs S (k + 1)) ∧ zsg (zs S (k + 1)) ≤ 1 := by unfold zsg; split <;> (try split) <;> omega
        have wn0 : w32 ((ztu S (k + 1)).1 + 0) = (ztu S (k + 1)).1 := by rw [Int.add_zero]; exact w32_in (by omega) (by omega)
        have wn1 : w32 ((ztu S (k + 1)).1 + 1) = (ztu S (k + 1)).1 + 1 := w32_in (by omega) (by omega)
        by_cases z0 : zsg (zs S (k + 1)) = 0
        · rw [if_pos z0] at st
          have rn := run (ztu S (k + 1)).2 (ztu S (k + 1)).1 (by rw [st]) (by rw [st])
          (try simp (disch := first | assumption | omega) only [wpo_bind, wpo_some, wpo_gf, wpo_gk, wpo_ld, wpo_pf, wpo_pz, wpo_sd, wpo_sr, wpo_ln, wpo_idv, wpo_irm, wpo_lrm, wpo_ldv, wpo_cpy, mlet, mnar_int, mup_same, mup_cell, mup_slot, ite_true, ite_false, true_and, and_true, eq_self, or_true, true_or, and_self, Int.reduceLT, Int.reduceLE, Int.reduceEq, Int.reduceNe, Int.reduceAdd, Int.reduceSub, Int.reduceMul, Int.reduceNeg, ne_eq, not_false_eq_true, not_true_eq_false, false_or, or_false, zor_inl, zor_inr, Bool.false_eq_true, false_and, and_false, zk1, zk2, zk3, zk4, zk5, zk6, zk7, zk8, zk9, zk10, zk11, zk12, zk13, zk14, zk15, zk16, zk17, zk18, zk19, zk20, zk21, zk22, zk23, zk24, zk25, zk26, zk27, zk28, zk29, zk30, zk31, zk32, zk33, zk34, zk35, zk36, zk37, zk38, zk39, zk40, zk41, zk42, zk43, zk44, zk45, zk46, zk47, zk48, zk49, zk50, zk51, zk52, zk53, zk54, zk55, zk56, zk57, zk58, zk59, zk60, zk61, zk62, zk63, zk64, zk65, zk66, zk67, zk68, zk69, zk70, zk71, zk72, zk73, zk74, zk75, zk76, zk77, zk78, zk79, zk80, zk81, zk82, zk83, zk84, zk85, zk86, zk87, zk88, zk89, zk90, zr2_0, zr2_1, zr2_2, zr2_3, zr2_4, zr2_6, zr2_7, zr2_10, zr2_11, zr2_12, zr1_0, zr1_1, zr14_0, zr14_1, zr14_2, zr14_3, zr14_4, zr14_6, zr14_7, zr14_10, zr14_11, zr14_12, zr13_0, zr25_0, zr25_1, zr25_2, zr25_3, zr25_4, zr25_6, zr25_7, zr25_10, zr25_11, zr25_12, zr13_1, zr1_2, zr37_0, zr1_3, zr39_0, zr39_1, zr39_2, zr39_5, zr39_7, zr39_8, zr1_4, zr46_1, zr46_2, zr46_3, zr46_4, zr46_0, zr1_5, zr51_2, zr51_10, zr51_0, zr51_1, zr54_1, zr54_2, zr54_3, zr1_6, zr58_1, zr58_2, zr58_3, zr58_0, zr1_7, zr62_2, zr62_3, zr62_0, zr62_1, zr1_8, zr1_9, zr1_10, zr1_15, zr68_2, zr68_3, zr68_4, zr68_5, zr68_7, zr68_8, zr68_9, zr68_12, zr68_13, zr68_14, zr68_22, zr68_23, zr68_24, zr68_26, zr68_35, zr68_36, zr68_37, zr68_38, zr68_39, zr68_40, zr68_41, zr68_42, h33, dv, ew, m1, m2, f_nearest, znr_cl, ss, f_signOf, h32, z0, wn0, hsg])
          exact hQ _ _ _ rn.1 rn.2
        · rw [if_neg z0] at st
          by_cases z1 : (ztu S (k + 1)).2 = 0
          · rw [if_neg (fun x => x.1 z1), Int.add_zero] at st
            have rn := run (zsg (zs S (k + 1))) (ztu S (k + 1)).1 (by rw [st]) (by rw [st])
            (try simp (disch := first | assumption | omega) only [wpo_bind, wpo_some, wpo_gf, wpo_gk, wpo_ld, wpo_pf, wpo_pz, wpo_sd, wpo_sr, wpo_ln, wpo_idv, wpo_irm, wpo_lrm, wpo_ldv, wpo_cpy, mlet, mnar_int, mup_same, mup_cell, mup_slot, ite_true, ite_false, true_and, and_true, eq_self, or_true, true_or, and_self, Int.reduceLT, Int.reduceLE, Int.reduceEq, Int.reduceNe, Int.reduceAdd, Int.reduceSub, Int.reduceMul, Int.reduceNeg, ne_eq, not_false_eq_true, not_true_eq_false, false_or, or_false, zor_inl, zor_inr, Bool.false_eq_true, false_and, and_false, zk1, zk2, zk3, zk4, zk5, zk6, zk7, zk8, zk9, zk10, zk11, zk12, zk13, zk14, zk15, zk16, zk17, zk18, zk19, zk20, zk21, zk22, zk23, zk24, zk25, zk26, zk27, zk28, zk29, zk30, zk31, zk32, zk33, zk34, zk35, zk36, zk37, zk38, zk39, zk40, zk41, zk42, zk43, zk44, zk45, zk46, zk47, zk48, zk49, zk50, zk51, zk52, zk53, zk54, zk55, zk56, zk57, zk58, zk59, zk60, zk61, zk62, zk63, zk64, zk65, zk66, zk67, zk68, zk69, zk70, zk71, zk72, zk73, zk74, zk75, zk76, zk77, zk78, zk79, zk80, zk81, zk82, zk83, zk84, zk85, zk86, zk87, zk88, zk89, zk90, zr2_0, zr2_1, zr2_2, zr2_3, zr2_4, zr2_6, zr2_7, zr2_10, zr2_11, zr2_12, zr1_0, zr1_1, zr14_0, zr14_1, zr14_2, zr14_3, zr14_4, zr14_6, zr14_7, zr14_10, zr14_11, zr14_12, zr13_0, zr25_0, zr25_1, zr25_2, zr25_3, zr25_4, zr25_6, zr25_7, zr25_10, zr25_11, zr25_12, zr13_1, zr1_2, zr37_0, zr1_3, zr39_0, zr39_1, zr39_2, zr39_5, zr39_7, zr39_8, zr1_4, zr46_1, zr46_2, zr46_3, zr46_4, zr46_0, zr1_5, zr51_2, zr51_10, zr51_0, zr51_1, zr54_1, zr54_2, zr54_3, zr1_6, zr58_1, zr58_2, zr58_3, zr58_0, zr1_7, zr62_2, zr62_3, zr62_0, zr62_1, zr1_8, zr1_9, zr1_10, zr1_15, zr68_2, zr68_3, zr68_4, zr68_5, zr68_7, zr68_8, zr68_9, zr68_12, zr68_13, zr68_14, zr68_22, zr68_23, zr68_24, zr68_26, zr68_35, zr68_36, zr68_37, zr68_38, zr68_39, zr68_40, zr68_41, zr68_42, h33, dv, ew, m1, m2, f_nearest, znr_cl, ss, f_signOf, h32, z0, wn0, hsg, z1])
            exact hQ _ _ _ rn.1 rn.2
          · by_cases z2 : zsg (zs S (k + 1)) = (ztu S (k + 1)).2
            · rw [if_neg (fun x => x.2 z2), Int.add_zero] at st
              have rn := run (zsg (zs S (k + 1))) (ztu S (k + 1)).1 (by rw [st]) (by rw [st])
              rw [z2] at rn
              (try simp (disch := first | assumption | omega) only [wpo_bind, wpo_some, wpo_gf, wpo_gk, wpo_ld, wpo_pf, wpo_pz, wpo_sd, wpo_sr, wpo_ln, wpo_idv, wpo_irm, wpo_lrm, wpo_ldv, wpo_cpy, mlet, mnar_int, mup_same, mup_cell, mup_slot, ite_true, ite_false, true_and, and_true, eq_self, or_true, true_or, and_self, Int.reduceLT, Int.reduceLE, Int.reduceEq, Int.reduceNe, Int.reduceAdd, Int.reduceSub, Int.reduceMul, Int.reduceNeg, ne_eq, not_false_eq_true, not_true_eq_false, false_or, or_false, zor_inl, zor_inr, Bool.false_eq_true, false_and, and_false, zk1, zk2, zk3, zk4, zk5, zk6, zk7, zk8, zk9, zk10, zk11, zk12, zk13, zk14, zk15, zk16, zk17, zk18, zk19, zk20, zk21, zk22, zk23, zk24, zk25, zk26, zk27, zk28, zk29, zk30, zk31, zk32, zk33, zk34, zk35, zk36, zk37, zk38, zk39, zk40, zk41, zk42, zk43, zk44, zk45, zk46, zk47, zk48, zk49, zk50, zk51, zk52, zk53, zk54, zk55, zk56, zk57, zk58, zk59, zk60, zk61, zk62, zk63, zk64, zk65, zk66, zk67, zk68, zk69, zk70, zk71, zk72, zk73, zk74, zk75, zk76, zk77, zk78, zk79, zk80, zk81, zk82, zk83, zk84, zk85, zk86, zk87, zk88, zk89, zk90, zr2_0, zr2_1, zr2_2, zr2_3, zr2_4, zr2_6, zr2_7, zr2_10, zr2_11, zr2_12, zr1_0, zr1_1, zr14_0, zr14_1, zr14_2, zr14_3, zr14_4, zr14_6, zr14_7, zr14_10, zr14_11, zr14_12, zr13_0, zr25_0, zr25_1, zr25_2, zr25_3, zr25_4, zr25_6, zr25_7, zr25_10, zr25_11, zr25_12, zr13_1, zr1_2, zr37_0, zr1_3, zr39_0, zr39_1, zr39_2, zr39_5, zr39_7, zr39_8, zr1_4, zr46_1, zr46_2, zr46_3, zr46_4, zr46_0, zr1_5, zr51_2, zr51_10, zr51_0, zr51_1, zr54_1, zr54_2, zr54_3, zr1_6, zr58_1, zr58_2, zr58_3, zr58_0, zr1_7, zr62_2, zr62_3, zr62_0, zr62_1, zr1_8, zr1_9, zr1_10, zr1_15, zr68_2, zr68_3, zr68_4, zr68_5, zr68_7, zr68_8, zr68_9, zr68_12, zr68_13, zr68_14, zr68_22, zr68_23, zr68_24, zr68_26, zr68_35, zr68_36, zr68_37, zr68_38, zr68_39, zr68_40, zr68_41, zr68_42, h33, dv, ew, m1, m2, f_nearest, znr_cl, ss, f_signOf, h32, wn0, hsg, z2, z1])
              exact hQ _ _ _ rn.1 rn.2
            · rw [if_pos ⟨z1, z2⟩] at st
              have rn := run (zsg (zs S (k + 1))) ((ztu S (k + 1)).1 + 1) (by rw [st]) (by rw [st])
              (try simp (disch := first | assumption | omega) only [wpo_bind, wpo_some, wpo_gf, wpo_gk, wpo_ld, wpo_pf, wpo_pz, wpo_sd, wpo_sr, wpo_ln, wpo_idv, wpo_irm, wpo_lrm, wpo_ldv, wpo_cpy, mlet, mnar_int, mup_same, mup_cell, mup_slot, ite_true, ite_false, true_and, and_true, eq_self, or_true, true_or, and_self, Int.reduceLT, Int.reduceLE, Int.reduceEq, Int.reduceNe, Int.reduceAdd, Int.reduceSub, Int.reduceMul, Int.reduceNeg, ne_eq, not_false_eq_true, not_true_eq_false, false_or, or_false, zor_inl, zor_inr, Bool.false_eq_true, false_and, and_false, zk1, zk2, zk3, zk4, zk5, zk6, zk7, zk8, zk9, zk10, zk11, zk12, zk13, zk14, zk15, zk16, zk17, zk18, zk19, zk20, zk21, zk22, zk23, zk24, zk25, zk26, zk27, zk28, zk29, zk30, zk31, zk32, zk33, zk34, zk35, zk36, zk37, zk38, zk39, zk40, zk41, zk42, zk43, zk44, zk45, zk46, zk47, zk48, zk49, zk50, zk51, zk52, zk53, zk54, zk55, zk56, zk57, zk58, zk59, zk60, zk61, zk62, zk63, zk64, zk65, zk66, zk67, zk68, zk69, zk70, zk71, zk72, zk73, zk74, zk75, zk76, zk77, zk78, zk79, zk80, zk81, zk82, zk83, zk84, zk85, zk86, zk87, zk88, zk89, zk90, zr2_0, zr2_1, zr2_2, zr2_3, zr2_4, zr2_6, zr2_7, zr2_10, zr2_11, zr2_12, zr1_0, zr1_1, zr14_0, zr14_1, zr14_2, zr14_3, zr14_4, zr14_6, zr14_7, zr14_10, zr14_11, zr14_12, zr13_0, zr25_0, zr25_1, zr25_2, zr25_3, zr25_4, zr25_6, zr25_7, zr25_10, zr25_11, zr25_12, zr13_1, zr1_2, zr37_0, zr1_3, zr39_0, zr39_1, zr39_2, zr39_5, zr39_7, zr39_8, zr1_4, zr46_1, zr46_2, zr46_3, zr46_4, zr46_0, zr1_5, zr51_2, zr51_10, zr51_0, zr51_1, zr54_1, zr54_2, zr54_3, zr1_6, zr58_1, zr58_2, zr58_3, zr58_0, zr1_7, zr62_2, zr62_3, zr62_0, zr62_1, zr1_8, zr1_9, zr1_10, zr1_15, zr68_2, zr68_3, zr68_4, zr68_5, zr68_7, zr68_8, zr68_9, zr68_12, zr68_13, zr68_14, zr68_22, zr68_23, zr68_24, zr68_26, zr68_35, zr68_36, zr68_37, zr68_38, zr68_39, zr68_40, zr68_41, zr68_42, h33, dv, ew, m1, m2, f_nearest, znr_cl, ss, f_signOf, h32, z0, wn1, hsg, z1, z2])
              exact hQ _ _ _ rn.1 rn.2
    unfold M_Mo_goes_88
    by_cases c1 : zH S (k + 1) < 100 * A (A 182 + ((k : Int) + 1))
    · have g := gr_iff.mpr c1
      have hk1 := hK (Or.inl g)
      have w0 : zwh S = 0 := by unfold zwh; rw [if_neg ne63, hk1, if_pos g]
      have en2 := en 0 (by decide) w0
      have fe := fend 0 (-1) (-1) hk1 w0 en2.1 en2.2
      have ee := f_ends (a := 0) (b := A 182 + ((k : Int) + 1)) (c := -1) (d := -1) hB
      (try simp (disch := first | assumption | omega) only [wpo_bind, wpo_some, wpo_gf, wpo_gk, wpo_ld, wpo_pf, wpo_pz, wpo_sd, wpo_sr, wpo_ln, wpo_idv, wpo_irm, wpo_lrm, wpo_ldv, wpo_cpy, mlet, mnar_int, mup_same, mup_cell, mup_slot, ite_true, ite_false, true_and, and_true, eq_self, or_true, true_or, and_self, Int.reduceLT, Int.reduceLE, Int.reduceEq, Int.reduceNe, Int.reduceAdd, Int.reduceSub, Int.reduceMul, Int.reduceNeg, ne_eq, not_false_eq_true, not_true_eq_false, false_or, or_false, zor_inl, zor_inr, Bool.false_eq_true, false_and, and_false, zk1, zk2, zk3, zk4, zk5, zk6, zk7, zk8, zk9, zk10, zk11, zk12, zk13, zk14, zk15, zk16, zk17, zk18, zk19, zk20, zk21, zk22, zk23, zk24, zk25, zk26, zk27, zk28, zk29, zk30, zk31, zk32, zk33, zk34, zk35, zk36, zk37, zk38, zk39, zk40, zk41, zk42, zk43, zk44, zk45, zk46, zk47, zk48, zk49, zk50, zk51, zk52, zk53, zk54, zk55, zk56, zk57, zk58, zk59, zk60, zk61, zk62, zk63, zk64, zk65, zk66, zk67, zk68, zk69, zk70, zk71, zk72, zk73, zk74, zk75, zk76, zk77, zk78, zk79, zk80, zk81, zk82, zk83, zk84, zk85, zk86, zk87, zk88, zk89, zk90, zr2_0, zr2_1, zr2_2, zr2_3, zr2_4, zr2_6, zr2_7, zr2_10, zr2_11, zr2_12, zr1_0, zr1_1, zr14_0, zr14_1, zr14_2, zr14_3, zr14_4, zr14_6, zr14_7, zr14_10, zr14_11, zr14_12, zr13_0, zr25_0, zr25_1, zr25_2, zr25_3, zr25_4, zr25_6, zr25_7, zr25_10, zr25_11, zr25_12, zr13_1, zr1_2, zr37_0, zr1_3, zr39_0, zr39_1, zr39_2, zr39_5, zr39_7, zr39_8, zr1_4, zr46_1, zr46_2, zr46_3, zr46_4, zr46_0, zr1_5, zr51_2, zr51_10, zr51_0, zr51_1, zr54_1, zr54_2, zr54_3, zr1_6, zr58_1, zr58_2, zr58_3, zr58_0, zr1_7, zr62_2, zr62_3, zr62_0, zr62_1, zr1_8, zr1_9, zr1_10, zr1_15, zr68_2, zr68_3, zr68_4, zr68_5, zr68_7, zr68_8, zr68_9, zr68_12, zr68_13, zr68_14, zr68_22, zr68_23, zr68_24, zr68_26, zr68_35, zr68_36, zr68_37, zr68_38, zr68_39, zr68_40, zr68_41, zr68_42, er, w1, c1, ee])
      exact hQ _ _ _ (Or.inr ⟨rfl, fe.1⟩) fe.2
    · have ng : ¬ zgr S (k + 1) := fun x => c1 (gr_iff.mp x)
      by_cases c2 : zH S (k + 1) < 3200
      · have nsk : ¬ zsk S (k + 1) := fun x => by have := sk_iff.mp x; omega
        by_cases c3 : pa = 0
        · by_cases c4 : ztA A (A 182 + ((k : Int) + 1)) = -1
          · (try simp (disch := first | assumption | omega) only [wpo_bind, wpo_some, wpo_gf, wpo_gk, wpo_ld, wpo_pf, wpo_pz, wpo_sd, wpo_sr, wpo_ln, wpo_idv, wpo_irm, wpo_lrm, wpo_ldv, wpo_cpy, mlet, mnar_int, mup_same, mup_cell, mup_slot, ite_true, ite_false, true_and, and_true, eq_self, or_true, true_or, and_self, Int.reduceLT, Int.reduceLE, Int.reduceEq, Int.reduceNe, Int.reduceAdd, Int.reduceSub, Int.reduceMul, Int.reduceNeg, ne_eq, not_false_eq_true, not_true_eq_false, false_or, or_false, zor_inl, zor_inr, Bool.false_eq_true, false_and, and_false, zk1, zk2, zk3, zk4, zk5, zk6, zk7, zk8, zk9, zk10, zk11, zk12, zk13, zk14, zk15, zk16, zk17, zk18, zk19, zk20, zk21, zk22, zk23, zk24, zk25, zk26, zk27, zk28, zk29, zk30, zk31, zk32, zk33, zk34, zk35, zk36, zk37, zk38, zk39, zk40, zk41, zk42, zk43, zk44, zk45, zk46, zk47, zk48, zk49, zk50, zk51, zk52, zk53, zk54, zk55, zk56, zk57, zk58, zk59, zk60, zk61, zk62, zk63, zk64, zk65, zk66, zk67, zk68, zk69, zk70, zk71, zk72, zk73, zk74, zk75, zk76, zk77, zk78, zk79, zk80, zk81, zk82, zk83, zk84, zk85, zk86, zk87, zk88, zk89, zk90, zr2_0, zr2_1, zr2_2, zr2_3, zr2_4, zr2_6, zr2_7, zr2_10, zr2_11, zr2_12, zr1_0, zr1_1, zr14_0, zr14_1, zr14_2, zr14_3, zr14_4, zr14_6, zr14_7, zr14_10, zr14_11, zr14_12, zr13_0, zr25_0, zr25_1, zr25_2, zr25_3, zr25_4, zr25_6, zr25_7, zr25_10, zr25_11, zr25_12, zr13_1, zr1_2, zr37_0, zr1_3, zr39_0, zr39_1, zr39_2, zr39_5, zr39_7, zr39_8, zr1_4, zr46_1, zr46_2, zr46_3, zr46_4, zr46_0, zr1_5, zr51_2, zr51_10, zr51_0, zr51_1, zr54_1, zr54_2, zr54_3, zr1_6, zr58_1, zr58_2, zr58_3, zr58_0, zr1_7, zr62_2, zr62_3, zr62_0, zr62_1, zr1_8, zr1_9, zr1_10, zr1_15, zr68_2, zr68_3, zr68_4, zr68_5, zr68_7, zr68_8, zr68_9, zr68_12, zr68_13, zr68_14, zr68_22, zr68_23, zr68_24, zr68_26, zr68_35, zr68_36, zr68_37, zr68_38, zr68_39, zr68_40, zr68_41, zr68_42, er, w1, c1, c2, c3, c4])
            exact on ng nsk (fun x => (in_iff.mp x).2.1 c4)
          · have ta := zWF_ta wf _ c4
            have wt : w32 (136 + ztA A (A 182 + ((k : Int) + 1))) = 136 + ztA A (A 182 + ((k : Int) + 1)) := w32_in (by omega) (by omega)
            have t0 : 0 ≤ 136 + ztA A (A 182 + ((k : Int) + 1)) := by omega
            have t1 : 136 + ztA A (A 182 + ((k : Int) + 1)) < 4994 := by omega
            have w3 : w32 (A (A 182 + ((k : Int) + 1)) + A (136 + ztA A (A 182 + ((k : Int) + 1)))) = A (A 182 + ((k : Int) + 1)) + A (136 + ztA A (A 182 + ((k : Int) + 1))) := w32_in (by omega) (by omega)
            have w4 : w32 (100 * (A (A 182 + ((k : Int) + 1)) + A (136 + ztA A (A 182 + ((k : Int) + 1))))) = 100 * (A (A 182 + ((k : Int) + 1)) + A (136 + ztA A (A 182 + ((k : Int) + 1)))) := w32_in (by omega) (by omega)
            by_cases c5 : zH S (k + 1) < 100 * (A (A 182 + ((k : Int) + 1)) + A (136 + ztA A (A 182 + ((k : Int) + 1))))
            · have gi := in_iff.mpr ⟨c3, c4, c5⟩
              have hk1 := hK (Or.inr (Or.inr (Or.inl gi)))
              have w0 : zwh S = 1 := by unfold zwh; rw [if_neg ne63, hk1, if_neg ng, if_neg nsk, if_pos gi]
              have dv : w32 (Int.tdiv (zH S (k + 1) - 100 * A (A 182 + ((k : Int) + 1))) 100) = (zH S (k + 1) - 100 * A (A 182 + ((k : Int) + 1))) / 100 := by
                rw [Int.tdiv_eq_ediv_of_nonneg (by omega)]
                exact w32_in (by omega) (by omega)
              have x3 : zth S = ztA A (A 182 + ((k : Int) + 1)) := by unfold zth; rw [if_pos w0, pl hk1, e2]
              have x4 : zic S = (zH S (k + 1) - 100 * A (A 182 + ((k : Int) + 1))) / 100 := by unfold zic; rw [if_pos w0, pl hk1, e2, hk1]
              have fe := fend 1 _ _ hk1 w0 x3 x4
              have ee := f_ends (a := 1) (b := A 182 + ((k : Int) + 1)) (c := ztA A (A 182 + ((k : Int) + 1))) (d := (zH S (k + 1) - 100 * A (A 182 + ((k : Int) + 1))) / 100) hB
              (try simp (disch := first | assumption | omega) only [wpo_bind, wpo_some, wpo_gf, wpo_gk, wpo_ld, wpo_pf, wpo_pz, wpo_sd, wpo_sr, wpo_ln, wpo_idv, wpo_irm, wpo_lrm, wpo_ldv, wpo_cpy, mlet, mnar_int, mup_same, mup_cell, mup_slot, ite_true, ite_false, true_and, and_true, eq_self, or_true, true_or, and_self, Int.reduceLT, Int.reduceLE, Int.reduceEq, Int.reduceNe, Int.reduceAdd, Int.reduceSub, Int.reduceMul, Int.reduceNeg, ne_eq, not_false_eq_true, not_true_eq_false, false_or, or_false, zor_inl, zor_inr, Bool.false_eq_true, false_and, and_false, zk1, zk2, zk3, zk4, zk5, zk6, zk7, zk8, zk9, zk10, zk11, zk12, zk13, zk14, zk15, zk16, zk17, zk18, zk19, zk20, zk21, zk22, zk23, zk24, zk25, zk26, zk27, zk28, zk29, zk30, zk31, zk32, zk33, zk34, zk35, zk36, zk37, zk38, zk39, zk40, zk41, zk42, zk43, zk44, zk45, zk46, zk47, zk48, zk49, zk50, zk51, zk52, zk53, zk54, zk55, zk56, zk57, zk58, zk59, zk60, zk61, zk62, zk63, zk64, zk65, zk66, zk67, zk68, zk69, zk70, zk71, zk72, zk73, zk74, zk75, zk76, zk77, zk78, zk79, zk80, zk81, zk82, zk83, zk84, zk85, zk86, zk87, zk88, zk89, zk90, zr2_0, zr2_1, zr2_2, zr2_3, zr2_4, zr2_6, zr2_7, zr2_10, zr2_11, zr2_12, zr1_0, zr1_1, zr14_0, zr14_1, zr14_2, zr14_3, zr14_4, zr14_6, zr14_7, zr14_10, zr14_11, zr14_12, zr13_0, zr25_0, zr25_1, zr25_2, zr25_3, zr25_4, zr25_6, zr25_7, zr25_10, zr25_11, zr25_12, zr13_1, zr1_2, zr37_0, zr1_3, zr39_0, zr39_1, zr39_2, zr39_5, zr39_7, zr39_8, zr1_4, zr46_1, zr46_2, zr46_3, zr46_4, zr46_0, zr1_5, zr51_2, zr51_10, zr51_0, zr51_1, zr54_1, zr54_2, zr54_3, zr1_6, zr58_1, zr58_2, zr58_3, zr58_0, zr1_7, zr62_2, zr62_3, zr62_0, zr62_1, zr1_8, zr1_9, zr1_10, zr1_15, zr68_2, zr68_3, zr68_4, zr68_5, zr68_7, zr68_8, zr68_9, zr68_12, zr68_13, zr68_14, zr68_22, zr68_23, zr68_24, zr68_26, zr68_35, zr68_36, zr68_37, zr68_38, zr68_39, zr68_40, zr68_41, zr68_42, er, w1, w2, c1, c2, c3, c4, hA, wt, t0, t1, w3, w4, c5, dv, ee])
              exact hQ _ _ _ (Or.inr ⟨rfl, fe.1⟩) fe.2
            · (try simp (disch := first | assumption | omega) only [wpo_bind, wpo_some, wpo_gf, wpo_gk, wpo_ld, wpo_pf, wpo_pz, wpo_sd, wpo_sr, wpo_ln, wpo_idv, wpo_irm, wpo_lrm, wpo_ldv, wpo_cpy, mlet, mnar_int, mup_same, mup_cell, mup_slot, ite_true, ite_false, true_and, and_true, eq_self, or_true, true_or, and_self, Int.reduceLT, Int.reduceLE, Int.reduceEq, Int.reduceNe, Int.reduceAdd, Int.reduceSub, Int.reduceMul, Int.reduceNeg, ne_eq, not_false_eq_true, not_true_eq_false, false_or, or_false, zor_inl, zor_inr, Bool.false_eq_true, false_and, and_false, zk1, zk2, zk3, zk4, zk5, zk6, zk7, zk8, zk9, zk10, zk11, zk12, zk13, zk14, zk15, zk16, zk17, zk18, zk19, zk20, zk21, zk22, zk23, zk24, zk25, zk26, zk27, zk28, zk29, zk30, zk31, zk32, zk33, zk34, zk35, zk36, zk37, zk38, zk39, zk40, zk41, zk42, zk43, zk44, zk45, zk46, zk47, zk48, zk49, zk50, zk51, zk52, zk53, zk54, zk55, zk56, zk57, zk58, zk59, zk60, zk61, zk62, zk63, zk64, zk65, zk66, zk67, zk68, zk69, zk70, zk71, zk72, zk73, zk74, zk75, zk76, zk77, zk78, zk79, zk80, zk81, zk82, zk83, zk84, zk85, zk86, zk87, zk88, zk89, zk90, zr2_0, zr2_1, zr2_2, zr2_3, zr2_4, zr2_6, zr2_7, zr2_10, zr2_11, zr2_12, zr1_0, zr1_1, zr14_0, zr14_1, zr14_2, zr14_3, zr14_4, zr14_6, zr14_7, zr14_10, zr14_11, zr14_12, zr13_0, zr25_0, zr25_1, zr25_2, zr25_3, zr25_4, zr25_6, zr25_7, zr25_10, zr25_11, zr25_12, zr13_1, zr1_2, zr37_0, zr1_3, zr39_0, zr39_1, zr39_2, zr39_5, zr39_7, zr39_8, zr1_4, zr46_1, zr46_2, zr46_3, zr46_4, zr46_0, zr1_5, zr51_2, zr51_10, zr51_0, zr51_1, zr54_1, zr54_2, zr54_3, zr1_6, zr58_1, zr58_2, zr58_3, zr58_0, zr1_7, zr62_2, zr62_3, zr62_0, zr62_1, zr1_8, zr1_9, zr1_10, zr1_15, zr68_2, zr68_3, zr68_4, zr68_5, zr68_7, zr68_8, zr68_9, zr68_12, zr68_13, zr68_14, zr68_22, zr68_23, zr68_24, zr68_26, zr68_35, zr68_36, zr68_37, zr68_38, zr68_39, zr68_40, zr68_41, zr68_42, er, w1, c1, c2, c3, c4, hA, wt, t0, t1, w3, w4, c5])
              exact on ng nsk (fun x => c5 (in_iff.mp x).2.2)
        · (try simp (disch := first | assumption | omega) only [wpo_bind, wpo_some, wpo_gf, wpo_gk, wpo_ld, wpo_pf, wpo_pz, wpo_sd, wpo_sr, wpo_ln, wpo_idv, wpo_irm, wpo_lrm, wpo_ldv, wpo_cpy, mlet, mnar_int, mup_same, mup_cell, mup_slot, ite_true, ite_false, true_and, and_true, eq_self, or_true, true_or, and_self, Int.reduceLT, Int.reduceLE, Int.reduceEq, Int.reduceNe, Int.reduceAdd, Int.reduceSub, Int.reduceMul, Int.reduceNeg, ne_eq, not_false_eq_true, not_true_eq_false, false_or, or_false, zor_inl, zor_inr, Bool.false_eq_true, false_and, and_false, zk1, zk2, zk3, zk4, zk5, zk6, zk7, zk8, zk9, zk10, zk11, zk12, zk13, zk14, zk15, zk16, zk17, zk18, zk19, zk20, zk21, zk22, zk23, zk24, zk25, zk26, zk27, zk28, zk29, zk30, zk31, zk32, zk33, zk34, zk35, zk36, zk37, zk38, zk39, zk40, zk41, zk42, zk43, zk44, zk45, zk46, zk47, zk48, zk49, zk50, zk51, zk52, zk53, zk54, zk55, zk56, zk57, zk58, zk59, zk60, zk61, zk62, zk63, zk64, zk65, zk66, zk67, zk68, zk69, zk70, zk71, zk72, zk73, zk74, zk75, zk76, zk77, zk78, zk79, zk80, zk81, zk82, zk83, zk84, zk85, zk86, zk87, zk88, zk89, zk90, zr2_0, zr2_1, zr2_2, zr2_3, zr2_4, zr2_6, zr2_7, zr2_10, zr2_11, zr2_12, zr1_0, zr1_1, zr14_0, zr14_1, zr14_2, zr14_3, zr14_4, zr14_6, zr14_7, zr14_10, zr14_11, zr14_12, zr13_0, zr25_0, zr25_1, zr25_2, zr25_3, zr25_4, zr25_6, zr25_7, zr25_10, zr25_11, zr25_12, zr13_1, zr1_2, zr37_0, zr1_3, zr39_0, zr39_1, zr39_2, zr39_5, zr39_7, zr39_8, zr1_4, zr46_1, zr46_2, zr46_3, zr46_4, zr46_0, zr1_5, zr51_2, zr51_10, zr51_0, zr51_1, zr54_1, zr54_2, zr54_3, zr1_6, zr58_1, zr58_2, zr58_3, zr58_0, zr1_7, zr62_2, zr62_3, zr62_0, zr62_1, zr1_8, zr1_9, zr1_10, zr1_15, zr68_2, zr68_3, zr68_4, zr68_5, zr68_7, zr68_8, zr68_9, zr68_12, zr68_13, zr68_14, zr68_22, zr68_23, zr68_24, zr68_26, zr68_35, zr68_36, zr68_37, zr68_38, zr68_39, zr68_40, zr68_41, zr68_42, er, w1, c1, c2, c3])
          exact on ng nsk (fun x => c3 (in_iff.mp x).1)
      · have gs : zsk S (k + 1) := sk_iff.mpr (by omega)
        have hk1 := hK (Or.inr (Or.inl gs))
        have w0 : zwh S = 2 := by unfold zwh; rw [if_neg ne63, hk1, if_neg ng, if_pos gs]
        have en2 := en 2 (by decide) w0
        have fe := fend 2 (-1) (-1) hk1 w0 en2.1 en2.2
        have ee := f_ends (a := 2) (b := A 182 + ((k : Int) + 1)) (c := -1) (d := -1) hB
        (try simp (disch := first | assumption | omega) only [wpo_bind, wpo_some, wpo_gf, wpo_gk, wpo_ld, wpo_pf, wpo_pz, wpo_sd, wpo_sr, wpo_ln, wpo_idv, wpo_irm, wpo_lrm, wpo_ldv, wpo_cpy, mlet, mnar_int, mup_same, mup_cell, mup_slot, ite_true, ite_false, true_and, and_true, eq_self, or_true, true_or, and_self, Int.reduceLT, Int.reduceLE, Int.reduceEq, Int.reduceNe, Int.reduceAdd, Int.reduceSub, Int.reduceMul, Int.reduceNeg, ne_eq, not_false_eq_true, not_true_eq_false, false_or, or_false, zor_inl, zor_inr, Bool.false_eq_true, false_and, and_false, zk1, zk2, zk3, zk4, zk5, zk6, zk7, zk8, zk9, zk10, zk11, zk12, zk13, zk14, zk15, zk16, zk17, zk18, zk19, zk20, zk21, zk22, zk23, zk24, zk25, zk26, zk27, zk28, zk29, zk30, zk31, zk32, zk33, zk34, zk35, zk36, zk37, zk38, zk39, zk40, zk41, zk42, zk43, zk44, zk45, zk46, zk47, zk48, zk49, zk50, zk51, zk52, zk53, zk54, zk55, zk56, zk57, zk58, zk59, zk60, zk61, zk62, zk63, zk64, zk65, zk66, zk67, zk68, zk69, zk70, zk71, zk72, zk73, zk74, zk75, zk76, zk77, zk78, zk79, zk80, zk81, zk82, zk83, zk84, zk85, zk86, zk87, zk88, zk89, zk90, zr2_0, zr2_1, zr2_2, zr2_3, zr2_4, zr2_6, zr2_7, zr2_10, zr2_11, zr2_12, zr1_0, zr1_1, zr14_0, zr14_1, zr14_2, zr14_3, zr14_4, zr14_6, zr14_7, zr14_10, zr14_11, zr14_12, zr13_0, zr25_0, zr25_1, zr25_2, zr25_3, zr25_4, zr25_6, zr25_7, zr25_10, zr25_11, zr25_12, zr13_1, zr1_2, zr37_0, zr1_3, zr39_0, zr39_1, zr39_2, zr39_5, zr39_7, zr39_8, zr1_4, zr46_1, zr46_2, zr46_3, zr46_4, zr46_0, zr1_5, zr51_2, zr51_10, zr51_0, zr51_1, zr54_1, zr54_2, zr54_3, zr1_6, zr58_1, zr58_2, zr58_3, zr58_0, zr1_7, zr62_2, zr62_3, zr62_0, zr62_1, zr1_8, zr1_9, zr1_10, zr1_15, zr68_2, zr68_3, zr68_4, zr68_5, zr68_7, zr68_8, zr68_9, zr68_12, zr68_13, zr68_14, zr68_22, zr68_23, zr68_24, zr68_26, zr68_35, zr68_36, zr68_37, zr68_38, zr68_39, zr68_40, zr68_41, zr68_42, er, w1, c1, c2, ee])
        exact hQ _ _ _ (Or.inr ⟨rfl, fe.1⟩) fe.2
  refine key _ ?_
  intro sg' mo' σ2 g f
  exact ⟨rfl, rfl, g, f⟩
end
