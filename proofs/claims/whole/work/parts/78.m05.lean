noncomputable section
def zFh (σ σ' : mS) : Prop := zKm σ σ' ∧ ∀ r, r ≠ 68 → r ≠ 79 → r ≠ 80 → r ≠ 81 → r ≠ 82 → σ'.1 r = σ.1 r
theorem zFh.rfl' {σ : mS} (h : zB σ) : zFh σ σ := ⟨zKm.rfl' h, fun _ _ _ _ _ _ => rfl⟩
theorem zFh.trans {σ σ' σ'' : mS} (h : zFh σ σ') (h' : zFh σ' σ'') : zFh σ σ'' := ⟨h.1.trans h'.1, fun r a b c d e => (h'.2 r a b c d e).trans (h.2 r a b c d e)⟩
theorem zFh.of_fv {σ σ' : mS} (h : zFv σ σ') : zFh σ σ' := ⟨h.1, fun r a b c d _ => h.2.1 r a b c d⟩
theorem zFh.of_fg {σ σ' : mS} (h : zFg σ σ') : zFh σ σ' := ⟨zKm.of_fg h, fun r a _ _ _ e => h.2.2.1 r a e⟩
set_option maxHeartbeats 8000000 in
theorem m_goes {D : Int → (Int → Int) → Int} {A : Int → Int} {σ : mS} {hr bend eh a t sd pa l5 tr : Int} (S : zSc) (eS : S = zSn D A hr bend eh a t sd pa) (hS : zSok S) (hm : zMQ D A σ) (h0 : 0 ≤ hr) (h1 : hr < 24) (hpa : pa = if l5 = 0 then 1 else 0) (htr : (tr = -1 ∧ t = 0) ∨ (0 ≤ tr ∧ tr ≤ 50 ∧ t = tr ∧ σ.1 68 34 = sd)) :
    wpo (M_Mo_goes 68 a hr bend eh l5 tr σ) (fun q => zMQ D A q.2 ∧ zFh σ q.2 ∧ zRm S tr q.2) := by
  have hB := hm.1
  have e1 : ze S = A 182 := by rw [eS]; rfl
  have e3 : zeh S = eh := by rw [eS]; rfl
  have e4 : zt S = t := by rw [eS]; rfl
  have e5 : za S = a := by rw [eS]; rfl
  have e6 : zsd S = sd := by rw [eS]; rfl
  have he := hS.2.2.2.1
  rw [e1] at he
  have heh := hS.2.2.2.2.1
  rw [e3] at heh
  have ha := hS.2.2.2.2.2.1
  rw [e5] at ha
  unfold M_Mo_goes
  (try simp (disch := first | assumption | omega) only [wpo_bind, wpo_some, wpo_gf, wpo_gk, wpo_ld, wpo_pf, wpo_pz, wpo_sd, wpo_sr, wpo_ln, wpo_idv, wpo_irm, wpo_lrm, wpo_ldv, wpo_cpy, mlet, mnar_int, mup_same, mup_cell, mup_slot, ite_true, ite_false, true_and, and_true, eq_self, or_true, true_or, and_self, Int.reduceLT, Int.reduceLE, Int.reduceEq, Int.reduceNe, Int.reduceAdd, Int.reduceSub, Int.reduceMul, Int.reduceNeg, ne_eq, not_false_eq_true, not_true_eq_false, false_or, or_false, zor_inl, zor_inr, Bool.false_eq_true, false_and, and_false, zk1, zk2, zk3, zk4, zk5, zk6, zk7, zk8, zk9, zk10, zk11, zk12, zk13, zk14, zk15, zk16, zk17, zk18, zk19, zk20, zk21, zk22, zk23, zk24, zk25, zk26, zk27, zk28, zk29, zk30, zk31, zk32, zk33, zk34, zk35, zk36, zk37, zk38, zk39, zk40, zk41, zk42, zk43, zk44, zk45, zk46, zk47, zk48, zk49, zk50, zk51, zk52, zk53, zk54, zk55, zk56, zk57, zk58, zk59, zk60, zk61, zk62, zk63, zk64, zk65, zk66, zk67, zk68, zk69, zk70, zk71, zk72, zk73, zk74, zk75, zk76, zk77, zk78, zk79, zk80, zk81, zk82, zk83, zk84, zk85, zk86, zk87, zk88, zk89, zk90, zr2_0, zr2_1, zr2_2, zr2_3, zr2_4, zr2_6, zr2_7, zr2_10, zr2_11, zr2_12, zr1_0, zr1_1, zr14_0, zr14_1, zr14_2, zr14_3, zr14_4, zr14_6, zr14_7, zr14_10, zr14_11, zr14_12, zr13_0, zr25_0, zr25_1, zr25_2, zr25_3, zr25_4, zr25_6, zr25_7, zr25_10, zr25_11, zr25_12, zr13_1, zr1_2, zr37_0, zr1_3, zr39_0, zr39_1, zr39_2, zr39_5, zr39_7, zr39_8, zr1_4, zr46_1, zr46_2, zr46_3, zr46_4, zr46_0, zr1_5, zr51_2, zr51_10, zr51_0, zr51_1, zr54_1, zr54_2, zr54_3, zr1_6, zr58_1, zr58_2, zr58_3, zr58_0, zr1_7, zr62_2, zr62_3, zr62_0, zr62_1, zr1_8, zr1_9, zr1_10, zr1_15, zr68_2, zr68_3, zr68_4, zr68_5, zr68_7, zr68_8, zr68_9, zr68_12, zr68_13, zr68_14, zr68_22, zr68_23, zr68_24, zr68_26, zr68_35, zr68_36, zr68_37, zr68_38, zr68_39, zr68_40, zr68_41, zr68_42])
  refine wpo_mono (m_warms hm h0 h1) ?_
  intro v ⟨v1, vf, vw⟩
  have hBv := v1.1
  have hAv := v1.2.2.2.1
  have v34 : v.2.1 68 34 = σ.1 68 34 := vf.2.2 34 (by decide) (by decide) (by decide) (by decide)
  have w1 : w32 (100 * eh) = 100 * eh := w32_in (by omega) (by omega)
  have w2 : w32 (100 * eh + 50) = 100 * eh + 50 := w32_in (by omega) (by omega)
  have p0 := he.1
  have p1 : A 182 < 64 := by omega
  have f1 : zFg v.2 (mup v.2.1 82 (A 182) (100 * eh + 50), v.2.2) := zFg.height hBv
  have f2 := f1.trans (zFg.slot (i := 31) (v := 100 * eh + 50) f1.2.1 (by decide) (by decide +kernel))
  have f3 := f2.trans (zFg.slot (i := 32) (v := 0) f2.2.1 (by decide) (by decide +kernel))
  have f4 := f3.trans (zFg.slot (i := 33) (v := a) f3.2.1 (by decide) (by decide +kernel))
  have ee := f_ends (a := 2) (b := A 182) (c := -1) (d := -1) f4.2.1
  have f5 := f4.trans (zFg.slot (i := 27) (v := 2) f4.2.1 (by decide) (by decide +kernel))
  have f6 := f5.trans (zFg.slot (i := 28) (v := A 182) f5.2.1 (by decide) (by decide +kernel))
  have f7 := f6.trans (zFg.slot (i := 29) (v := -1) f6.2.1 (by decide) (by decide +kernel))
  have f8 := f7.trans (zFg.slot (i := 30) (v := -1) f7.2.1 (by decide) (by decide +kernel))
  (try simp (disch := first | assumption | omega) only [wpo_bind, wpo_some, wpo_gf, wpo_gk, wpo_ld, wpo_pf, wpo_pz, wpo_sd, wpo_sr, wpo_ln, wpo_idv, wpo_irm, wpo_lrm, wpo_ldv, wpo_cpy, mlet, mnar_int, mup_same, mup_cell, mup_slot, ite_true, ite_false, true_and, and_true, eq_self, or_true, true_or, and_self, Int.reduceLT, Int.reduceLE, Int.reduceEq, Int.reduceNe, Int.reduceAdd, Int.reduceSub, Int.reduceMul, Int.reduceNeg, ne_eq, not_false_eq_true, not_true_eq_false, false_or, or_false, zor_inl, zor_inr, Bool.false_eq_true, false_and, and_false, zk1, zk2, zk3, zk4, zk5, zk6, zk7, zk8, zk9, zk10, zk11, zk12, zk13, zk14, zk15, zk16, zk17, zk18, zk19, zk20, zk21, zk22, zk23, zk24, zk25, zk26, zk27, zk28, zk29, zk30, zk31, zk32, zk33, zk34, zk35, zk36, zk37, zk38, zk39, zk40, zk41, zk42, zk43, zk44, zk45, zk46, zk47, zk48, zk49, zk50, zk51, zk52, zk53, zk54, zk55, zk56, zk57, zk58, zk59, zk60, zk61, zk62, zk63, zk64, zk65, zk66, zk67, zk68, zk69, zk70, zk71, zk72, zk73, zk74, zk75, zk76, zk77, zk78, zk79, zk80, zk81, zk82, zk83, zk84, zk85, zk86, zk87, zk88, zk89, zk90, zr2_0, zr2_1, zr2_2, zr2_3, zr2_4, zr2_6, zr2_7, zr2_10, zr2_11, zr2_12, zr1_0, zr1_1, zr14_0, zr14_1, zr14_2, zr14_3, zr14_4, zr14_6, zr14_7, zr14_10, zr14_11, zr14_12, zr13_0, zr25_0, zr25_1, zr25_2, zr25_3, zr25_4, zr25_6, zr25_7, zr25_10, zr25_11, zr25_12, zr13_1, zr1_2, zr37_0, zr1_3, zr39_0, zr39_1, zr39_2, zr39_5, zr39_7, zr39_8, zr1_4, zr46_1, zr46_2, zr46_3, zr46_4, zr46_0, zr1_5, zr51_2, zr51_10, zr51_0, zr51_1, zr54_1, zr54_2, zr54_3, zr1_6, zr58_1, zr58_2, zr58_3, zr58_0, zr1_7, zr62_2, zr62_3, zr62_0, zr62_1, zr1_8, zr1_9, zr1_10, zr1_15, zr68_2, zr68_3, zr68_4, zr68_5, zr68_7, zr68_8, zr68_9, zr68_12, zr68_13, zr68_14, zr68_22, zr68_23, zr68_24, zr68_26, zr68_35, zr68_36, zr68_37, zr68_38, zr68_39, zr68_40, zr68_41, zr68_42, hAv, w1, w2, p0, p1, f_signOf])
  rw [ee]
  simp only [Option.bind_some, wpo_some]
  generalize eX : ((mup (mup (mup (mup (mup (mup (mup (mup v.2.1 82 (A 182) (100 * eh + 50)) 68 31 (100 * eh + 50)) 68 32 0) 68 33 a) 68 27 2) 68 28 (A 182)) 68 29 (-1)) 68 30 (-1), v.2.2) : mS) = X at f8
  have x82 : X.1 82 (A 182) = 100 * eh + 50 := by rw [← eX]; simp [mup]
  have x31 : X.1 68 31 = 100 * eh + 50 := by rw [← eX]; simp [mup]
  have x32 : X.1 68 32 = 0 := by rw [← eX]; simp [mup]
  have x33 : X.1 68 33 = a := by rw [← eX]; simp [mup]
  have x27 : X.1 68 27 = 2 := by rw [← eX]; simp [mup]
  have x28 : X.1 68 28 = A 182 := by rw [← eX]; simp [mup]
  have x29 : X.1 68 29 = -1 := by rw [← eX]; simp [mup]
  have x30 : X.1 68 30 = -1 := by rw [← eX]; simp [mup]
  have x34 : X.1 68 34 = σ.1 68 34 := by rw [← eX]; simp [mup]; exact v34
  have mX := v1.fg f8
  have wX := vw.fg f8
  have sdz : 0 ≤ tr → X.1 68 34 = zd S 0 := by
    intro ht
    rw [x34, zd_zero, e6]
    rcases htr with x | x
    · omega
    · exact x.2.2.2
  have hX : ∀ j : Nat, j ≤ 0 → X.1 82 (ze S + j) = zH S j := by
    intro j hj
    have : j = 0 := by omega
    subst this
    rw [e1, zH_zero, e3]
    have : A 182 + ((0 : Nat) : Int) = A 182 := by omega
    rw [this]; exact x82
  have t1 : ztu S 1 = (0, zsg a) := by
    show (if zsg (zs S 0) = 0 then ztu S 0 else ((ztu S 0).1 + (if zsg (zs S 0) = -(ztu S 0).2 then 1 else 0), zsg (zs S 0))) = _
    rw [zs_zero, e5]
    have z0 : ztu S 0 = (0, 0) := rfl
    rw [z0]
    by_cases c : zsg a = 0
    · rw [if_pos c, c]
    · rw [if_neg c, if_neg (by simpa using c)]; rfl
  have key : ∀ more : Int, zgm S tr 0 (zsg a) more X → wpo (M_Mo_goes_44 68 hr bend l5 tr (A 182) (100 * eh + 50) (zsg a) more X) (fun q => zMQ D A q.2 ∧ zFh σ q.2 ∧ zRm S tr q.2) := by
    intro more hg
    unfold M_Mo_goes_44
    refine miter_mN (fun n y => ∃ k : Nat, n = 100 - k ∧ A 182 + k ≤ 63 ∧ y.1 = A 182 + k ∧ y.2.1 = zH S k ∧ zgm S tr k y.2.2.1 y.2.2.2.1 y.2.2.2.2 ∧ zFg X y.2.2.2.2) ?_ 100 _ (by decide) ?_
    · intro n y ⟨k, hn, hk, y1, y2, y3, y4⟩
      obtain ⟨p, hh, sign, more, σ'⟩ := y
      simp only at y1 y2 y3 y4
      subst y1; subst y2
      have m' := mX.fg y4
      have hB' := m'.1
      have wv := wX.fg y4
      show wpo (B_Mo_goes_44 68 hr bend l5 tr (A 182 + k) (zH S k) sign more σ') _
      unfold B_Mo_goes_44
      rcases y3 with ⟨g0, g1, g2, g3, g4, g5, g6, g7, g8⟩ | ⟨g0, g1⟩
      · subst g0
        rw [e1] at g1
        rw [if_neg (by decide)]
        have bs := zs_bd hS k
        have bH := zH_bd hS k
        have bH1 := zH_bd hS (k + 1)
        have xp : w32 (A 182 + (k : Int) + 1) = A 182 + ((k : Int) + 1) := by rw [Int.add_assoc]; exact w32_in (by omega) (by omega)
        have xh : w32 (zH S k + zs S k) = zH S k + zs S k := w32_in (by omega) (by omega)
        have nxt : ∀ σ2 : mS, zFg X σ2 → σ2.1 68 33 = zs S k → σ2.1 68 32 = (ztu S (k + 1)).1 → σ2.1 68 31 = zH S (zlo S k) → (∀ j : Nat, j ≤ k → σ2.1 82 (ze S + j) = zH S j) → (0 ≤ tr → σ2.1 68 34 = zd S (k + 1)) → wpo (M_Mo_goes_66 68 hr bend l5 tr (A 182 + ((k : Int) + 1)) (zH S (k + 1)) sign σ2) (zor (fun y' => ∃ m, m < n ∧ ∃ k : Nat, m = 100 - k ∧ A 182 + k ≤ 63 ∧ y'.1 = A 182 + k ∧ y'.2.1 = zH S k ∧ zgm S tr k y'.2.2.1 y'.2.2.2.1 y'.2.2.2.2 ∧ zFg X y'.2.2.2.2) (fun q => zMQ D A q.2 ∧ zFh σ q.2 ∧ zRm S tr q.2)) := by
          intro σ2 q1 q33 q32 q31 q82 q34
          have m2 := mX.fg q1
          have hB2 := m2.1
          have hA2 := m2.2.2.2.1
          have c0 : 0 ≤ A 182 + ((k : Int) + 1) := by omega
          have c1 : A 182 + ((k : Int) + 1) < 64 := by omega
          have fa : zFg σ2 (mup σ2.1 82 (A 182 + ((k : Int) + 1)) (zH S (k + 1)), σ2.2) := zFg.height hB2
          -- behind the height and the lowest
          have lowv : ∀ lv : Int, lv = zH S (zlo S (k + 1)) → wpo (M_Mo_goes_80 68 hr bend l5 tr (A 182 + ((k : Int) + 1)) (zH S (k + 1)) sign lv 68 (mup σ2.1 82 (A 182 + ((k : Int) + 1)) (zH S (k + 1)), σ2.2)) (zor (fun y' => ∃ m, m < n ∧ ∃ k : Nat, m = 100 - k ∧ A 182 + k ≤ 63 ∧ y'.1 = A 182 + k ∧ y'.2.1 = zH S k ∧ zgm S tr k y'.2.2.1 y'.2.2.2.1 y'.2.2.2.2 ∧ zFg X y'.2.2.2.2) (fun q => zMQ D A q.2 ∧ zFh σ q.2 ∧ zRm S tr q.2)) := by
            intro lv elv
            have hBa := fa.2.1
            have fb := fa.trans (zFg.slot (i := 31) (v := lv) hBa (by decide) (by decide +kernel))
            have fX := q1.trans fb
            have mb := mX.fg fX
            have wb := wX.fg fX
            have hBb := mb.1
            have hAb := mb.2.2.2.1
            unfold M_Mo_goes_80
            have r33 : mup (mup σ2.1 82 (A 182 + ((k : Int) + 1)) (zH S (k + 1))) 68 31 lv 68 33 = zs S k := by (try simp (disch := omega) only [mup_same, mup_cell, mup_slot]); exact q33
            have r32 : mup (mup σ2.1 82 (A 182 + ((k : Int) + 1)) (zH S (k + 1))) 68 31 lv 68 32 = (ztu S (k + 1)).1 := by (try simp (disch := omega) only [mup_same, mup_cell, mup_slot]); exact q32
            have r31 : mup (mup σ2.1 82 (A 182 + ((k : Int) + 1)) (zH S (k + 1))) 68 31 lv 68 31 = zH S (zlo S (k + 1)) := by (try simp (disch := omega) only [mup_same, mup_cell, mup_slot]); exact elv
            have r34 : 0 ≤ tr → mup (mup σ2.1 82 (A 182 + ((k : Int) + 1)) (zH S (k + 1))) 68 31 lv 68 34 = zd S (k + 1) := by intro ht; (try simp (disch := omega) only [mup_same, mup_cell, mup_slot]); exact q34 ht
            have r82 : ∀ j : Nat, j ≤ k + 1 → mup (mup σ2.1 82 (A 182 + ((k : Int) + 1)) (zH S (k + 1))) 68 31 lv 82 (ze S + j) = zH S j := by
              intro j hj
              rw [mup_cell (by decide), mup_if, e1]
              by_cases cj : j = k + 1
              · rw [if_pos (by omega), cj]
              · rw [if_neg (by omega), ← e1]; exact q82 j (by omega)
            have sp := m_goes_88 (l5 := l5) (tr := tr) S eS hS mb wb h0 h1 g1 r33 g3 r32 r31 g6 r82 r34
            have fin : wpo (M_Mo_goes_88 68 hr bend l5 tr (A 182 + ((k : Int) + 1)) (zH S (k + 1)) sign (if pa = 0 then ztA A (A 182 + ((k : Int) + 1)) else -1) (mup (mup σ2.1 82 (A 182 + ((k : Int) + 1)) (zH S (k + 1))) 68 31 lv, σ2.2)) (zor (fun y' => ∃ m, m < n ∧ ∃ k : Nat, m = 100 - k ∧ A 182 + k ≤ 63 ∧ y'.1 = A 182 + k ∧ y'.2.1 = zH S k ∧ zgm S tr k y'.2.2.1 y'.2.2.2.1 y'.2.2.2.2 ∧ zFg X y'.2.2.2.2) (fun q => zMQ D A q.2 ∧ zFh σ q.2 ∧ zRm S tr q.2)) := by
              refine wpo_mono sp ?_
              intro z hz
              cases z with
              | inl y' =>
                obtain ⟨z1, z2, z3, z4⟩ := hz
                exact ⟨100 - (k + 1), by omega, k + 1, rfl, by omega, by rw [z1]; omega, z2, z3, fX.trans z4⟩
              | inr r => exact hz.elim
            by_cases c5 : l5 = 0
            · rw [if_pos c5] at hpa
              rw [if_neg (by rw [hpa]; decide)] at fin
              (try simp (disch := first | assumption | omega) only [wpo_bind, wpo_some, wpo_gf, wpo_gk, wpo_ld, wpo_pf, wpo_pz, wpo_sd, wpo_sr, wpo_ln, wpo_idv, wpo_irm, wpo_lrm, wpo_ldv, wpo_cpy, mlet, mnar_int, mup_same, mup_cell, mup_slot, ite_true, ite_false, true_and, and_true, eq_self, or_true, true_or, and_self, Int.reduceLT, Int.reduceLE, Int.reduceEq, Int.reduceNe, Int.reduceAdd, Int.reduceSub, Int.reduceMul, Int.reduceNeg, ne_eq, not_false_eq_true, not_true_eq_false, false_or, or_false, zor_inl, zor_inr, Bool.false_eq_true, false_and, and_false, zk1, zk2, zk3, zk4, zk5, zk6, zk7, zk8, zk9, zk10, zk11, zk12, zk13, zk14, zk15, zk16, zk17, zk18, zk19, zk20, zk21, zk22, zk23, zk24, zk25, zk26, zk27, zk28, zk29, zk30, zk31, zk32, zk33, zk34, zk35, zk36, zk37, zk38, zk39, zk40, zk41, zk42, zk43, zk44, zk45, zk46, zk47, zk48, zk49, zk50, zk51, zk52, zk53, zk54, zk55, zk56, zk57, zk58, zk59, zk60, zk61, zk62, zk63, zk64, zk65, zk66, zk67, zk68, zk69, zk70, zk71, zk72, zk73, zk74, zk75, zk76, zk77, zk78, zk79, zk80, zk81, zk82, zk83, zk84, zk85, zk86, zk87, zk88, zk89, zk90, zr2_0, zr2_1, zr2_2, zr2_3, zr2_4, zr2_6, zr2_7, zr2_10, zr2_11, zr2_12, zr1_0, zr1_1, zr14_0, zr14_1, zr14_2, zr14_3, zr14_4, zr14_6, zr14_7, zr14_10, zr14_11, zr14_12, zr13_0, zr25_0, zr25_1, zr25_2, zr25_3, zr25_4, zr25_6, zr25_7, zr25_10, zr25_11, zr25_12, zr13_1, zr1_2, zr37_0, zr1_3, zr39_0, zr39_1, zr39_2, zr39_5, zr39_7, zr39_8, zr1_4, zr46_1, zr46_2, zr46_3, zr46_4, zr46_0, zr1_5, zr51_2, zr51_10, zr51_0, zr51_1, zr54_1, zr54_2, zr54_3, zr1_6, zr58_1, zr58_2, zr58_3, zr58_0, zr1_7, zr62_2, zr62_3, zr62_0, zr62_1, zr1_8, zr1_9, zr1_10, zr1_15, zr68_2, zr68_3, zr68_4, zr68_5, zr68_7, zr68_8, zr68_9, zr68_12, zr68_13, zr68_14, zr68_22, zr68_23, zr68_24, zr68_26, zr68_35, zr68_36, zr68_37, zr68_38, zr68_39, zr68_40, zr68_41, zr68_42, c5])
              rw [c5] at fin
              exact fin
            · rw [if_neg c5] at hpa
              rw [if_pos hpa] at fin
              (try simp (disch := first | assumption | omega) only [wpo_bind, wpo_some, wpo_gf, wpo_gk, wpo_ld, wpo_pf, wpo_pz, wpo_sd, wpo_sr, wpo_ln, wpo_idv, wpo_irm, wpo_lrm, wpo_ldv, wpo_cpy, mlet, mnar_int, mup_same, mup_cell, mup_slot, ite_true, ite_false, true_and, and_true, eq_self, or_true, true_or, and_self, Int.reduceLT, Int.reduceLE, Int.reduceEq, Int.reduceNe, Int.reduceAdd, Int.reduceSub, Int.reduceMul, Int.reduceNeg, ne_eq, not_false_eq_true, not_true_eq_false, false_or, or_false, zor_inl, zor_inr, Bool.false_eq_true, false_and, and_false, zk1, zk2, zk3, zk4, zk5, zk6, zk7, zk8, zk9, zk10, zk11, zk12, zk13, zk14, zk15, zk16, zk17, zk18, zk19, zk20, zk21, zk22, zk23, zk24, zk25, zk26, zk27, zk28, zk29, zk30, zk31, zk32, zk33, zk34, zk35, zk36, zk37, zk38, zk39, zk40, zk41, zk42, zk43, zk44, zk45, zk46, zk47, zk48, zk49, zk50, zk51, zk52, zk53, zk54, zk55, zk56, zk57, zk58, zk59, zk60, zk61, zk62, zk63, zk64, zk65, zk66, zk67, zk68, zk69, zk70, zk71, zk72, zk73, zk74, zk75, zk76, zk77, zk78, zk79, zk80, zk81, zk82, zk83, zk84, zk85, zk86, zk87, zk88, zk89, zk90, zr2_0, zr2_1, zr2_2, zr2_3, zr2_4, zr2_6, zr2_7, zr2_10, zr2_11, zr2_12, zr1_0, zr1_1, zr14_0, zr14_1, zr14_2, zr14_3, zr14_4, zr14_6, zr14_7, zr14_10, zr14_11, zr14_12, zr13_0, zr25_0, zr25_1, zr25_2, zr25_3, zr25_4, zr25_6, zr25_7, zr25_10, zr25_11, zr25_12, zr13_1, zr1_2, zr37_0, zr1_3, zr39_0, zr39_1, zr39_2, zr39_5, zr39_7, zr39_8, zr1_4, zr46_1, zr46_2, zr46_3, zr46_4, zr46_0, zr1_5, zr51_2, zr51_10, zr51_0, zr51_1, zr54_1, zr54_2, zr54_3, zr1_6, zr58_1, zr58_2, zr58_3, zr58_0, zr1_7, zr62_2, zr62_3, zr62_0, zr62_1, zr1_8, zr1_9, zr1_10, zr1_15, zr68_2, zr68_3, zr68_4, zr68_5, zr68_7, zr68_8, zr68_9, zr68_12, zr68_13, zr68_14, zr68_22, zr68_23, zr68_24, zr68_26, zr68_35, zr68_36, zr68_37, zr68_38, zr68_39, zr68_40, zr68_41, zr68_42, c5])
              refine wpo_mono (f_thingAt hBb hAb mb.2.1.2.1) ?_
              rintro r rfl
              exact fin
          have hBa := fa.2.1
          unfold M_Mo_goes_66
          by_cases cl : zH S (k + 1) < zH S (zlo S k)
          · (try simp (disch := first | assumption | omega) only [wpo_bind, wpo_some, wpo_gf, wpo_gk, wpo_ld, wpo_pf, wpo_pz, wpo_sd, wpo_sr, wpo_ln, wpo_idv, wpo_irm, wpo_lrm, wpo_ldv, wpo_cpy, mlet, mnar_int, mup_same, mup_cell, mup_slot, ite_true, ite_false, true_and, and_true, eq_self, or_true, true_or, and_self, Int.reduceLT, Int.reduceLE, Int.reduceEq, Int.reduceNe, Int.reduceAdd, Int.reduceSub, Int.reduceMul, Int.reduceNeg, ne_eq, not_false_eq_true, not_true_eq_false, false_or, or_false, zor_inl, zor_inr, Bool.false_eq_true, false_and, and_false, zk1, zk2, zk3, zk4, zk5, zk6, zk7, zk8, zk9, zk10, zk11, zk12, zk13, zk14, zk15, zk16, zk17, zk18, zk19, zk20, zk21, zk22, zk23, zk24, zk25, zk26, zk27, zk28, zk29, zk30, zk31, zk32, zk33, zk34, zk35, zk36, zk37, zk38, zk39, zk40, zk41, zk42, zk43, zk44, zk45, zk46, zk47, zk48, zk49, zk50, zk51, zk52, zk53, zk54, zk55, zk56, zk57, zk58, zk59, zk60, zk61, zk62, zk63, zk64, zk65, zk66, zk67, zk68, zk69, zk70, zk71, zk72, zk73, zk74, zk75, zk76, zk77, zk78, zk79, zk80, zk81, zk82, zk83, zk84, zk85, zk86, zk87, zk88, zk89, zk90, zr2_0, zr2_1, zr2_2, zr2_3, zr2_4, zr2_6, zr2_7, zr2_10, zr2_11, zr2_12, zr1_0, zr1_1, zr14_0, zr14_1, zr14_2, zr14_3, zr14_4, zr14_6, zr14_7, zr14_10, zr14_11, zr14_12, zr13_0, zr25_0, zr25_1, zr25_2, zr25_3, zr25_4, zr25_6, zr25_7, zr25_10, zr25_11, zr25_12, zr13_1, zr1_2, zr37_0, zr1_3, zr39_0, zr39_1, zr39_2, zr39_5, zr39_7, zr39_8, zr1_4, zr46_1, zr46_2, zr46_3, zr46_4, zr46_0, zr1_5, zr51_2, zr51_10, zr51_0, zr51_1, zr54_1, zr54_2, zr54_3, zr1_6, zr58_1, zr58_2, zr58_3, zr58_0, zr1_7, zr62_2, zr62_3, zr62_0, zr62_1, zr1_8, zr1_9, zr1_10, zr1_15, zr68_2, zr68_3, zr68_4, zr68_5, zr68_7, zr68_8, zr68_9, zr68_12, zr68_13, zr68_14, zr68_22, zr68_23, zr68_24, zr68_26, zr68_35, zr68_36, zr68_37, zr68_38, zr68_39, zr68_40, zr68_41, zr68_42, c0, c1, q31, cl])
            exact lowv _ (by show _ = zH S (if zH S (k + 1) < zH S (zlo S k) then k + 1 else zlo S k); rw [if_pos cl])
          · (try simp (disch := first | assumption | omega) only [wpo_bind, wpo_some, wpo_gf, wpo_gk, wpo_ld, wpo_pf, wpo_pz, wpo_sd, wpo_sr, wpo_ln, wpo_idv, wpo_irm, wpo_lrm, wpo_ldv, wpo_cpy, mlet, mnar_int, mup_same, mup_cell, mup_slot, ite_true, ite_false, true_and, and_true, eq_self, or_true, true_or, and_self, Int.reduceLT, Int.reduceLE, Int.reduceEq, Int.reduceNe, Int.reduceAdd, Int.reduceSub, Int.reduceMul, Int.reduceNeg, ne_eq, not_false_eq_true, not_true_eq_false, false_or, or_false, zor_inl, zor_inr, Bool.false_eq_true, false_and, and_false, zk1, zk2, zk3, zk4, zk5, zk6, zk7, zk8, zk9, zk10, zk11, zk12, zk13, zk14, zk15, zk16, zk17, zk18, zk19, zk20, zk21, zk22, zk23, zk24, zk25, zk26, zk27, zk28, zk29, zk30, zk31, zk32, zk33, zk34, zk35, zk36, zk37, zk38, zk39, zk40, zk41, zk42, zk43, zk44, zk45, zk46, zk47, zk48, zk49, zk50, zk51, zk52, zk53, zk54, zk55, zk56, zk57, zk58, zk59, zk60, zk61, zk62, zk63, zk64, zk65, zk66, zk67, zk68, zk69, zk70, zk71, zk72, zk73, zk74, zk75, zk76, zk77, zk78, zk79, zk80, zk81, zk82, zk83, zk84, zk85, zk86, zk87, zk88, zk89, zk90, zr2_0, zr2_1, zr2_2, zr2_3, zr2_4, zr2_6, zr2_7, zr2_10, zr2_11, zr2_12, zr1_0, zr1_1, zr14_0, zr14_1, zr14_2, zr14_3, zr14_4, zr14_6, zr14_7, zr14_10, zr14_11, zr14_12, zr13_0, zr25_0, zr25_1, zr25_2, zr25_3, zr25_4, zr25_6, zr25_7, zr25_10, zr25_11, zr25_12, zr13_1, zr1_2, zr37_0, zr1_3, zr39_0, zr39_1, zr39_2, zr39_5, zr39_7, zr39_8, zr1_4, zr46_1, zr46_2, zr46_3, zr46_4, zr46_0, zr1_5, zr51_2, zr51_10, zr51_0, zr51_1, zr54_1, zr54_2, zr54_3, zr1_6, zr58_1, zr58_2, zr58_3, zr58_0, zr1_7, zr62_2, zr62_3, zr62_0, zr62_1, zr1_8, zr1_9, zr1_10, zr1_15, zr68_2, zr68_3, zr68_4, zr68_5, zr68_7, zr68_8, zr68_9, zr68_12, zr68_13, zr68_14, zr68_22, zr68_23, zr68_24, zr68_26, zr68_35, zr68_36, zr68_37, zr68_38, zr68_39, zr68_40, zr68_41, zr68_42, c0, c1, q31, cl])
            exact lowv _ (by show _ = zH S (if zH S (k + 1) < zH S (zlo S k) then k + 1 else zlo S k); rw [if_neg cl])
        rcases htr with ⟨tr1, tt⟩ | ⟨tr0, tr50, tt, _⟩
        · have cn : tr < 0 := by omega
          have hs : zH S k + zs S k = zH S (k + 1) := by rw [zH_succ, e4, tt, if_neg (by decide)]; omega
          have xh1 : w32 (zH S (k + 1)) = zH S (k + 1) := w32_in (by omega) (by omega)
          (try simp (disch := first | assumption | omega) only [wpo_bind, wpo_some, wpo_gf, wpo_gk, wpo_ld, wpo_pf, wpo_pz, wpo_sd, wpo_sr, wpo_ln, wpo_idv, wpo_irm, wpo_lrm, wpo_ldv, wpo_cpy, mlet, mnar_int, mup_same, mup_cell, mup_slot, ite_true, ite_false, true_and, and_true, eq_self, or_true, true_or, and_self, Int.reduceLT, Int.reduceLE, Int.reduceEq, Int.reduceNe, Int.reduceAdd, Int.reduceSub, Int.reduceMul, Int.reduceNeg, ne_eq, not_false_eq_true, not_true_eq_false, false_or, or_false, zor_inl, zor_inr, Bool.false_eq_true, false_and, and_false, zk1, zk2, zk3, zk4, zk5, zk6, zk7, zk8, zk9, zk10, zk11, zk12, zk13, zk14, zk15, zk16, zk17, zk18, zk19, zk20, zk21, zk22, zk23, zk24, zk25, zk26, zk27, zk28, zk29, zk30, zk31, zk32, zk33, zk34, zk35, zk36, zk37, zk38, zk39, zk40, zk41, zk42, zk43, zk44, zk45, zk46, zk47, zk48, zk49, zk50, zk51, zk52, zk53, zk54, zk55, zk56, zk57, zk58, zk59, zk60, zk61, zk62, zk63, zk64, zk65, zk66, zk67, zk68, zk69, zk70, zk71, zk72, zk73, zk74, zk75, zk76, zk77, zk78, zk79, zk80, zk81, zk82, zk83, zk84, zk85, zk86, zk87, zk88, zk89, zk90, zr2_0, zr2_1, zr2_2, zr2_3, zr2_4, zr2_6, zr2_7, zr2_10, zr2_11, zr2_12, zr1_0, zr1_1, zr14_0, zr14_1, zr14_2, zr14_3, zr14_4, zr14_6, zr14_7, zr14_10, zr14_11, zr14_12, zr13_0, zr25_0, zr25_1, zr25_2, zr25_3, zr25_4, zr25_6, zr25_7, zr25_10, zr25_11, zr25_12, zr13_1, zr1_2, zr37_0, zr1_3, zr39_0, zr39_1, zr39_2, zr39_5, zr39_7, zr39_8, zr1_4, zr46_1, zr46_2, zr46_3, zr46_4, zr46_0, zr1_5, zr51_2, zr51_10, zr51_0, zr51_1, zr54_1, zr54_2, zr54_3, zr1_6, zr58_1, zr58_2, zr58_3, zr58_0, zr1_7, zr62_2, zr62_3, zr62_0, zr62_1, zr1_8, zr1_9, zr1_10, zr1_15, zr68_2, zr68_3, zr68_4, zr68_5, zr68_7, zr68_8, zr68_9, zr68_12, zr68_13, zr68_14, zr68_22, zr68_23, zr68_24, zr68_26, zr68_35, zr68_36, zr68_37, zr68_38, zr68_39, zr68_40, zr68_41, zr68_42, g2, cn, xp, hs, xh1])
          exact nxt σ' y4 g2 g4 g5 g7 (fun x => by omega)
        · have cn : ¬ tr < 0 := by omega
          have s9 := g8 tr0
          have bd := zd_bd hS k
          have ed := f_draws (σ := σ') (m := 2 * tr + 1) hB' (by omega) (by omega) (by omega)
          rw [s9] at ed
          have t2 : w32 (2 * tr) = 2 * tr := w32_in (by omega) (by omega)
          have t3 : w32 (2 * tr + 1) = 2 * tr + 1 := w32_in (by omega) (by omega)
          have bm0 := Int.emod_nonneg (zdraw (zd S k)) (show 2 * tr + 1 ≠ 0 by omega)
          have bm1 := Int.emod_lt_of_pos (zdraw (zd S k)) (show 0 < 2 * tr + 1 by omega)
          have t4 : w32 (zdraw (zd S k) % (2 * tr + 1) - tr) = zdraw (zd S k) % (2 * tr + 1) - tr := w32_in (by omega) (by omega)
          have t5 : w32 (zH S k + zs S k + (zdraw (zd S k) % (2 * tr + 1) - tr)) = zH S (k + 1) := by
            rw [zH_succ, e4, tt]
            by_cases c0 : 0 < tr
            · rw [if_pos c0]; exact w32_in (by omega) (by omega)
            · have : tr = 0 := by omega
              subst this
              rw [if_neg c0, w32_in (by omega) (by omega)]
              omega
          have fs : zFg σ' (mup σ'.1 68 34 (zdraw (zd S k)), σ'.2) := zFg.slot hB' (by decide) (by decide +kernel)
          (try simp (disch := first | assumption | omega) only [wpo_bind, wpo_some, wpo_gf, wpo_gk, wpo_ld, wpo_pf, wpo_pz, wpo_sd, wpo_sr, wpo_ln, wpo_idv, wpo_irm, wpo_lrm, wpo_ldv, wpo_cpy, mlet, mnar_int, mup_same, mup_cell, mup_slot, ite_true, ite_false, true_and, and_true, eq_self, or_true, true_or, and_self, Int.reduceLT, Int.reduceLE, Int.reduceEq, Int.reduceNe, Int.reduceAdd, Int.reduceSub, Int.reduceMul, Int.reduceNeg, ne_eq, not_false_eq_true, not_true_eq_false, false_or, or_false, zor_inl, zor_inr, Bool.false_eq_true, false_and, and_false, zk1, zk2, zk3, zk4, zk5, zk6, zk7, zk8, zk9, zk10, zk11, zk12, zk13, zk14, zk15, zk16, zk17, zk18, zk19, zk20, zk21, zk22, zk23, zk24, zk25, zk26, zk27, zk28, zk29, zk30, zk31, zk32, zk33, zk34, zk35, zk36, zk37, zk38, zk39, zk40, zk41, zk42, zk43, zk44, zk45, zk46, zk47, zk48, zk49, zk50, zk51, zk52, zk53, zk54, zk55, zk56, zk57, zk58, zk59, zk60, zk61, zk62, zk63, zk64, zk65, zk66, zk67, zk68, zk69, zk70, zk71, zk72, zk73, zk74, zk75, zk76, zk77, zk78, zk79, zk80, zk81, zk82, zk83, zk84, zk85, zk86, zk87, zk88, zk89, zk90, zr2_0, zr2_1, zr2_2, zr2_3, zr2_4, zr2_6, zr2_7, zr2_10, zr2_11, zr2_12, zr1_0, zr1_1, zr14_0, zr14_1, zr14_2, zr14_3, zr14_4, zr14_6, zr14_7, zr14_10, zr14_11, zr14_12, zr13_0, zr25_0, zr25_1, zr25_2, zr25_3, zr25_4, zr25_6, zr25_7, zr25_10, zr25_11, zr25_12, zr13_1, zr1_2, zr37_0, zr1_3, zr39_0, zr39_1, zr39_2, zr39_5, zr39_7, zr39_8, zr1_4, zr46_1, zr46_2, zr46_3, zr46_4, zr46_0, zr1_5, zr51_2, zr51_10, zr51_0, zr51_1, zr54_1, zr54_2, zr54_3, zr1_6, zr58_1, zr58_2, zr58_3, zr58_0, zr1_7, zr62_2, zr62_3, zr62_0, zr62_1, zr1_8, zr1_9, zr1_10, zr1_15, zr68_2, zr68_3, zr68_4, zr68_5, zr68_7, zr68_8, zr68_9, zr68_12, zr68_13, zr68_14, zr68_22, zr68_23, zr68_24, zr68_26, zr68_35, zr68_36, zr68_37, zr68_38, zr68_39, zr68_40, zr68_41, zr68_42, g2, cn, xp, xh, t2, t3, ed, t4, t5])
          refine nxt _ (y4.trans fs) ?_ ?_ ?_ ?_ ?_
          · show mup σ'.1 68 34 (zdraw (zd S k)) 68 33 = _; (try simp (disch := omega) only [mup_same, mup_cell, mup_slot]); exact g2
          · show mup σ'.1 68 34 (zdraw (zd S k)) 68 32 = _; (try simp (disch := omega) only [mup_same, mup_cell, mup_slot]); exact g4
          · show mup σ'.1 68 34 (zdraw (zd S k)) 68 31 = _; (try simp (disch := omega) only [mup_same, mup_cell, mup_slot]); exact g5
          · intro j hj; show mup σ'.1 68 34 (zdraw (zd S k)) 82 _ = _; (try simp (disch := omega) only [mup_same, mup_cell, mup_slot]); exact g7 j hj
          · intro _; show mup σ'.1 68 34 (zdraw (zd S k)) 68 34 = _; (try simp (disch := omega) only [mup_same, mup_cell, mup_slot]); rw [zd_succ]
      · subst g0
        rw [if_pos rfl]
        exact wpo_some.mpr ⟨m', (zFh.of_fv vf).trans (zFh.of_fg (f8.trans y4)), g1⟩
    · refine ⟨0, rfl, by omega, by simp, by rw [zH_zero, e3], hg, zFg.rfl' mX.1⟩
  by_cases c : A 182 < 63
  · rw [if_pos c]
    refine key 1 (Or.inl ⟨rfl, by rw [e1]; omega, by rw [x33, zs_zero, e5], by rw [t1], by rw [x32, t1], by rw [x31]; show _ = zH S 0; rw [zH_zero, e3], fun j h1 h2 => by omega, hX, sdz⟩)
  · rw [if_neg c]
    have e63 : ze S = 63 := by rw [e1]; omega
    have k0 := zK_zero e63
    have wh : zwh S = 2 := by unfold zwh; rw [if_pos e63]
    have n1 : ¬ zwh S = 1 := by rw [wh]; decide
    refine key 0 (Or.inr ⟨rfl, by rw [x27, wh], by rw [x28]; unfold zpl; rw [k0, e1]; simp, by rw [x29]; unfold zth; rw [if_neg n1], by rw [x30]; unfold zic; rw [if_neg n1], by rw [x31, k0]; show _ = zH S 0; rw [zH_zero, e3], by rw [x32, k0]; rfl, by rw [x33]; unfold zsl; rw [k0]; show _ = zs S 0; rw [zs_zero, e5], by rw [k0]; exact hX, by rw [k0]; exact sdz⟩)
end
