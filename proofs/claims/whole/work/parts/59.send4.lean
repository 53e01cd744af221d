theorem e_drawn {σ : mS} {m : Int} (hB : zB σ) (h0 : 0 ≤ σ.1 51 9) (h1 : σ.1 51 9 ≤ 1000002) (hm : 0 < m) : M_Light_drawn 51 m σ = some (zdraw (σ.1 51 9) % m, (mup σ.1 51 9 (zdraw (σ.1 51 9)), σ.2)) := by
  have : wpo (M_Light_drawn 51 m σ) (fun q => q = (zdraw (σ.1 51 9) % m, (mup σ.1 51 9 (zdraw (σ.1 51 9)), σ.2))) := by
    have a1 : w64 (σ.1 51 9 * 1103) = σ.1 51 9 * 1103 := w64_in (by omega) (by omega)
    have a2 : w64 (σ.1 51 9 * 1103 + 12345) = σ.1 51 9 * 1103 + 12345 := w64_in (by omega) (by omega)
    have a3 : Int.tmod (σ.1 51 9 * 1103 + 12345) 1000003 = zdraw (σ.1 51 9) := by
      rw [Int.tmod_eq_emod_of_nonneg (by omega)]; rfl
    have b := zdraw_bd (σ.1 51 9)
    have a4 : w32 (zdraw (σ.1 51 9)) = zdraw (σ.1 51 9) := w32_in (by omega) (by omega)
    have a5 : Int.tmod (zdraw (σ.1 51 9)) m = zdraw (σ.1 51 9) % m := Int.tmod_eq_emod_of_nonneg b.1
    have m0 : ¬ m = 0 := by omega
    unfold M_Light_drawn
    simp (disch := first | assumption | omega) only [wpo_bind, wpo_some, wpo_gf, wpo_gk, wpo_ld, wpo_pf, wpo_pz, wpo_sd, wpo_sr, wpo_ln, wpo_idv, wpo_irm, wpo_lrm, wpo_ldv, wpo_cpy, mlet, mnar_int, mup_same, mup_cell, mup_slot, ite_true, ite_false, true_and, and_true, eq_self, or_true, true_or, and_self, Int.reduceLT, Int.reduceLE, Int.reduceEq, Int.reduceNe, Int.reduceAdd, Int.reduceSub, Int.reduceMul, Int.reduceNeg, ne_eq, not_false_eq_true, not_true_eq_false, false_or, or_false, zor_inl, zor_inr, false_and, and_false, zk1, zk2, zk3, zk4, zk5, zk6, zk7, zk8, zk9, zk10, zk11, zk12, zk13, zk14, zk15, zk16, zk17, zk18, zk19, zk20, zk21, zk22, zk23, zk24, zk25, zk26, zk27, zk28, zk29, zk30, zk31, zk32, zk33, zk34, zk35, zk36, zk37, zk38, zk39, zk40, zk41, zk42, zk43, zk44, zk45, zk46, zk47, zk48, zk49, zk50, zk51, zk52, zk53, zk54, zk55, zk56, zk57, zk58, zk59, zk60, zk61, zk62, zk63, zk64, zk65, zk66, zk67, zk68, zk69, zk70, zk71, zk72, zk73, zk74, zk75, zk76, zk77, zk78, zk79, zk80, zk81, zk82, zk83, zk84, zk85, zk86, zk87, zk88, zk89, zk90, zr2_0, zr2_1, zr2_2, zr2_3, zr2_4, zr2_6, zr2_7, zr2_10, zr2_11, zr2_12, zr1_0, zr1_1, zr14_0, zr14_1, zr14_2, zr14_3, zr14_4, zr14_6, zr14_7, zr14_10, zr14_11, zr14_12, zr13_0, zr25_0, zr25_1, zr25_2, zr25_3, zr25_4, zr25_6, zr25_7, zr25_10, zr25_11, zr25_12, zr13_1, zr1_2, zr37_0, zr1_3, zr39_0, zr39_1, zr39_2, zr39_5, zr39_7, zr39_8, zr1_4, zr46_1, zr46_2, zr46_3, zr46_4, zr46_0, zr1_5, zr51_2, zr51_10, zr51_0, zr51_1, zr54_1, zr54_2, zr54_3, zr1_6, zr58_1, zr58_2, zr58_3, zr58_0, zr1_7, zr62_2, zr62_3, zr62_0, zr62_1, zr1_8, zr1_9, zr1_10, zr1_15, zr68_2, zr68_3, zr68_4, zr68_5, zr68_7, zr68_8, zr68_9, zr68_12, zr68_13, zr68_14, zr68_22, zr68_23, zr68_24, zr68_26, zr68_35, zr68_36, zr68_37, zr68_38, zr68_39, zr68_40, zr68_41, zr68_42, a1, a2, a3, a4, a5, m0]
  obtain ⟨y, e, rfl⟩ := this
  exact e
set_option maxHeartbeats 4000000 in
theorem s_send {D : Int → (Int → Int) → Int} {A : Int → Int} {σ : mS} {s bend e eh t pa a sd : Int} (S : zSc) (eS : S = (A, zWd D A s, bend, e, eh, a, t, sd, pa)) (hS : zSok S) (hq : zCQ D A σ) (hl : zLt σ s bend e eh t pa) (hsd : 0 < t → σ.1 51 9 = sd) :
    wpo (M_Light_send 51 a σ) (fun q => zCQ D A q.2 ∧ zFrs (σ.1 47 s) σ q.2 ∧ zRes S q.2) := by
  have hB := hq.1
  have e1 : ze S = e := by rw [eS]; rfl
  have e3 : zeh S = eh := by rw [eS]; rfl
  have e4 : zt S = t := by rw [eS]; rfl
  have e5 : za S = a := by rw [eS]; rfl
  have e6 : zsd S = sd := by rw [eS]; rfl
  have he := hS.2.2.2.1
  rw [e1] at he
  have heh := hS.2.2.2.2.1
  rw [e3] at heh
  have ht := hS.2.2.2.2.2.2.1
  rw [e4] at ht
  have hh0 := zAir_get hq.2.2.2.2 hl.1.1 hl.1.2 hl.2.1
  have lo := zHB_low hh0.1
  have l5 := hl.2.2.1
  have l3 := hl.2.2.2.2.2.1
  have l4 := hl.2.2.2.2.2.2.1
  have l7 := hl.2.2.2.2.2.2.2.2
  have kb := hh0.1.2.2.1
  have rb2 := hh0.1.2.2.2.2.2.2.2.1
  have w1 : w32 (100 * eh) = 100 * eh := w32_in (by omega) (by omega)
  have w2 : w32 (100 * eh + 50) = 100 * eh + 50 := w32_in (by omega) (by omega)
  have p0 := he.1
  have p1 : e < 64 := by omega
  have q1 : zCQ D A (mup σ.1 53 e (100 * eh + 50), σ.2) := zCQ_height hq
  have f1 : zFrs (σ.1 47 s) σ (mup σ.1 53 e (100 * eh + 50), σ.2) := zFrs.height hB
  have key : wpo (M_Light_send_33 51 (zthc pa) (σ.1 47 s + 2) e (100 * eh + 50) a 1 (mup σ.1 53 e (100 * eh + 50), σ.2)) (fun q => zCQ D A q.2 ∧ zFrs (σ.1 47 s) σ q.2 ∧ zRes S q.2) := by
    refine miter_mN (fun n y => ∃ k : Nat, n = 100 - k ∧ e + k ≤ 63 ∧ zstep D A S (σ.1 47 s) σ k (.inl y)) ?_ 100 _ (by decide) ?_
    · intro n y ⟨k, hn, hk, hz⟩
      obtain ⟨at', high, steep, going, σ'⟩ := y
      obtain ⟨z1, z2, z3, z4, z5, z6, z7⟩ := hz
      rw [e1] at z1
      subst z1; subst z2
      have hB' := z4.1
      have hl' := hl.fr hq z5
      have m47 : σ'.1 47 = σ.1 47 := z5.2.2.1 47 (by decide) (by decide) (by decide) (by decide) (by omega) (by omega)
      have l8 := hl'.2.2.2.2.2.2.2.1
      rw [e1] at z6
      rw [e4] at z7
      show wpo (B_Light_send_33 51 (zthc pa) (σ.1 47 s + 2) (e + k) (zH S k) steep going σ') _
      by_cases c : going = 1 ∧ e + (k : Int) < 63
      · obtain ⟨c1, c2⟩ := c
        subst c1
        rcases z3 with g | g
        · obtain ⟨_, _, gs, gn⟩ := g
          subst gs
          have bs := zs_bd hS k
          have bH := zH_bd hS k
          have x1 : w32 (e + (k : Int) + 1) = e + ((k : Int) + 1) := by rw [Int.add_assoc]; exact w32_in (by omega) (by omega)
          have x2 : w32 (zH S k + zs S k) = zH S k + zs S k := w32_in (by omega) (by omega)
          have nxt : ∀ σ2 : mS, zCQ D A σ2 → zFrs (σ.1 47 s) σ σ2 → (∀ j : Nat, j ≤ k → σ2.1 53 (e + j) = zH S j) → (0 < t → σ2.1 51 9 = zd S (k + 1)) → wpo (M_Light_send_60 51 (zthc pa) (σ.1 47 s + 2) (e + ((k : Int) + 1)) (zH S (k + 1)) (zs S k) σ2) (zor (fun y' => ∃ m, m < n ∧ ∃ k : Nat, m = 100 - k ∧ e + k ≤ 63 ∧ zstep D A S (σ.1 47 s) σ k (.inl y')) (fun q => zCQ D A q.2 ∧ zFrs (σ.1 47 s) σ q.2 ∧ zRes S q.2)) := by
            intro σ2 q2 f2 h2 d2
            have n47 : σ2.1 47 = σ.1 47 := f2.2.2.1 47 (by decide) (by decide) (by decide) (by decide) (by omega) (by omega)
            have sp := s_send_60 S eS hS q2 (hl.fr hq f2) c2 gn h2 d2
            rw [n47] at sp
            refine wpo_mono sp ?_
            intro z hz
            cases z with
            | inl y =>
              obtain ⟨a1, a2, a3, a4, σ3⟩ := y
              obtain ⟨y1, y2, y3, y4, y5, y6, y7⟩ := hz
              exact ⟨100 - (k + 1), by omega, k + 1, rfl, by omega, y1, y2, y3, y4, f2.trans y5, y6, y7⟩
            | inr _ => exact hz.elim
          unfold B_Light_send_33
          rw [if_neg (by decide), if_pos c2]
          by_cases ct : 0 < t
          · have s9 := z7 ct
            have bd := zd_bd hS k
            have ed := e_drawn (σ := σ') (m := 2 * t + 1) hB' (by omega) (by omega) (by omega)
            rw [s9] at ed
            have t2 : w32 (2 * t) = 2 * t := w32_in (by omega) (by omega)
            have t3 : w32 (2 * t + 1) = 2 * t + 1 := w32_in (by omega) (by omega)
            have rb := zdr_bd (x := zdraw (zd S k)) ct
            have t4 : w32 (zdraw (zd S k) % (2 * t + 1) - t) = zdraw (zd S k) % (2 * t + 1) - t := w32_in (by omega) (by omega)
            have t5 : w32 (zH S k + zs S k + (zdraw (zd S k) % (2 * t + 1) - t)) = zH S (k + 1) := by
              rw [zH_succ, e4, if_pos ct]; exact w32_in (by omega) (by omega)
            simp (disch := first | assumption | omega) only [wpo_bind, wpo_some, wpo_gf, wpo_gk, wpo_ld, wpo_pf, wpo_pz, wpo_sd, wpo_sr, wpo_ln, wpo_idv, wpo_irm, wpo_lrm, wpo_ldv, wpo_cpy, mlet, mnar_int, mup_same, mup_cell, mup_slot, ite_true, ite_false, true_and, and_true, eq_self, or_true, true_or, and_self, Int.reduceLT, Int.reduceLE, Int.reduceEq, Int.reduceNe, Int.reduceAdd, Int.reduceSub, Int.reduceMul, Int.reduceNeg, ne_eq, not_false_eq_true, not_true_eq_false, false_or, or_false, zor_inl, zor_inr, false_and, and_false, zk1, zk2, zk3, zk4, zk5, zk6, zk7, zk8, zk9, zk10, zk11, zk12, zk13, zk14, zk15, zk16, zk17, zk18, zk19, zk20, zk21, zk22, zk23, zk24, zk25, zk26, zk27, zk28, zk29, zk30, zk31, zk32, zk33, zk34, zk35, zk36, zk37, zk38, zk39, zk40, zk41, zk42, zk43, zk44, zk45, zk46, zk47, zk48, zk49, zk50, zk51, zk52, zk53, zk54, zk55, zk56, zk57, zk58, zk59, zk60, zk61, zk62, zk63, zk64, zk65, zk66, zk67, zk68, zk69, zk70, zk71, zk72, zk73, zk74, zk75, zk76, zk77, zk78, zk79, zk80, zk81, zk82, zk83, zk84, zk85, zk86, zk87, zk88, zk89, zk90, zr2_0, zr2_1, zr2_2, zr2_3, zr2_4, zr2_6, zr2_7, zr2_10, zr2_11, zr2_12, zr1_0, zr1_1, zr14_0, zr14_1, zr14_2, zr14_3, zr14_4, zr14_6, zr14_7, zr14_10, zr14_11, zr14_12, zr13_0, zr25_0, zr25_1, zr25_2, zr25_3, zr25_4, zr25_6, zr25_7, zr25_10, zr25_11, zr25_12, zr13_1, zr1_2, zr37_0, zr1_3, zr39_0, zr39_1, zr39_2, zr39_5, zr39_7, zr39_8, zr1_4, zr46_1, zr46_2, zr46_3, zr46_4, zr46_0, zr1_5, zr51_2, zr51_10, zr51_0, zr51_1, zr54_1, zr54_2, zr54_3, zr1_6, zr58_1, zr58_2, zr58_3, zr58_0, zr1_7, zr62_2, zr62_3, zr62_0, zr62_1, zr1_8, zr1_9, zr1_10, zr1_15, zr68_2, zr68_3, zr68_4, zr68_5, zr68_7, zr68_8, zr68_9, zr68_12, zr68_13, zr68_14, zr68_22, zr68_23, zr68_24, zr68_26, zr68_35, zr68_36, zr68_37, zr68_38, zr68_39, zr68_40, zr68_41, zr68_42, l8, ct, t2, t3, ed, t4, x1, x2, t5]
            refine nxt (mup σ'.1 51 9 (zdraw (zd S k)), σ'.2) (zCQ_slot z4 (by decide +kernel)) (z5.trans (zFrs.slot hB' (by decide +kernel) (by decide))) ?_ ?_
            · intro j hj
              show mup σ'.1 51 9 (zdraw (zd S k)) 53 (e + j) = zH S j
              rw [mup_cell (by decide)]; exact z6 j hj
            · intro _
              show mup σ'.1 51 9 (zdraw (zd S k)) 51 9 = zd S (k + 1)
              rw [mup_same, zd_succ]
          · have t5 : zH S k + zs S k = zH S (k + 1) := by rw [zH_succ, e4, if_neg ct]; omega
            have bH1 := zH_bd hS (k + 1)
            have x3 : w32 (zH S (k + 1)) = zH S (k + 1) := w32_in (by omega) (by omega)
            simp (disch := first | assumption | omega) only [wpo_bind, wpo_some, wpo_gf, wpo_gk, wpo_ld, wpo_pf, wpo_pz, wpo_sd, wpo_sr, wpo_ln, wpo_idv, wpo_irm, wpo_lrm, wpo_ldv, wpo_cpy, mlet, mnar_int, mup_same, mup_cell, mup_slot, ite_true, ite_false, true_and, and_true, eq_self, or_true, true_or, and_self, Int.reduceLT, Int.reduceLE, Int.reduceEq, Int.reduceNe, Int.reduceAdd, Int.reduceSub, Int.reduceMul, Int.reduceNeg, ne_eq, not_false_eq_true, not_true_eq_false, false_or, or_false, zor_inl, zor_inr, false_and, and_false, zk1, zk2, zk3, zk4, zk5, zk6, zk7, zk8, zk9, zk10, zk11, zk12, zk13, zk14, zk15, zk16, zk17, zk18, zk19, zk20, zk21, zk22, zk23, zk24, zk25, zk26, zk27, zk28, zk29, zk30, zk31, zk32, zk33, zk34, zk35, zk36, zk37, zk38, zk39, zk40, zk41, zk42, zk43, zk44, zk45, zk46, zk47, zk48, zk49, zk50, zk51, zk52, zk53, zk54, zk55, zk56, zk57, zk58, zk59, zk60, zk61, zk62, zk63, zk64, zk65, zk66, zk67, zk68, zk69, zk70, zk71, zk72, zk73, zk74, zk75, zk76, zk77, zk78, zk79, zk80, zk81, zk82, zk83, zk84, zk85, zk86, zk87, zk88, zk89, zk90, zr2_0, zr2_1, zr2_2, zr2_3, zr2_4, zr2_6, zr2_7, zr2_10, zr2_11, zr2_12, zr1_0, zr1_1, zr14_0, zr14_1, zr14_2, zr14_3, zr14_4, zr14_6, zr14_7, zr14_10, zr14_11, zr14_12, zr13_0, zr25_0, zr25_1, zr25_2, zr25_3, zr25_4, zr25_6, zr25_7, zr25_10, zr25_11, zr25_12, zr13_1, zr1_2, zr37_0, zr1_3, zr39_0, zr39_1, zr39_2, zr39_5, zr39_7, zr39_8, zr1_4, zr46_1, zr46_2, zr46_3, zr46_4, zr46_0, zr1_5, zr51_2, zr51_10, zr51_0, zr51_1, zr54_1, zr54_2, zr54_3, zr1_6, zr58_1, zr58_2, zr58_3, zr58_0, zr1_7, zr62_2, zr62_3, zr62_0, zr62_1, zr1_8, zr1_9, zr1_10, zr1_15, zr68_2, zr68_3, zr68_4, zr68_5, zr68_7, zr68_8, zr68_9, zr68_12, zr68_13, zr68_14, zr68_22, zr68_23, zr68_24, zr68_26, zr68_35, zr68_36, zr68_37, zr68_38, zr68_39, zr68_40, zr68_41, zr68_42, l8, ct, x1, t5, x3]
            exact nxt σ' z4 z5 z6 (fun x => absurd x ct)
        · rcases g.2.2 with ⟨g0, _⟩ | ⟨_, g63, _⟩
          · exact absurd g0 (by decide)
          · rw [e1] at g63; omega
      · have hend : going = 0 ∨ ¬ (e + (k : Int) < 63) := by
          rcases z3 with g | g
          · exact Or.inr (fun x => c ⟨g.1, x⟩)
          · rcases g.2.2 with ⟨g0, _⟩ | ⟨g1, _⟩
            · exact Or.inl g0
            · exact Or.inr (fun x => c ⟨g1, x⟩)
        have sp := s_send_end (b := σ.1 47 s) S eS hS z4 hk z3 hend z6 z7
        have sp2 : wpo ((M_Light_send_140 51 (zthc pa) (e + k) (zH S k) steep going σ').bind fun z => some (.inr z)) (zor (fun y' => ∃ m, m < n ∧ ∃ k : Nat, m = 100 - k ∧ e + k ≤ 63 ∧ zstep D A S (σ.1 47 s) σ k (.inl y')) (fun q => zCQ D A q.2 ∧ zFrs (σ.1 47 s) σ q.2 ∧ zRes S q.2)) := by
          refine wpo_call sp ?_
          intro q hq'
          exact wpo_some.mpr ⟨hq'.1, z5.trans hq'.2.1, hq'.2.2⟩
        unfold B_Light_send_33
        by_cases c0 : going = 0
        · rw [if_pos c0]; exact sp2
        · rw [if_neg c0, if_neg (by omega)]; exact sp2
    · refine ⟨0, rfl, by omega, ?_⟩
      have hz : zgo S 0 a 1 := by
        by_cases c : e = 63
        · exact Or.inr ⟨zK_zero (by rw [e1]; exact c), by rw [← e5]; rfl, Or.inr ⟨rfl, by rw [e1]; omega, Or.inl rfl⟩⟩
        · exact Or.inl ⟨rfl, by rw [e1]; omega, by rw [← e5]; rfl, fun j h1 h2 => by omega⟩
      refine ⟨by rw [e1]; simp, by rw [zH_zero, e3], hz, q1, f1, ?_, ?_⟩
      · intro j hj
        have : j = 0 := by omega
        subst this
        rw [e1, zH_zero, e3]
        show mup σ.1 53 e _ 53 (e + 0) = _
        rw [Int.add_zero]; exact mup_same
      · intro x
        rw [e4] at x
        rw [zd_zero, e6]
        show mup σ.1 53 e (100 * eh + 50) 51 9 = sd
        rw [mup_cell (by decide)]; exact hsd x
  unfold M_Light_send
  by_cases c : pa = 0
  · have zz : zthc pa = 5 := by unfold zthc; rw [if_pos c]
    rw [zz] at key
    have c' : σ.1 51 7 = 0 := by rw [l7]; exact c
    unfold M_Light_send_9
    simp (disch := first | assumption | omega) only [wpo_bind, wpo_some, wpo_gf, wpo_gk, wpo_ld, wpo_pf, wpo_pz, wpo_sd, wpo_sr, wpo_ln, wpo_idv, wpo_irm, wpo_lrm, wpo_ldv, wpo_cpy, mlet, mnar_int, mup_same, mup_cell, mup_slot, ite_true, ite_false, true_and, and_true, eq_self, or_true, true_or, and_self, Int.reduceLT, Int.reduceLE, Int.reduceEq, Int.reduceNe, Int.reduceAdd, Int.reduceSub, Int.reduceMul, Int.reduceNeg, ne_eq, not_false_eq_true, not_true_eq_false, false_or, or_false, zor_inl, zor_inr, false_and, and_false, zk1, zk2, zk3, zk4, zk5, zk6, zk7, zk8, zk9, zk10, zk11, zk12, zk13, zk14, zk15, zk16, zk17, zk18, zk19, zk20, zk21, zk22, zk23, zk24, zk25, zk26, zk27, zk28, zk29, zk30, zk31, zk32, zk33, zk34, zk35, zk36, zk37, zk38, zk39, zk40, zk41, zk42, zk43, zk44, zk45, zk46, zk47, zk48, zk49, zk50, zk51, zk52, zk53, zk54, zk55, zk56, zk57, zk58, zk59, zk60, zk61, zk62, zk63, zk64, zk65, zk66, zk67, zk68, zk69, zk70, zk71, zk72, zk73, zk74, zk75, zk76, zk77, zk78, zk79, zk80, zk81, zk82, zk83, zk84, zk85, zk86, zk87, zk88, zk89, zk90, zr2_0, zr2_1, zr2_2, zr2_3, zr2_4, zr2_6, zr2_7, zr2_10, zr2_11, zr2_12, zr1_0, zr1_1, zr14_0, zr14_1, zr14_2, zr14_3, zr14_4, zr14_6, zr14_7, zr14_10, zr14_11, zr14_12, zr13_0, zr25_0, zr25_1, zr25_2, zr25_3, zr25_4, zr25_6, zr25_7, zr25_10, zr25_11, zr25_12, zr13_1, zr1_2, zr37_0, zr1_3, zr39_0, zr39_1, zr39_2, zr39_5, zr39_7, zr39_8, zr1_4, zr46_1, zr46_2, zr46_3, zr46_4, zr46_0, zr1_5, zr51_2, zr51_10, zr51_0, zr51_1, zr54_1, zr54_2, zr54_3, zr1_6, zr58_1, zr58_2, zr58_3, zr58_0, zr1_7, zr62_2, zr62_3, zr62_0, zr62_1, zr1_8, zr1_9, zr1_10, zr1_15, zr68_2, zr68_3, zr68_4, zr68_5, zr68_7, zr68_8, zr68_9, zr68_12, zr68_13, zr68_14, zr68_22, zr68_23, zr68_24, zr68_26, zr68_35, zr68_36, zr68_37, zr68_38, zr68_39, zr68_40, zr68_41, zr68_42, c', l5, l3, l4, kb, rb2, w1, w2, p0, p1]
    exact key
  · have zz : zthc pa = 52 := by unfold zthc; rw [if_neg c]
    rw [zz] at key
    have c' : ¬ σ.1 51 7 = 0 := by rw [l7]; exact c
    unfold M_Light_send_9
    simp (disch := first | assumption | omega) only [wpo_bind, wpo_some, wpo_gf, wpo_gk, wpo_ld, wpo_pf, wpo_pz, wpo_sd, wpo_sr, wpo_ln, wpo_idv, wpo_irm, wpo_lrm, wpo_ldv, wpo_cpy, mlet, mnar_int, mup_same, mup_cell, mup_slot, ite_true, ite_false, true_and, and_true, eq_self, or_true, true_or, and_self, Int.reduceLT, Int.reduceLE, Int.reduceEq, Int.reduceNe, Int.reduceAdd, Int.reduceSub, Int.reduceMul, Int.reduceNeg, ne_eq, not_false_eq_true, not_true_eq_false, false_or, or_false, zor_inl, zor_inr, false_and, and_false, zk1, zk2, zk3, zk4, zk5, zk6, zk7, zk8, zk9, zk10, zk11, zk12, zk13, zk14, zk15, zk16, zk17, zk18, zk19, zk20, zk21, zk22, zk23, zk24, zk25, zk26, zk27, zk28, zk29, zk30, zk31, zk32, zk33, zk34, zk35, zk36, zk37, zk38, zk39, zk40, zk41, zk42, zk43, zk44, zk45, zk46, zk47, zk48, zk49, zk50, zk51, zk52, zk53, zk54, zk55, zk56, zk57, zk58, zk59, zk60, zk61, zk62, zk63, zk64, zk65, zk66, zk67, zk68, zk69, zk70, zk71, zk72, zk73, zk74, zk75, zk76, zk77, zk78, zk79, zk80, zk81, zk82, zk83, zk84, zk85, zk86, zk87, zk88, zk89, zk90, zr2_0, zr2_1, zr2_2, zr2_3, zr2_4, zr2_6, zr2_7, zr2_10, zr2_11, zr2_12, zr1_0, zr1_1, zr14_0, zr14_1, zr14_2, zr14_3, zr14_4, zr14_6, zr14_7, zr14_10, zr14_11, zr14_12, zr13_0, zr25_0, zr25_1, zr25_2, zr25_3, zr25_4, zr25_6, zr25_7, zr25_10, zr25_11, zr25_12, zr13_1, zr1_2, zr37_0, zr1_3, zr39_0, zr39_1, zr39_2, zr39_5, zr39_7, zr39_8, zr1_4, zr46_1, zr46_2, zr46_3, zr46_4, zr46_0, zr1_5, zr51_2, zr51_10, zr51_0, zr51_1, zr54_1, zr54_2, zr54_3, zr1_6, zr58_1, zr58_2, zr58_3, zr58_0, zr1_7, zr62_2, zr62_3, zr62_0, zr62_1, zr1_8, zr1_9, zr1_10, zr1_15, zr68_2, zr68_3, zr68_4, zr68_5, zr68_7, zr68_8, zr68_9, zr68_12, zr68_13, zr68_14, zr68_22, zr68_23, zr68_24, zr68_26, zr68_35, zr68_36, zr68_37, zr68_38, zr68_39, zr68_40, zr68_41, zr68_42, c', l5, l3, l4, kb, rb2, w1, w2, p0, p1]
    exact key
