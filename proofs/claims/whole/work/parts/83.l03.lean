noncomputable section
/-! LAW: both -/
theorem zCz_le {K V : Nat → Int} {N : Nat} (hT : zTx K V N) : ∀ (n m a p : Nat) (g : (Int → Int) → Int), a ≤ N → p ≤ 50 → (zCz K V n m a p g).2.1 ≤ N := by
  intro n
  induction n with
  | zero => intro m a p g ha _; exact ha
  | succ n ih =>
    intro m a p g ha hp
    unfold zCz
    by_cases c : K a = 59
    · rw [if_pos c]
      have an : a ≠ N := fun e => by rw [e, hT.2.1] at c; exact absurd c (by decide)
      have ok := zCla_ok hT m (a + 1) p g (by omega) hp
      by_cases d : (zCla K V m (a + 1) p g).1 = 1
      · rw [if_pos d]
        rcases ok with x | x
        · exact ih _ _ _ _ x.2.2.1 x.2.2.2
        · exact absurd (d.symm.trans x.1) (by decide)
      · rw [if_neg d]
        rcases ok with x | x
        · exact x.2.2.1
        · exact x.2.2
    · rw [if_neg c]; exact ha
theorem zTxt_le {K V : Nat → Int} {N : Nat} (hT : zTx K V N) (h : (zTxt K V).1 = 0) : (zTxt K V).2.1 ≤ N := by
  have h1 := zCla_ok hT 0 0 0 (fun _ => 10) (Nat.zero_le _) (Nat.zero_le _)
  unfold zTxt at h ⊢
  by_cases c : (zCla K V 0 0 0 (fun _ => 10)).1 = 1
  · rw [if_pos c] at h ⊢
    have h1' : (zCla K V 0 0 0 (fun _ => 10)).2.1 ≤ N ∧ (zCla K V 0 0 0 (fun _ => 10)).2.2.1 ≤ 50 := by
      rcases h1 with x | x
      · exact ⟨x.2.2.1, x.2.2.2⟩
      · exact absurd (c.symm.trans x.1) (by decide)
    have h2 := zCz_le hT 401 1 (zCla K V 0 0 0 (fun _ => 10)).2.1 (zCla K V 0 0 0 (fun _ => 10)).2.2.1 (zCla K V 0 0 0 (fun _ => 10)).2.2.2 h1'.1 h1'.2
    by_cases d : (zCz K V 401 1 (zCla K V 0 0 0 (fun _ => 10)).2.1 (zCla K V 0 0 0 (fun _ => 10)).2.2.1 (zCla K V 0 0 0 (fun _ => 10)).2.2.2).1 = 1 ∧ K (zCz K V 401 1 (zCla K V 0 0 0 (fun _ => 10)).2.1 (zCla K V 0 0 0 (fun _ => 10)).2.2.1 (zCla K V 0 0 0 (fun _ => 10)).2.2.2).2.1 ≠ 256
    · rw [if_pos d]; exact h2
    · rw [if_neg d]; exact h2
  · rw [if_neg c]
    rcases h1 with x | x
    · exact x.2.2.1
    · exact x.2.2
theorem zCs_fr {K V : Nat → Int} {N m a p : Nat} {s fl : Int} {g : (Int → Int) → Int} {σ σ' : mS} (h : zCs K V N m a p s fl g σ) (hB : zB σ') (hf : ∀ r, 39 ≤ r → r ≤ 45 → σ'.1 r = σ.1 r) : zCs K V N m a p s fl g σ' := by
  unfold zCs zPre zTk zAt at h ⊢
  rw [hf 39 (by decide) (by decide), hf 40 (by decide) (by decide), hf 42 (by decide) (by decide), hf 43 (by decide) (by decide), hf 44 (by decide) (by decide), hf 45 (by decide) (by decide)]
  exact ⟨⟨⟨hB, h.1.1.2⟩, h.1.2⟩, h.2⟩
theorem zLk_lo {A C P : Int → Int} {t N m j : Int} (t0 : 0 ≤ t) (hj : j < 188) : zLk A C P t N m j = A j := by
  unfold zLk
  rw [if_neg (by omega), if_neg (by omega), if_neg (by omega)]
theorem zWF_lk {A A' : Int → Int} (hW : zWF A) (o : ∀ j, j < 188 → j ≠ 186 → A' j = A j) (h : A' 186 = A 186 + 1) (h6 : A 186 < 6) : zWF A' := by
  obtain ⟨w1, w2, w3, w4, w5, w6, w7, w8, w9⟩ := hW
  have e184 := o 184 (by decide) (by decide)
  have e185 := o 185 (by decide) (by decide)
  refine ⟨fun j j0 j1 => by rw [o j (by omega) (by omega), o (64 + j) (by omega) (by omega)]; exact w1 j j0 j1, by rw [e184]; exact w2, fun u u0 u1 => ?_, fun u v u0 u1 v0 v1 e => ?_, by rw [o 180 (by decide) (by decide), o 181 (by decide) (by decide), o 182 (by decide) (by decide), o 183 (by decide) (by decide)]; exact w5, by rw [e185]; exact w6, fun j j0 j1 => ?_, by rw [h]; omega, by rw [h, o 187 (by decide) (by decide)]; omega⟩
  · rw [e184] at u1
    rw [o _ (by omega) (by omega), o (136 + u) (by omega) (by omega)]; exact w3 u u0 u1
  · rw [e184] at u1 v1
    rw [o _ (by omega) (by omega), o (128 + v) (by omega) (by omega)] at e
    exact w4 u v u0 u1 v0 v1 e
  · rw [e185] at j1
    rw [o _ (by omega) (by omega), o (145 + 3 * j) (by omega) (by omega), o (146 + 3 * j) (by omega) (by omega), e184]
    exact w7 j j0 j1
set_option maxHeartbeats 8000000 in
theorem s_law (k : Nat) (hk : k ≤ 1000) : zStp k (M_RW_law 1) (M_Mo_law 68) := by
  intro D A σ hI
  have hI0 := hI
  obtain ⟨q1, q2, q3, q4, q5, q6⟩ := hI
  have hB := q1.1.1
  have hW := q1.1.2.1
  have hR := q1.1.2.2.1
  have hLw := q1.1.2.2.2.1
  have h70 := q2.2.2.2.1
  have vk := q2.2.2.2.2.2.1
  have n10 : ¬ (1 : Int) = 0 := by decide
  have h8 : σ.1 2 8 = A 186 := hR.2.2.2.2.1
  have hn6 := hW.2.2.2.2.2.2.2.1
  obtain ⟨r1, r2, r3, r4, r5, r6, r7, r8, r9, r10⟩ := q4
  obtain ⟨n, hn⟩ : ∃ n : Nat, σ.1 68 10 = (n : Int) := ⟨(σ.1 68 10).toNat, by omega⟩
  have n400 : n ≤ 400 := by omega
  have r51 : σ.1 37 1 = (n : Int) := r5.1.trans hn
  have b0 := zB_mup (r := 37) (i := 1) (v := 0) hB (by decide +kernel)
  by_cases c6 : A 186 < 6
  · have tb : ∀ i : Nat, i < n → 0 ≤ σ.1 38 i ∧ σ.1 38 i < 256 := fun i hi => (r6 i (by omega) (by omega)).2
    have hT' := zTx_of (T := σ.1 38) n400 tb
    obtain ⟨p, ep, ⟨pk, pB, pf'⟩, pc⟩ := d_read (T := σ.1 38) (σ := (mup σ.1 37 1 0, σ.2)) (n := n) b0 n400 (fun j _ => by show mup σ.1 37 1 0 38 j = _; rw [mup_cell (by decide)]) tb
    have pf2 : ∀ r, r ≠ 37 → ¬ (39 ≤ r ∧ r ≤ 45) → p.2.1 r = σ.1 r := fun r a b => (pf' r b).trans (mup_fun a)
    have p37 : p.2.1 37 1 = 0 := by rw [pf' 37 (by decide)]; show mup σ.1 37 1 0 37 1 = 0; rw [mup_same]
    have pk2 : p.2.2 = σ.2 := pk
    have hN4 := hT'.1.1
    generalize eK : zKt' (σ.1 38) n = K at *
    generalize eV : zVt' (σ.1 38) n = V at *
    generalize eS : zSt' (σ.1 38) n = S at *
    generalize eN : (zfo (σ.1 38) n n).1 = N at *
    have b1 := zB_mup (r := 1) (i := 13) (v := p.1) pB (by decide +kernel)
    rcases pc with ⟨c1, c2, m, s, fl, hcs⟩ | ⟨c1, c2⟩
    · -- a law is told
      have uN : zN (mup p.2.1 1 13 p.1, p.2.2) := by unfold zN; show 90 ≤ p.2.2.2.1 ∧ (p.2.2.2.1 - 90) % 4 = 0; rw [pk2]; exact q1.2.1
      have ucs := zCs_fr hcs b1 (fun r a b => mup_fun (by omega))
      obtain ⟨Y, eY, yB, yc, ys, yk, yh, yl⟩ := d_makeLaw uN hN4 ucs
      have ec : ((mup p.2.1 1 13 p.1, p.2.2) : mS).2.2.1 = σ.2.2.1 := by show p.2.2.2.1 = _; rw [pk2]
      have es : ((mup p.2.1 1 13 p.1, p.2.2) : mS).2.2.2 = σ.2.2.2 := by show p.2.2.2.2 = _; rw [pk2]
      rw [ec] at eY yc yk yh yl
      rw [es] at ys
      have c90 := q1.2.1.1
      have yh' : ∀ u, u ≤ σ.2.2.1 → Y.1 u = mup p.2.1 1 13 p.1 u := yh
      have yk' : ∀ u, u ≤ σ.2.2.1 → Y.2.1 u = σ.2.1 u := fun u hu => by rw [yk u hu]; show p.2.2.1 u = _; rw [pk2]
      have y28 : Y.1 2 8 = A 186 := by rw [yh' 2 (by omega), mup_fun (by decide), pf2 2 (by decide) (by decide)]; exact h8
      have yb4 : (Y.2.1 (σ.2.2.1 + 1)).1 = 4 := by rw [yl.1.2.2.2.1]
      have ok4 : σ.2.2.1 + 1 = 0 ∨ 0 < σ.2.2.1 + 1 ∧ (Y.2.1 (σ.2.2.1 + 1)).1 = 4 := Or.inr ⟨by omega, yb4⟩
      have t0 : 0 ≤ A 186 := hn6.1
      have b2 := zB_mup (r := 9) (i := A 186) (v := σ.2.2.1 + 1) yB (zokr_arr (by decide +kernel))
      have b3 := zB_mup (r := 2) (i := 8) (v := A 186 + 1) b2 (by decide +kernel)
      have b4 := zB_mup (r := 1) (i := 14) (v := 0) b3 (by decide +kernel)
      have b5 := zB_mup (r := 58) (i := 4) (v := 0) b4 (by decide +kernel)
      have ac := e_accept (v := A 186) b3
      have w1 : ∀ u : Int, u = A 186 → w32 (u + 1) = A 186 + 1 := fun u hu => by rw [w32_in (by omega) (by omega)]; omega
      have p1e : p.1 = -1 := c2
      rw [p1e] at eY b1 yh' ec
      have dev : wpo (M_RW_law 1 σ) (fun q => q = (A 186, (mup (mup (mup (mup Y.1 9 (A 186) (σ.2.2.1 + 1)) 2 8 (A 186 + 1)) 1 14 0) 58 4 0, Y.2))) := by
        unfold M_RW_law
        simp (maxSteps := 5000000) (disch := first | assumption | omega) only [wpo_bind, wpo_some, wpo_gf, wpo_gk, wpo_ld, wpo_pf, wpo_pz, wpo_sd, wpo_sr, wpo_ln, wpo_idv, wpo_irm, wpo_lrm, wpo_ldv, mlet, mnar_int, mup_same, mup_cell, mup_slot, ite_true, ite_false, true_and, and_true, eq_self, or_true, true_or, and_self, Int.reduceLT, Int.reduceLE, Int.reduceEq, Int.reduceNe, Int.reduceAdd, Int.reduceSub, Int.reduceMul, Int.reduceNeg, ne_eq, not_false_eq_true, not_true_eq_false, false_or, or_false, zor_inl, zor_inr, Bool.false_eq_true, false_and, and_false, zk1, zk2, zk3, zk4, zk5, zk6, zk7, zk8, zk9, zk10, zk11, zk12, zk13, zk14, zk15, zk16, zk17, zk18, zk19, zk20, zk21, zk22, zk23, zk24, zk25, zk26, zk27, zk28, zk29, zk30, zk31, zk32, zk33, zk34, zk35, zk36, zk37, zk38, zk39, zk40, zk41, zk42, zk43, zk44, zk45, zk46, zk47, zk48, zk49, zk50, zk51, zk52, zk53, zk54, zk55, zk56, zk57, zk58, zk59, zk60, zk61, zk62, zk63, zk64, zk65, zk66, zk67, zk68, zk69, zk70, zk71, zk72, zk73, zk74, zk75, zk76, zk77, zk78, zk79, zk80, zk81, zk82, zk83, zk84, zk85, zk86, zk87, zk88, zk89, zk90, zr2_0, zr2_1, zr2_2, zr2_3, zr2_4, zr2_6, zr2_7, zr2_10, zr2_11, zr2_12, zr1_0, zr1_1, zr14_0, zr14_1, zr14_2, zr14_3, zr14_4, zr14_6, zr14_7, zr14_10, zr14_11, zr14_12, zr13_0, zr25_0, zr25_1, zr25_2, zr25_3, zr25_4, zr25_6, zr25_7, zr25_10, zr25_11, zr25_12, zr13_1, zr1_2, zr37_0, zr1_3, zr39_0, zr39_1, zr39_2, zr39_5, zr39_7, zr39_8, zr1_4, zr46_1, zr46_2, zr46_3, zr46_4, zr46_0, zr1_5, zr51_2, zr51_10, zr51_0, zr51_1, zr54_1, zr54_2, zr54_3, zr1_6, zr58_1, zr58_2, zr58_3, zr58_0, zr1_7, zr62_2, zr62_3, zr62_0, zr62_1, zr1_8, zr1_9, zr1_10, zr1_15, zr68_2, zr68_3, zr68_4, zr68_5, zr68_7, zr68_8, zr68_9, zr68_12, zr68_13, zr68_14, zr68_22, zr68_23, zr68_24, zr68_26, zr68_35, zr68_36, zr68_37, zr68_38, zr68_39, zr68_40, zr68_41, zr68_42, r51, h8, c6, ep, p1e, eY, t0, ok4, y28, w1, ac]
      refine wpo_mono dev ?_
      intro q hq
      subst hq
      clear dev
      have x1 : ∀ i, mup (mup (mup (mup Y.1 9 (A 186) (σ.2.2.1 + 1)) 2 8 (A 186 + 1)) 1 14 0) 58 4 0 1 i = if i = 14 then 0 else if i = 13 then -1 else σ.1 1 i := fun i => by rw [mup_cell (by decide), mup_if, mup_cell (by decide), mup_cell (by decide), yh' 1 (by omega), mup_if, pf2 1 (by decide) (by decide)]
      have x2 : ∀ i, mup (mup (mup (mup Y.1 9 (A 186) (σ.2.2.1 + 1)) 2 8 (A 186 + 1)) 1 14 0) 58 4 0 2 i = if i = 8 then A 186 + 1 else σ.1 2 i := fun i => by rw [mup_cell (by decide), mup_cell (by decide), mup_if, mup_cell (by decide), yh' 2 (by omega), mup_cell (by decide), pf2 2 (by decide) (by decide)]
      have x9 : ∀ i, mup (mup (mup (mup Y.1 9 (A 186) (σ.2.2.1 + 1)) 2 8 (A 186 + 1)) 1 14 0) 58 4 0 9 i = if i = A 186 then σ.2.2.1 + 1 else σ.1 9 i := fun i => by rw [mup_cell (by decide), mup_cell (by decide), mup_cell (by decide), mup_if, yh' 9 (by omega), mup_cell (by decide), pf2 9 (by decide) (by decide)]
      have x37 : mup (mup (mup (mup Y.1 9 (A 186) (σ.2.2.1 + 1)) 2 8 (A 186 + 1)) 1 14 0) 58 4 0 37 1 = 0 := by rw [mup_cell (by decide), mup_cell (by decide), mup_cell (by decide), mup_cell (by decide), yh' 37 (by omega), mup_cell (by decide)]; exact p37
      have x58 : mup (mup (mup (mup Y.1 9 (A 186) (σ.2.2.1 + 1)) 2 8 (A 186 + 1)) 1 14 0) 58 4 0 58 4 = 0 := mup_same
      have xY : ∀ u, u ≠ 1 ∧ u ≠ 2 ∧ u ≠ 9 ∧ u ≠ 58 → mup (mup (mup (mup Y.1 9 (A 186) (σ.2.2.1 + 1)) 2 8 (A 186 + 1)) 1 14 0) 58 4 0 u = Y.1 u := fun u x => by rw [mup_fun x.2.2.2, mup_fun x.1, mup_fun x.2.1, mup_fun x.2.2.1]
      generalize eX : ((mup (mup (mup (mup Y.1 9 (A 186) (σ.2.2.1 + 1)) 2 8 (A 186 + 1)) 1 14 0) 58 4 0, Y.2) : mS) = X
      have gB : zB X := by rw [← eX]; exact b5
      have g1 : ∀ i, X.1 1 i = if i = 14 then 0 else if i = 13 then -1 else σ.1 1 i := fun i => by rw [← eX]; exact x1 i
      have g2 : ∀ i, X.1 2 i = if i = 8 then A 186 + 1 else σ.1 2 i := fun i => by rw [← eX]; exact x2 i
      have g9 : ∀ i, X.1 9 i = if i = A 186 then σ.2.2.1 + 1 else σ.1 9 i := fun i => by rw [← eX]; exact x9 i
      have g37 : X.1 37 1 = 0 := by rw [← eX]; exact x37
      have g58 : X.1 58 4 = 0 := by rw [← eX]; exact x58
      have gY : ∀ u, u ≠ 1 ∧ u ≠ 2 ∧ u ≠ 9 ∧ u ≠ 58 → X.1 u = Y.1 u := fun u x => by rw [← eX]; exact xY u x
      have gk : X.2 = Y.2 := by rw [← eX]
      have gX : ∀ u, (u ≠ 1 ∧ u ≠ 2 ∧ u ≠ 9 ∧ u ≠ 37 ∧ u ≠ 58) ∧ ¬ (39 ≤ u ∧ u ≤ 45) ∧ u ≤ σ.2.2.1 → X.1 u = σ.1 u := fun u x => by rw [gY u (by omega), yh' u (by omega), mup_fun (by omega), pf2 u (by omega) (by omega)]
      clear eX x1 x2 x9 x37 x58 xY b1 b2 b3 b4 b5
      have h70x : X.1 70 = A := (gX 70 (by omega)).trans h70
      have v68 : X.1 68 = σ.1 68 := gX 68 (by omega)
      have v74 : X.1 74 = σ.1 74 := gX 74 (by omega)
      -- the reference
      obtain ⟨z, ez, ⟨zk, zB', zf, zf68⟩, z10, zmt, zval, zc⟩ := r_reads (T := σ.1 38) (σ := X) (n := n) gB n400 (by rw [v68]; exact hn) (fun j hj => by rw [v74]; exact (r6 j (by omega) (by omega)).1) tb
      rw [eK, eV, eS, eN] at zmt
      rw [eV, eN] at zval
      rw [eK, eV, eS] at zc
      have zc1 : z.1 = 1 ∧ z.2.1 68 11 = -1 := by
        rcases zc with x | x
        · exact x.2
        · exact absurd (c1.symm.trans x.1) (by decide)
      have z1e : z.1 = 1 := zc1.1
      have z70 : z.2.1 70 = A := (zf 70 (by decide) (by decide) (by decide) (by decide)).trans h70x
      have z15 : z.2.1 68 15 = (N : Int) := zmt.2.1
      have x186 : ¬ A 186 = 6 := by omega
      have x70k : ∀ j, X.1 70 j = A j := fun j => by rw [h70x]
      have z70k : ∀ j, z.2.1 70 j = A j := fun j => by rw [z70]
      have w2 : ∀ u : Int, u = A 186 → w32 (188 + u) = 188 + A 186 := fun u hu => by rw [w32_in (by omega) (by omega)]; omega
      have d1 : 0 ≤ 188 + A 186 ∧ 188 + A 186 < 4994 := by omega
      have e1 := zB_mup (r := 70) (i := 188 + A 186) (v := (N : Int)) zB' (zokr_arr (by decide +kernel))
      have kp := r_keep (X := (mup z.2.1 70 (188 + A 186) (N : Int), z.2.2)) (A := A) (t := A 186) (vv := σ.1 68 1) (N := N) e1 (by
        funext j
        show mup z.2.1 70 (188 + A 186) (N : Int) 70 j = _
        rw [mup_if, z70k]
        unfold zLk
        rw [if_neg (c := 194 + 400 * A 186 ≤ j ∧ j < 194 + 400 * A 186 + 0) (by omega), if_neg (c := 2594 + 400 * A 186 ≤ j ∧ j < 2594 + 400 * A 186 + 0) (by omega)]) (by show mup z.2.1 70 (188 + A 186) (N : Int) 68 15 = _; rw [mup_cell (by decide)]; exact z15) hN4 t0 c6 rfl (by show mup z.2.1 70 (188 + A 186) (N : Int) 68 1 = _; rw [mup_cell (by decide), zf68 1 (by decide) (by decide) (by decide) (by decide) (by decide) (by decide), v68]) vk
      generalize hC : ((mup z.2.1 70 (188 + A 186) (N : Int), z.2.2) : mS).1 76 = C at kp
      generalize hP : ((mup z.2.1 70 (188 + A 186) (N : Int), z.2.2) : mS).1 77 = P at kp
      have hC' : C = z.2.1 76 := by rw [← hC]; show mup z.2.1 70 (188 + A 186) (N : Int) 76 = _; rw [mup_fun (by decide)]
      have hP' : P = z.2.1 77 := by rw [← hP]; show mup z.2.1 70 (188 + A 186) (N : Int) 77 = _; rw [mup_fun (by decide)]
      generalize hQ : (fun q => ∃ Z, zPZ (zset (zLk A C P (A 186) N N) 186 (A 186 + 1)) (mup z.2.1 70 (188 + A 186) (N : Int), z.2.2) Z ∧ q = (A 186, (mup (mup Z.1 68 0 0) 68 1 (σ.1 68 1 + 1), Z.2))) = Q at kp
      have ref : wpo (M_Mo_law 68 X) Q := by
        unfold M_Mo_law
        simp (maxSteps := 5000000) (disch := first | assumption | omega) only [wpo_bind, wpo_some, wpo_gf, wpo_gk, wpo_ld, wpo_pf, wpo_pz, wpo_sd, wpo_sr, wpo_ln, wpo_idv, wpo_irm, wpo_lrm, wpo_ldv, mlet, mnar_int, mup_same, mup_cell, mup_slot, ite_true, ite_false, true_and, and_true, eq_self, or_true, true_or, and_self, Int.reduceLT, Int.reduceLE, Int.reduceEq, Int.reduceNe, Int.reduceAdd, Int.reduceSub, Int.reduceMul, Int.reduceNeg, ne_eq, not_false_eq_true, not_true_eq_false, false_or, or_false, zor_inl, zor_inr, Bool.false_eq_true, false_and, and_false, zk1, zk2, zk3, zk4, zk5, zk6, zk7, zk8, zk9, zk10, zk11, zk12, zk13, zk14, zk15, zk16, zk17, zk18, zk19, zk20, zk21, zk22, zk23, zk24, zk25, zk26, zk27, zk28, zk29, zk30, zk31, zk32, zk33, zk34, zk35, zk36, zk37, zk38, zk39, zk40, zk41, zk42, zk43, zk44, zk45, zk46, zk47, zk48, zk49, zk50, zk51, zk52, zk53, zk54, zk55, zk56, zk57, zk58, zk59, zk60, zk61, zk62, zk63, zk64, zk65, zk66, zk67, zk68, zk69, zk70, zk71, zk72, zk73, zk74, zk75, zk76, zk77, zk78, zk79, zk80, zk81, zk82, zk83, zk84, zk85, zk86, zk87, zk88, zk89, zk90, zr2_0, zr2_1, zr2_2, zr2_3, zr2_4, zr2_6, zr2_7, zr2_10, zr2_11, zr2_12, zr1_0, zr1_1, zr14_0, zr14_1, zr14_2, zr14_3, zr14_4, zr14_6, zr14_7, zr14_10, zr14_11, zr14_12, zr13_0, zr25_0, zr25_1, zr25_2, zr25_3, zr25_4, zr25_6, zr25_7, zr25_10, zr25_11, zr25_12, zr13_1, zr1_2, zr37_0, zr1_3, zr39_0, zr39_1, zr39_2, zr39_5, zr39_7, zr39_8, zr1_4, zr46_1, zr46_2, zr46_3, zr46_4, zr46_0, zr1_5, zr51_2, zr51_10, zr51_0, zr51_1, zr54_1, zr54_2, zr54_3, zr1_6, zr58_1, zr58_2, zr58_3, zr58_0, zr1_7, zr62_2, zr62_3, zr62_0, zr62_1, zr1_8, zr1_9, zr1_10, zr1_15, zr68_2, zr68_3, zr68_4, zr68_5, zr68_7, zr68_8, zr68_9, zr68_12, zr68_13, zr68_14, zr68_22, zr68_23, zr68_24, zr68_26, zr68_35, zr68_36, zr68_37, zr68_38, zr68_39, zr68_40, zr68_41, zr68_42, x70k, x186, ez, z1e, n10, z70k, z15, w2, d1]
        exact kp
      refine wpo_mono ref ?_
      intro q hq
      rw [← hQ] at hq
      obtain ⟨Z, ⟨Z1, Z2, Z3, Z4⟩, ezz⟩ := hq
      subst ezz
      clear kp ref hQ
      have Z3' : ∀ u, u ≠ 70 → Z.1 u = z.2.1 u := fun u hu => (Z3 u hu).trans (mup_fun hu)
      have Z2' : Z.2 = X.2 := Z2.trans zk
      have d2 := zB_mup (r := 68) (i := 0) (v := 0) Z1 (by decide +kernel)
      have d3 := zB_mup (r := 68) (i := 1) (v := σ.1 68 1 + 1) d2 (by decide +kernel)
      have m68 : ∀ i, mup (mup Z.1 68 0 0) 68 1 (σ.1 68 1 + 1) 68 i = if i = 1 then σ.1 68 1 + 1 else if i = 0 then 0 else z.2.1 68 i := fun i => by rw [mup_if, mup_if, Z3' 68 (by decide)]
      have mX : ∀ u, u ≠ 68 → mup (mup Z.1 68 0 0) 68 1 (σ.1 68 1 + 1) u = Z.1 u := fun u a => by rw [mup_fun a, mup_fun a]
      generalize eW : ((mup (mup Z.1 68 0 0) 68 1 (σ.1 68 1 + 1), Z.2) : mS) = W
      have w68 : ∀ i, W.1 68 i = if i = 1 then σ.1 68 1 + 1 else if i = 0 then 0 else z.2.1 68 i := fun i => by rw [← eW]; exact m68 i
      have wX : ∀ u, u ≠ 68 ∧ u ≠ 70 ∧ u ≠ 76 ∧ u ≠ 77 ∧ u ≠ 78 → W.1 u = X.1 u := fun u x => by rw [← eW]; exact (mX u x.1).trans ((Z3' u x.2.1).trans (zf u x.1 x.2.2.1 x.2.2.2.1 x.2.2.2.2))
      have w70 : W.1 70 = zset (zLk A C P (A 186) N N) 186 (A 186 + 1) := by rw [← eW]; exact (mX 70 (by decide)).trans Z4
      have wB : zB W := by rw [← eW]; exact d3
      have wk : W.2 = X.2 := by rw [← eW]; exact Z2'
      clear eW m68 mX d2 d3
      have s68 : ∀ i, i ≠ 0 → i ≠ 1 → i ≠ 10 ∧ i ≠ 11 ∧ i ≠ 15 ∧ i ≠ 16 ∧ i ≠ 17 ∧ i ≠ 18 → W.1 68 i = σ.1 68 i := fun i x0 x1 y => by rw [w68, if_neg x1, if_neg x0, zf68 i y.1 y.2.1 y.2.2.1 y.2.2.2.1 y.2.2.2.2.1 y.2.2.2.2.2, v68]
      have s10 : W.1 68 10 = 0 := by rw [w68, if_neg (by decide), if_neg (by decide)]; exact z10
      have s11 : W.1 68 11 = -1 := by rw [w68, if_neg (by decide), if_neg (by decide)]; exact zc1.2
      have o : ∀ j, j < 188 → j ≠ 186 → zset (zLk A C P (A 186) N N) 186 (A 186 + 1) j = A j := fun j a b => (zset_ne b).trans (zLk_lo t0 a)
      have a186 : zset (zLk A C P (A 186) N N) 186 (A 186 + 1) 186 = A 186 + 1 := zset_same
      have lk : ∀ j, 188 ≤ j → zset (zLk A C P (A 186) N N) 186 (A 186 + 1) j = zLk A C P (A 186) N N j := fun j a => zset_ne (by omega)
      have newL : zLm (zset (zLk A C P (A 186) N N) 186 (A 186 + 1)) (A 186) (zTxt K V).2.2.2 := by
        refine ⟨K, V, S, N, hT'.1, hT'.2, ⟨⟨t0, c6⟩, ?_, fun j hj => ⟨?_, fun _ hv => ?_⟩⟩, c1, rfl⟩
        · rw [lk _ (by omega)]
          unfold zLk
          rw [if_neg (by omega), if_neg (by omega), if_pos rfl]
        · rw [lk _ (by omega)]
          unfold zLk
          rw [if_pos (by omega)]
          have ej : 194 + (400 * A 186 + (j : Int)) - (194 + 400 * A 186) = (j : Int) := by omega
          rw [ej, hC']
          exact (zmt.2.2 j (by omega)).1
        · rw [lk _ (by omega)]
          unfold zLk
          rw [if_neg (by omega), if_pos (by omega)]
          have ej : 2594 + (400 * A 186 + (j : Int)) - (2594 + 400 * A 186) = (j : Int) := by omega
          rw [ej, hP']
          exact zval j hj hv
      have oldL : ∀ u, 0 ≤ u → u < A 186 → zLm (zset (zLk A C P (A 186) N N) 186 (A 186 + 1)) u (D u) := by
        intro u u0 u1
        obtain ⟨K2, V2, S2, N2, h1, h2, ⟨a1, a2, a3⟩, h4, h5⟩ := q3 u u0 u1
        have N24 := h1.1
        refine ⟨K2, V2, S2, N2, h1, h2, ⟨a1, ?_, fun j hj => ?_⟩, h4, h5⟩
        · rw [lk _ (by omega)]
          unfold zLk
          rw [if_neg (by omega), if_neg (by omega), if_neg (by omega)]; exact a2
        · have e1 : zset (zLk A C P (A 186) N N) 186 (A 186 + 1) (194 + (400 * u + (j : Int))) = A (194 + (400 * u + (j : Int))) := by
            rw [lk _ (by omega)]
            unfold zLk
            rw [if_neg (by omega), if_neg (by omega), if_neg (by omega)]
          have e2 : zset (zLk A C P (A 186) N N) 186 (A 186 + 1) (2594 + (400 * u + (j : Int))) = A (2594 + (400 * u + (j : Int))) := by
            rw [lk _ (by omega)]
            unfold zLk
            rw [if_neg (by omega), if_neg (by omega), if_neg (by omega)]
          rw [e1, e2]
          exact a3 j hj
      refine ⟨rfl, fun u => if u = A 186 then (zTxt K V).2.2.2 else D u, zset (zLk A C P (A 186) N N) 186 (A 186 + 1), ?_⟩
      generalize zset (zLk A C P (A 186) N N) 186 (A 186 + 1) = A' at *
      have f47 : ∀ r, (14 ≤ r ∧ r ≤ 36 ∨ r = 47 ∨ 54 ≤ r ∧ r ≤ 57 ∨ r = 71 ∨ r = 72 ∨ 90 < r ∧ r ≤ σ.2.2.1) → X.1 r = σ.1 r := fun r hr => gX r (by omega)
      refine zChg (D := D) (A := A) (σ := σ) (σ1 := X) hI0 hk (zWF_lk hW o a186 c6) (fun u u0 u1 => ?_) gB (by unfold zN; rw [gk, yc]; have := q1.2.1; unfold zN at this; omega) ⟨by rw [gk, yc]; omega, by rw [gk, yc]; omega⟩ (by rw [gk]; exact ys) (fun u hu => by rw [gk]; exact yk' u hu) f47 ?_ ?_ ?_ g58 ?_ wB wk (fun u hu => wX u (by omega)) w70 (by rw [w68, if_pos rfl]) (by rw [s68 25 (by decide) (by decide) (by decide)]) (by rw [wX 81 (by decide)]; exact gX 81 (by omega)) ⟨?_, ?_, ?_, ?_, ?_, ?_, ?_, ?_, ?_, ?_⟩
      · show zLm A' u (if u = A 186 then (zTxt K V).2.2.2 else D u)
        by_cases cu : u = A 186
        · rw [if_pos cu, cu]; exact newL
        · rw [if_neg cu]; exact oldL u u0 (by omega)
      · intro b hb u u0 u1 u2
        rcases hb with e | e | e <;> subst e
        · rw [g2, if_pos rfl] at u1
          show X.1 9 u = 0
          rw [g9, if_neg (by omega)]
          exact q5.1 2 (Or.inl rfl) u u0 (by omega) u2
        · rw [gX 14 (by omega)] at u1
          rw [gX (14 + 7) (by omega)]
          exact q5.1 14 (by decide) u u0 u1 u2
        · rw [gX 25 (by omega)] at u1
          rw [gX (25 + 7) (by omega)]
          exact q5.1 25 (by decide) u u0 u1 u2
      · obtain ⟨o1, o2, o3, o4, o5, o6, o7, o8⟩ := hR
        refine ⟨fun j j0 j1 => ?_, fun u u0 u1 => ?_, by rw [g2, if_neg (by decide), o 184 (by decide) (by decide)]; exact o3, fun j j0 j1 => ?_, by rw [g2, if_pos rfl, a186], by rw [g2, if_neg (by decide), o 187 (by decide) (by decide)]; exact o6, fun j j0 j1 => ?_, by rw [g2, if_neg (by decide), o 185 (by decide) (by decide)]; exact o8⟩
        · show X.1 3 j = _ ∧ X.1 4 j = _ ∧ X.1 5 j = _
          rw [gX 3 (by omega), gX 4 (by omega), gX 5 (by omega), o j (by omega) (by omega), o (64 + j) (by omega) (by omega), ztA_cg (o 184 (by decide) (by decide)) (fun u u0 u1 => o _ (by have := hW.2.1; omega) (by have := hW.2.1; omega))]
          exact o1 j j0 j1
        · show X.1 6 u = _ ∧ X.1 7 u = _
          rw [gX 6 (by omega), gX 7 (by omega), o _ (by omega) (by omega), o (136 + u) (by omega) (by omega)]; exact o2 u u0 u1
        · show X.1 8 j = _
          rw [gX 8 (by omega), o _ (by omega) (by omega)]; exact o4 j j0 j1
        · show X.1 10 j = _ ∧ X.1 11 j = _ ∧ X.1 12 j = _
          rw [gX 10 (by omega), gX 11 (by omega), gX 12 (by omega), o _ (by omega) (by omega), o (145 + 3 * j) (by omega) (by omega), o (146 + 3 * j) (by omega) (by omega)]
          exact o7 j j0 j1
      · intro u u0 u1
        rw [a186] at u1
        show zLaw X (X.1 9 u) (if u = A 186 then (zTxt K V).2.2.2 else D u)
        rw [g9]
        by_cases cu : u = A 186
        · rw [if_pos cu, if_pos cu]
          exact zLaw_frame yl (by rw [gk]; exact Int.le_refl _) (fun j a b => ⟨gY _ (by omega), by rw [gk]⟩)
        · rw [if_neg cu, if_neg cu]
          have l : zLaw σ (σ.1 9 u) (D u) := hLw u u0 (by omega)
          have lo := l.1.1
          have hi := l.1.2.2.1
          exact zLaw_frame l (by rw [gk, yc]; omega) (fun j a b => ⟨gX _ (by omega), by rw [gk]; exact yk' _ (by omega)⟩)
      · intro q q0 q1'
        rw [gX 48 (by omega)]
        have := r9 q q0 q1'
        refine ⟨Int.le_refl _, by omega, fun _ s' i => ?_⟩
        unfold zWd
        rw [o 187 (by decide) (by decide), o q (by omega) (by omega), o (64 + q) (by omega) (by omega)]
        by_cases cf : A 187 < 0
        · rw [if_pos cf, if_pos cf]
        · have h9 := hW.2.2.2.2.2.2.2.2
          rw [if_neg cf, if_neg cf]
          show (if A 187 = A 186 then (zTxt K V).2.2.2 else D (A 187)) (zws i (A q) q (A (64 + q)) s') = _
          rw [if_neg (by omega)]
      · rw [wX 1 (by decide), g1, if_pos rfl, w68, if_neg (by decide), if_pos rfl]
      · intro j j0 j1
        rw [wX 67 (by decide), wX 69 (by decide), gX 67 (by omega), gX 69 (by omega)]
        have := r2 j j0 j1
        omega
      · rw [wX 1 (by decide), g1, if_neg (by decide), if_neg (by decide), s68 6 (by decide) (by decide) (by decide)]; exact r3
      · rw [wX 1 (by decide), g1, if_neg (by decide), if_pos rfl, s11]
      · rw [wX 37 (by decide), g37, s10]; decide
      · rw [wX 74 (by decide), wX 38 (by decide), gX 74 (by omega), gX 38 (by omega)]; exact r6
      · rw [wX 1 (by decide), g1, if_neg (by decide), if_neg (by decide), s68 43 (by decide) (by decide) (by decide)]; exact r7
      · rw [s68 43 (by decide) (by decide) (by decide), wX 65 (by decide), wX 66 (by decide), wX 89 (by decide), wX 90 (by decide), gX 65 (by omega), gX 66 (by omega), gX 89 (by omega), gX 90 (by omega)]; exact r8
      · intro q q0 q1'
        rw [wX 48 (by decide), gX 48 (by omega)]
        have := r9 q q0 q1'
        omega
      · rw [w68, if_pos rfl]; omega
    · -- the text is no law
      have f0 : 0 ≤ p.1 := by rw [c2]; exact (hT'.2.1 _ (zTxt_le hT'.1 c1)).2.2
      have fne : ¬ p.1 = -1 := by omega
      have u67 : (mup p.2.1 1 13 p.1) 67 = σ.1 67 := by rw [mup_fun (by decide)]; exact pf2 67 (by decide) (by decide)
      have rj := r2 6 (by decide) (by decide)
      have rf := e_refuse (by' := -6) (m := 6) b1 (by decide) (by decide) (by show 0 ≤ (mup p.2.1 1 13 p.1) 67 6 ∧ (mup p.2.1 1 13 p.1) 67 6 ≤ 100000; rw [u67]; omega)
      have dev : wpo (M_RW_law 1 σ) (fun q => q = (-6, (mup (mup (mup p.2.1 1 13 p.1) 1 14 (-6)) 67 6 ((mup p.2.1 1 13 p.1) 67 6 + 1), p.2.2))) := by
        unfold M_RW_law
        simp (maxSteps := 5000000) (disch := first | assumption | omega) only [wpo_bind, wpo_some, wpo_gf, wpo_gk, wpo_ld, wpo_pf, wpo_pz, wpo_sd, wpo_sr, wpo_ln, wpo_idv, wpo_irm, wpo_lrm, wpo_ldv, mlet, mnar_int, mup_same, mup_cell, mup_slot, ite_true, ite_false, true_and, and_true, eq_self, or_true, true_or, and_self, Int.reduceLT, Int.reduceLE, Int.reduceEq, Int.reduceNe, Int.reduceAdd, Int.reduceSub, Int.reduceMul, Int.reduceNeg, ne_eq, not_false_eq_true, not_true_eq_false, false_or, or_false, zor_inl, zor_inr, Bool.false_eq_true, false_and, and_false, zk1, zk2, zk3, zk4, zk5, zk6, zk7, zk8, zk9, zk10, zk11, zk12, zk13, zk14, zk15, zk16, zk17, zk18, zk19, zk20, zk21, zk22, zk23, zk24, zk25, zk26, zk27, zk28, zk29, zk30, zk31, zk32, zk33, zk34, zk35, zk36, zk37, zk38, zk39, zk40, zk41, zk42, zk43, zk44, zk45, zk46, zk47, zk48, zk49, zk50, zk51, zk52, zk53, zk54, zk55, zk56, zk57, zk58, zk59, zk60, zk61, zk62, zk63, zk64, zk65, zk66, zk67, zk68, zk69, zk70, zk71, zk72, zk73, zk74, zk75, zk76, zk77, zk78, zk79, zk80, zk81, zk82, zk83, zk84, zk85, zk86, zk87, zk88, zk89, zk90, zr2_0, zr2_1, zr2_2, zr2_3, zr2_4, zr2_6, zr2_7, zr2_10, zr2_11, zr2_12, zr1_0, zr1_1, zr14_0, zr14_1, zr14_2, zr14_3, zr14_4, zr14_6, zr14_7, zr14_10, zr14_11, zr14_12, zr13_0, zr25_0, zr25_1, zr25_2, zr25_3, zr25_4, zr25_6, zr25_7, zr25_10, zr25_11, zr25_12, zr13_1, zr1_2, zr37_0, zr1_3, zr39_0, zr39_1, zr39_2, zr39_5, zr39_7, zr39_8, zr1_4, zr46_1, zr46_2, zr46_3, zr46_4, zr46_0, zr1_5, zr51_2, zr51_10, zr51_0, zr51_1, zr54_1, zr54_2, zr54_3, zr1_6, zr58_1, zr58_2, zr58_3, zr58_0, zr1_7, zr62_2, zr62_3, zr62_0, zr62_1, zr1_8, zr1_9, zr1_10, zr1_15, zr68_2, zr68_3, zr68_4, zr68_5, zr68_7, zr68_8, zr68_9, zr68_12, zr68_13, zr68_14, zr68_22, zr68_23, zr68_24, zr68_26, zr68_35, zr68_36, zr68_37, zr68_38, zr68_39, zr68_40, zr68_41, zr68_42, r51, h8, c6, ep, fne]
        exact wpo_eq rf rfl
      refine wpo_mono dev ?_
      intro q hq
      subst hq
      clear dev rf
      have c3 := zB_mup (r := 1) (i := 14) (v := -6) b1 (by decide +kernel)
      have c4 := zB_mup (r := 67) (i := 6) (v := (mup p.2.1 1 13 p.1) 67 6 + 1) c3 (zokr_arr (by decide +kernel))
      have uf : ∀ r, r ≠ 1 → r ≠ 37 → ¬ (39 ≤ r ∧ r ≤ 45) → (mup p.2.1 1 13 p.1) r = σ.1 r := fun r a b c => (mup_fun a).trans (pf2 r b c)
      have u1 : ∀ i, i ≠ 13 → (mup p.2.1 1 13 p.1) 1 i = σ.1 1 i := fun i hi => by rw [mup_slot hi, pf2 1 (by decide) (by decide)]
      have u13 : (mup p.2.1 1 13 p.1) 1 13 = p.1 := mup_same
      have u37 : (mup p.2.1 1 13 p.1) 37 1 = 0 := by rw [mup_cell (by decide)]; exact p37
      generalize (mup p.2.1 1 13 p.1) = UU at *
      have xf : ∀ r, r ≠ 1 → r ≠ 67 → mup (mup UU 1 14 (-6)) 67 6 (UU 67 6 + 1) r = UU r := fun r a b => by rw [mup_fun b, mup_fun a]
      have x70 : mup (mup UU 1 14 (-6)) 67 6 (UU 67 6 + 1) 70 = A := by rw [xf 70 (by decide) (by decide), uf 70 (by decide) (by decide) (by decide)]; exact h70
      have x68 : mup (mup UU 1 14 (-6)) 67 6 (UU 67 6 + 1) 68 = σ.1 68 := by rw [xf 68 (by decide) (by decide), uf 68 (by decide) (by decide) (by decide)]
      have x74 : mup (mup UU 1 14 (-6)) 67 6 (UU 67 6 + 1) 74 = σ.1 74 := by rw [xf 74 (by decide) (by decide), uf 74 (by decide) (by decide) (by decide)]
      have x69 : mup (mup UU 1 14 (-6)) 67 6 (UU 67 6 + 1) 69 = σ.1 69 := by rw [xf 69 (by decide) (by decide), uf 69 (by decide) (by decide) (by decide)]
      obtain ⟨z, ez, ⟨zk, zB', zf, zf68⟩, z10, zmt, zval, zc⟩ := r_reads (T := σ.1 38) (σ := (mup (mup UU 1 14 (-6)) 67 6 (UU 67 6 + 1), p.2.2)) (n := n) c4 n400 (by show mup (mup UU 1 14 (-6)) 67 6 (UU 67 6 + 1) 68 10 = _; rw [x68]; exact hn) (fun j hj => by show mup (mup UU 1 14 (-6)) 67 6 (UU 67 6 + 1) 74 j = _; rw [x74]; exact (r6 j (by omega) (by omega)).1) tb
      rw [eK, eV, eS] at zc
      have zc1 : z.1 = 0 ∧ z.2.1 68 11 = S (zTxt K V).2.1 := by
        rcases zc with x | x
        · exact absurd (c1.symm.trans x.1) (by decide)
        · exact x.2
      have z1e : z.1 = 0 := zc1.1
      have z69 : z.2.1 69 = σ.1 69 := (zf 69 (by decide) (by decide) (by decide) (by decide)).trans x69
      have rf2 := f_refuses (by' := -6) (m := 6) zB' (by decide) (by decide) (by rw [z69]; omega)
      have x186 : ¬ A 186 = 6 := by omega
      have x70k : ∀ j, mup (mup UU 1 14 (-6)) 67 6 (UU 67 6 + 1) 70 j = A j := fun j => by rw [x70]
      have fin := zRefL (by' := -6) (m := 6) (U := (UU, p.2.2)) (V := z.2) hI0 (by decide) (by decide) pk2 uf u1 u37 zB' zk zf (fun i a b c d e f => (zf68 i a b c d e f).trans (congrFun x68 i)) z10 (by show UU 1 13 = _; rw [u13, c2]; exact zc1.2.symm)
      generalize eXX : ((mup (mup UU 1 14 (-6)) 67 6 (UU 67 6 + 1), p.2.2) : mS) = X at *
      have x70k' : ∀ j, X.1 70 j = A j := fun j => by rw [← eXX]; exact x70k j
      refine wpo_mono (Q := fun q => q = (-6, (mup (mup z.2.1 68 0 (-6)) 69 6 (z.2.1 69 6 + 1), z.2.2))) ?_ (fun q hq => by subst hq; exact ⟨rfl, D, A, fin⟩)
      show wpo (M_Mo_law 68 X) _
      unfold M_Mo_law
      simp (maxSteps := 5000000) (disch := first | assumption | omega) only [wpo_bind, wpo_some, wpo_gf, wpo_gk, wpo_ld, wpo_pf, wpo_pz, wpo_sd, wpo_sr, wpo_ln, wpo_idv, wpo_irm, wpo_lrm, wpo_ldv, mlet, mnar_int, mup_same, mup_cell, mup_slot, ite_true, ite_false, true_and, and_true, eq_self, or_true, true_or, and_self, Int.reduceLT, Int.reduceLE, Int.reduceEq, Int.reduceNe, Int.reduceAdd, Int.reduceSub, Int.reduceMul, Int.reduceNeg, ne_eq, not_false_eq_true, not_true_eq_false, false_or, or_false, zor_inl, zor_inr, Bool.false_eq_true, false_and, and_false, zk1, zk2, zk3, zk4, zk5, zk6, zk7, zk8, zk9, zk10, zk11, zk12, zk13, zk14, zk15, zk16, zk17, zk18, zk19, zk20, zk21, zk22, zk23, zk24, zk25, zk26, zk27, zk28, zk29, zk30, zk31, zk32, zk33, zk34, zk35, zk36, zk37, zk38, zk39, zk40, zk41, zk42, zk43, zk44, zk45, zk46, zk47, zk48, zk49, zk50, zk51, zk52, zk53, zk54, zk55, zk56, zk57, zk58, zk59, zk60, zk61, zk62, zk63, zk64, zk65, zk66, zk67, zk68, zk69, zk70, zk71, zk72, zk73, zk74, zk75, zk76, zk77, zk78, zk79, zk80, zk81, zk82, zk83, zk84, zk85, zk86, zk87, zk88, zk89, zk90, zr2_0, zr2_1, zr2_2, zr2_3, zr2_4, zr2_6, zr2_7, zr2_10, zr2_11, zr2_12, zr1_0, zr1_1, zr14_0, zr14_1, zr14_2, zr14_3, zr14_4, zr14_6, zr14_7, zr14_10, zr14_11, zr14_12, zr13_0, zr25_0, zr25_1, zr25_2, zr25_3, zr25_4, zr25_6, zr25_7, zr25_10, zr25_11, zr25_12, zr13_1, zr1_2, zr37_0, zr1_3, zr39_0, zr39_1, zr39_2, zr39_5, zr39_7, zr39_8, zr1_4, zr46_1, zr46_2, zr46_3, zr46_4, zr46_0, zr1_5, zr51_2, zr51_10, zr51_0, zr51_1, zr54_1, zr54_2, zr54_3, zr1_6, zr58_1, zr58_2, zr58_3, zr58_0, zr1_7, zr62_2, zr62_3, zr62_0, zr62_1, zr1_8, zr1_9, zr1_10, zr1_15, zr68_2, zr68_3, zr68_4, zr68_5, zr68_7, zr68_8, zr68_9, zr68_12, zr68_13, zr68_14, zr68_22, zr68_23, zr68_24, zr68_26, zr68_35, zr68_36, zr68_37, zr68_38, zr68_39, zr68_40, zr68_41, zr68_42, x70k', x186, ez, z1e]
      exact wpo_eq rf2 rfl
  · have e6 : A 186 = 6 := by omega
    have rj := r2 5 (by decide) (by decide)
    have e67 : mup σ.1 37 1 0 67 = σ.1 67 := mup_fun (by decide)
    have rf := e_refuse (by' := -5) (m := 5) b0 (by decide) (by decide) (by show 0 ≤ mup σ.1 37 1 0 67 5 ∧ mup σ.1 37 1 0 67 5 ≤ 100000; rw [e67]; omega)
    have dev : wpo (M_RW_law 1 σ) (fun q => q = (-5, (mup (mup (mup σ.1 37 1 0) 1 14 (-5)) 67 5 (mup σ.1 37 1 0 67 5 + 1), σ.2))) := by
      unfold M_RW_law
      simp (maxSteps := 5000000) (disch := first | assumption | omega) only [wpo_bind, wpo_some, wpo_gf, wpo_gk, wpo_ld, wpo_pf, wpo_pz, wpo_sd, wpo_sr, wpo_ln, wpo_idv, wpo_irm, wpo_lrm, wpo_ldv, mlet, mnar_int, mup_same, mup_cell, mup_slot, ite_true, ite_false, true_and, and_true, eq_self, or_true, true_or, and_self, Int.reduceLT, Int.reduceLE, Int.reduceEq, Int.reduceNe, Int.reduceAdd, Int.reduceSub, Int.reduceMul, Int.reduceNeg, ne_eq, not_false_eq_true, not_true_eq_false, false_or, or_false, zor_inl, zor_inr, Bool.false_eq_true, false_and, and_false, zk1, zk2, zk3, zk4, zk5, zk6, zk7, zk8, zk9, zk10, zk11, zk12, zk13, zk14, zk15, zk16, zk17, zk18, zk19, zk20, zk21, zk22, zk23, zk24, zk25, zk26, zk27, zk28, zk29, zk30, zk31, zk32, zk33, zk34, zk35, zk36, zk37, zk38, zk39, zk40, zk41, zk42, zk43, zk44, zk45, zk46, zk47, zk48, zk49, zk50, zk51, zk52, zk53, zk54, zk55, zk56, zk57, zk58, zk59, zk60, zk61, zk62, zk63, zk64, zk65, zk66, zk67, zk68, zk69, zk70, zk71, zk72, zk73, zk74, zk75, zk76, zk77, zk78, zk79, zk80, zk81, zk82, zk83, zk84, zk85, zk86, zk87, zk88, zk89, zk90, zr2_0, zr2_1, zr2_2, zr2_3, zr2_4, zr2_6, zr2_7, zr2_10, zr2_11, zr2_12, zr1_0, zr1_1, zr14_0, zr14_1, zr14_2, zr14_3, zr14_4, zr14_6, zr14_7, zr14_10, zr14_11, zr14_12, zr13_0, zr25_0, zr25_1, zr25_2, zr25_3, zr25_4, zr25_6, zr25_7, zr25_10, zr25_11, zr25_12, zr13_1, zr1_2, zr37_0, zr1_3, zr39_0, zr39_1, zr39_2, zr39_5, zr39_7, zr39_8, zr1_4, zr46_1, zr46_2, zr46_3, zr46_4, zr46_0, zr1_5, zr51_2, zr51_10, zr51_0, zr51_1, zr54_1, zr54_2, zr54_3, zr1_6, zr58_1, zr58_2, zr58_3, zr58_0, zr1_7, zr62_2, zr62_3, zr62_0, zr62_1, zr1_8, zr1_9, zr1_10, zr1_15, zr68_2, zr68_3, zr68_4, zr68_5, zr68_7, zr68_8, zr68_9, zr68_12, zr68_13, zr68_14, zr68_22, zr68_23, zr68_24, zr68_26, zr68_35, zr68_36, zr68_37, zr68_38, zr68_39, zr68_40, zr68_41, zr68_42, r51, h8, c6]
      exact wpo_eq rf rfl
    refine wpo_mono dev ?_
    intro q hq
    subst hq
    clear dev rf
    have c3 := zB_mup (r := 1) (i := 14) (v := -5) b0 (by decide +kernel)
    have c4 := zB_mup (r := 67) (i := 5) (v := mup σ.1 37 1 0 67 5 + 1) c3 (zokr_arr (by decide +kernel))
    have uf : ∀ r, r ≠ 1 → r ≠ 37 → ¬ (39 ≤ r ∧ r ≤ 45) → mup σ.1 37 1 0 r = σ.1 r := fun r a b c => mup_fun b
    have u1 : ∀ i, i ≠ 13 → mup σ.1 37 1 0 1 i = σ.1 1 i := fun i hi => mup_cell (by decide)
    have u13 : mup σ.1 37 1 0 1 13 = σ.1 1 13 := mup_cell (by decide)
    have u37 : mup σ.1 37 1 0 37 1 = 0 := mup_same
    generalize mup σ.1 37 1 0 = UU at *
    have xf : ∀ r, r ≠ 1 → r ≠ 67 → mup (mup UU 1 14 (-5)) 67 5 (UU 67 5 + 1) r = UU r := fun r a b => by rw [mup_fun b, mup_fun a]
    have x70 : mup (mup UU 1 14 (-5)) 67 5 (UU 67 5 + 1) 70 = A := by rw [xf 70 (by decide) (by decide), uf 70 (by decide) (by decide) (by decide)]; exact h70
    have x68 : mup (mup UU 1 14 (-5)) 67 5 (UU 67 5 + 1) 68 = σ.1 68 := by rw [xf 68 (by decide) (by decide), uf 68 (by decide) (by decide) (by decide)]
    have x69 : mup (mup UU 1 14 (-5)) 67 5 (UU 67 5 + 1) 69 = σ.1 69 := by rw [xf 69 (by decide) (by decide), uf 69 (by decide) (by decide) (by decide)]
    have c5 := zB_mup (r := 68) (i := 10) (v := 0) c4 (by decide +kernel)
    have x70k : ∀ j, mup (mup UU 1 14 (-5)) 67 5 (UU 67 5 + 1) 70 j = A j := fun j => by rw [x70]
    have rf2 := f_refuses (by' := -5) (m := 5) c5 (by decide) (by decide) (by show 0 ≤ mup (mup (mup UU 1 14 (-5)) 67 5 (UU 67 5 + 1)) 68 10 0 69 5 ∧ mup (mup (mup UU 1 14 (-5)) 67 5 (UU 67 5 + 1)) 68 10 0 69 5 ≤ 100000; rw [mup_cell (by decide), x69]; omega)
    have fin := zRefL (by' := -5) (m := 5) (U := (UU, σ.2)) (V := (mup (mup (mup UU 1 14 (-5)) 67 5 (UU 67 5 + 1)) 68 10 0, σ.2)) hI0 (by decide) (by decide) rfl uf u1 u37 c5 rfl (fun r a _ _ _ => mup_fun a) (fun i a _ _ _ _ _ => by show mup (mup (mup UU 1 14 (-5)) 67 5 (UU 67 5 + 1)) 68 10 0 68 i = _; rw [mup_slot a, x68]) (by show mup (mup (mup UU 1 14 (-5)) 67 5 (UU 67 5 + 1)) 68 10 0 68 10 = 0; rw [mup_same]) (by show UU 1 13 = mup (mup (mup UU 1 14 (-5)) 67 5 (UU 67 5 + 1)) 68 10 0 68 11; rw [mup_slot (by decide), x68, u13]; exact r4)
    refine wpo_mono (Q := fun q => q = (-5, (mup (mup (mup (mup (mup UU 1 14 (-5)) 67 5 (UU 67 5 + 1)) 68 10 0) 68 0 (-5)) 69 5 (mup (mup (mup UU 1 14 (-5)) 67 5 (UU 67 5 + 1)) 68 10 0 69 5 + 1), σ.2))) ?_ (fun q hq => by subst hq; exact ⟨rfl, D, A, fin⟩)
    generalize eXX : mup (mup UU 1 14 (-5)) 67 5 (UU 67 5 + 1) = XX at x70k rf2 ⊢
    have c4' : zB (XX, σ.2) := by rw [← eXX]; exact c4
    have key : ∀ Q, wpo (M_Mo_refuses 68 (-5) (mup XX 68 10 0, σ.2)) Q → wpo (M_Mo_law 68 (XX, σ.2)) Q := by
      intro Q hQ
      have x683 : XX 68 3 = 70 := zr68_3 c4'
      unfold M_Mo_law
      simp (maxSteps := 5000000) (disch := first | assumption | omega) only [wpo_bind, wpo_some, wpo_gf, wpo_gk, wpo_ld, wpo_pf, wpo_pz, wpo_sd, wpo_sr, wpo_ln, wpo_idv, wpo_irm, wpo_lrm, wpo_ldv, mlet, mnar_int, mup_same, mup_cell, mup_slot, ite_true, ite_false, true_and, and_true, eq_self, or_true, true_or, and_self, Int.reduceLT, Int.reduceLE, Int.reduceEq, Int.reduceNe, Int.reduceAdd, Int.reduceSub, Int.reduceMul, Int.reduceNeg, ne_eq, not_false_eq_true, not_true_eq_false, false_or, or_false, zor_inl, zor_inr, Bool.false_eq_true, false_and, and_false, zk1, zk2, zk3, zk4, zk5, zk6, zk7, zk8, zk9, zk10, zk11, zk12, zk13, zk14, zk15, zk16, zk17, zk18, zk19, zk20, zk21, zk22, zk23, zk24, zk25, zk26, zk27, zk28, zk29, zk30, zk31, zk32, zk33, zk34, zk35, zk36, zk37, zk38, zk39, zk40, zk41, zk42, zk43, zk44, zk45, zk46, zk47, zk48, zk49, zk50, zk51, zk52, zk53, zk54, zk55, zk56, zk57, zk58, zk59, zk60, zk61, zk62, zk63, zk64, zk65, zk66, zk67, zk68, zk69, zk70, zk71, zk72, zk73, zk74, zk75, zk76, zk77, zk78, zk79, zk80, zk81, zk82, zk83, zk84, zk85, zk86, zk87, zk88, zk89, zk90, zr2_0, zr2_1, zr2_2, zr2_3, zr2_4, zr2_6, zr2_7, zr2_10, zr2_11, zr2_12, zr1_0, zr1_1, zr14_0, zr14_1, zr14_2, zr14_3, zr14_4, zr14_6, zr14_7, zr14_10, zr14_11, zr14_12, zr13_0, zr25_0, zr25_1, zr25_2, zr25_3, zr25_4, zr25_6, zr25_7, zr25_10, zr25_11, zr25_12, zr13_1, zr1_2, zr37_0, zr1_3, zr39_0, zr39_1, zr39_2, zr39_5, zr39_7, zr39_8, zr1_4, zr46_1, zr46_2, zr46_3, zr46_4, zr46_0, zr1_5, zr51_2, zr51_10, zr51_0, zr51_1, zr54_1, zr54_2, zr54_3, zr1_6, zr58_1, zr58_2, zr58_3, zr58_0, zr1_7, zr62_2, zr62_3, zr62_0, zr62_1, zr1_8, zr1_9, zr1_10, zr1_15, zr68_2, zr68_3, zr68_4, zr68_5, zr68_7, zr68_8, zr68_9, zr68_12, zr68_13, zr68_14, zr68_22, zr68_23, zr68_24, zr68_26, zr68_35, zr68_36, zr68_37, zr68_38, zr68_39, zr68_40, zr68_41, zr68_42, x683, x70k, e6]
      exact hQ
    exact key _ (wpo_eq rf2 rfl)
end
