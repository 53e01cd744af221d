/-! CLAUSES and texts -/
abbrev zRc : Type := Nat × Nat × Nat × ((Int → Int) → Int)
/-- one clause more, behind m of them -/
def zCla (K V : Nat → Int) (m a p : Nat) (g : (Int → Int) → Int) : zRc :=
  if m < 12 ∧ K a = 259 then
    (if (zSumF K V 8 (a + 1) p).1 = 1 then
      (if K (zSumF K V 8 (a + 1) p).2.1 = 260 then
        (if (zTestF K V 8 ((zSumF K V 8 (a + 1) p).2.1 + 1) (zSumF K V 8 (a + 1) p).2.2.1).1 = 1 then
          (1, (zTestF K V 8 ((zSumF K V 8 (a + 1) p).2.1 + 1) (zSumF K V 8 (a + 1) p).2.2.1).2.1, (zTestF K V 8 ((zSumF K V 8 (a + 1) p).2.1 + 1) (zSumF K V 8 (a + 1) p).2.2.1).2.2.1, zClD (zSumF K V 8 (a + 1) p).2.2.2 (zTestF K V 8 ((zSumF K V 8 (a + 1) p).2.1 + 1) (zSumF K V 8 (a + 1) p).2.2.1).2.2.2 g)
        else (0, (zTestF K V 8 ((zSumF K V 8 (a + 1) p).2.1 + 1) (zSumF K V 8 (a + 1) p).2.2.1).2.1, 0, g))
      else (1, (zSumF K V 8 (a + 1) p).2.1, (zSumF K V 8 (a + 1) p).2.2.1, zClD (zSumF K V 8 (a + 1) p).2.2.2 (fun _ => some 1) g))
    else (0, (zSumF K V 8 (a + 1) p).2.1, 0, g))
  else (0, a, 0, g)
def zCz (K V : Nat → Int) : Nat → Nat → Nat → Nat → ((Int → Int) → Int) → zRc
  | 0, _, a, _, g => (0, a, 0, g)
  | n + 1, m, a, p, g => if K a = 59 then (if (zCla K V m (a + 1) p g).1 = 1 then zCz K V n (m + 1) (zCla K V m (a + 1) p g).2.1 (zCla K V m (a + 1) p g).2.2.1 (zCla K V m (a + 1) p g).2.2.2 else zCla K V m (a + 1) p g) else (1, a, p, g)
/-- a whole text -/
def zTxt (K V : Nat → Int) : zRc :=
  if (zCla K V 0 0 0 (fun _ => 10)).1 = 1 then
    (if (zCz K V 401 1 (zCla K V 0 0 0 (fun _ => 10)).2.1 (zCla K V 0 0 0 (fun _ => 10)).2.2.1 (zCla K V 0 0 0 (fun _ => 10)).2.2.2).1 = 1 ∧ K (zCz K V 401 1 (zCla K V 0 0 0 (fun _ => 10)).2.1 (zCla K V 0 0 0 (fun _ => 10)).2.2.1 (zCla K V 0 0 0 (fun _ => 10)).2.2.2).2.1 ≠ 256 then
      (0, (zCz K V 401 1 (zCla K V 0 0 0 (fun _ => 10)).2.1 (zCla K V 0 0 0 (fun _ => 10)).2.2.1 (zCla K V 0 0 0 (fun _ => 10)).2.2.2).2.1, 0, fun _ => 10)
    else zCz K V 401 1 (zCla K V 0 0 0 (fun _ => 10)).2.1 (zCla K V 0 0 0 (fun _ => 10)).2.2.1 (zCla K V 0 0 0 (fun _ => 10)).2.2.2)
  else zCla K V 0 0 0 (fun _ => 10)
def zRcok (N a : Nat) (r : zRc) : Prop := (r.1 = 1 ∧ a < r.2.1 ∧ r.2.1 ≤ N ∧ r.2.2.1 ≤ 50) ∨ (r.1 = 0 ∧ a ≤ r.2.1 ∧ r.2.1 ≤ N)
theorem zCla_ok {K V : Nat → Int} {N : Nat} (hT : zTx K V N) (m a p : Nat) (g : (Int → Int) → Int) (ha : a ≤ N) (hp : p ≤ 50) : zRcok N a (zCla K V m a p g) := by
  unfold zCla
  by_cases c : m < 12 ∧ K a = 259
  · rw [if_pos c]
    have ne : a ≠ N := by intro e; rw [e, hT.2.1] at c; omega
    rcases (zPartF_ok hT 8).2.2 (a + 1) p (by omega) hp with ⟨k1, k2, k3, k4, k5, k6⟩ | ⟨k1, k2, k3⟩
    · rw [if_pos k1]
      by_cases c2 : K (zSumF K V 8 (a + 1) p).2.1 = 260
      · rw [if_pos c2]
        have ne2 : (zSumF K V 8 (a + 1) p).2.1 ≠ N := by intro e; rw [e, hT.2.1] at c2; omega
        rcases (zPlF_ok hT 8).2.2 ((zSumF K V 8 (a + 1) p).2.1 + 1) (zSumF K V 8 (a + 1) p).2.2.1 (by omega) k5 with ⟨y1, y2, y3, y4, y5, y6⟩ | ⟨y1, y2, y3⟩
        · rw [if_pos y1]
          refine Or.inl ⟨rfl, ?_, y3, y5⟩
          show a < (zTestF K V 8 ((zSumF K V 8 (a + 1) p).2.1 + 1) (zSumF K V 8 (a + 1) p).2.2.1).2.1
          omega
        · rw [if_neg (by omega)]
          refine Or.inr ⟨rfl, ?_, y3⟩
          show a ≤ (zTestF K V 8 ((zSumF K V 8 (a + 1) p).2.1 + 1) (zSumF K V 8 (a + 1) p).2.2.1).2.1
          omega
      · rw [if_neg c2]
        refine Or.inl ⟨rfl, ?_, k3, k5⟩
        show a < (zSumF K V 8 (a + 1) p).2.1
        omega
    · rw [if_neg (by omega)]
      refine Or.inr ⟨rfl, ?_, k3⟩
      show a ≤ (zSumF K V 8 (a + 1) p).2.1
      omega
  · rw [if_neg c]
    exact Or.inr ⟨rfl, Nat.le_refl a, ha⟩
theorem zCls_of {c ss cs c' ss' cs' : Int → Int} {sz sz' : Int} : ∀ (m : Nat) (g : (Int → Int) → Int), zCls c ss cs sz m g → (∀ k, 0 ≤ k → k < sz → c' k = c k) → (∀ k, k < (m : Int) → ss' k = ss k ∧ cs' k = cs k) → sz ≤ sz' → zCls c' ss' cs' sz' m g := by
  intro m
  induction m with
  | zero => intro g h _ _ _; exact h
  | succ m ih =>
    intro g ⟨g', ds, dt, p, q, h1, h2, h3, h4, h5⟩ hc hs hz
    have e1 := hs m (by omega)
    have e2 : (if m = 0 then 0 else cs' ((m : Int) - 1)) = (if m = 0 then 0 else cs ((m : Int) - 1)) := by
      by_cases c0 : m = 0
      · rw [if_pos c0, if_pos c0]
      · rw [if_neg c0, if_neg c0]; exact (hs ((m : Int) - 1) (by omega)).2
    refine ⟨g', ds, dt, p, q, ih g' h1 hc (fun k hk => hs k (by omega)) hz, h2, ?_, ?_, ?_⟩
    · rw [e1.1, e1.2, e2]; exact ⟨h3.1, h3.2.1, by omega⟩
    · rw [e1.1, e2]
      exact ⟨zF_of h4.1 (fun k x y => hc k (by omega) (by omega)), h4.2⟩
    · rw [e1.1, e1.2]
      rcases h5 with h5 | h5
      · exact Or.inl h5
      · have := h4.1.1
        exact Or.inr ⟨zF_of h5.1 (fun k x y => hc k (by omega) (by omega)), h5.2⟩
def zNG (g : (Int → Int) → Int) : Prop := ∀ w v : Int → Int, (∀ k, 0 ≤ k → k < 5 → w k = v k) → g w = g v
theorem zNG_cl {ds dt : zDn} {g : (Int → Int) → Int} (h1 : zNH ds) (h2 : zNH dt) (h3 : zNG g) : zNG (zClD ds dt g) := fun w v h => by unfold zClD; rw [h1 w v h, h2 w v h, h3 w v h]
def zFc (σ σ' : mS) : Prop := σ'.2 = σ.2 ∧ zB σ' ∧ (∀ r, r ≠ 39 → r ≠ 43 → r ≠ 44 → r ≠ 45 → σ'.1 r = σ.1 r) ∧ (∀ i, i ≠ 4 → i ≠ 6 → i ≠ 9 → i ≠ 10 → i ≠ 11 → σ'.1 39 i = σ.1 39 i)
theorem zFc.trans {σ σ' σ'' : mS} (h : zFc σ σ') (h' : zFc σ' σ'') : zFc σ σ'' :=
  ⟨h'.1.trans h.1, h'.2.1, fun r a b c d => (h'.2.2.1 r a b c d).trans (h.2.2.1 r a b c d), fun i a b c d e => (h'.2.2.2 i a b c d e).trans (h.2.2.2 i a b c d e)⟩
theorem zFr.fc {s : Int} {σ σ' : mS} (h : zFr s σ σ') : zFc σ σ' := ⟨h.1, h.2.1, fun r a b _ _ => h.2.2.1 r a b, fun i a b _ c d => h.2.2.2.1 i a b c d⟩
theorem zTk.fc {K V : Nat → Int} {N : Nat} {σ σ' : mS} (h : zTk K V N σ) (f : zFc σ σ') : zTk K V N σ' := by
  obtain ⟨h1, h2, h3⟩ := h
  refine ⟨f.2.1, by rw [f.2.2.2 3 (by decide) (by decide) (by decide) (by decide) (by decide)]; exact h2, fun j hj => ?_⟩
  rw [f.2.2.1 40 (by decide) (by decide) (by decide) (by decide), f.2.2.1 42 (by decide) (by decide) (by decide) (by decide)]
  exact h3 j hj
/-- m clauses are read -/
def zCs (K V : Nat → Int) (N m a p : Nat) (s fl : Int) (g : (Int → Int) → Int) (σ : mS) : Prop := zPre K V N a p s fl σ ∧ σ.1 39 9 = (m : Int) ∧ m ≤ 12 ∧ zCls (σ.1 43) (σ.1 44) (σ.1 45) s m g ∧ (if m = 0 then 0 else σ.1 45 ((m : Int) - 1)) = s ∧ (fl = 0 → zNG g)
def zPc (K V : Nat → Int) (N m : Nat) (r : zRc) (σ : mS) (q : Int × mS) : Prop := zFc σ q.2 ∧ ((r.1 = 1 ∧ q.1 = 1 ∧ ∃ s fl, zCs K V N (m + 1) r.2.1 r.2.2.1 s fl r.2.2.2 q.2) ∨ (r.1 = 0 ∧ q.1 = 0 ∧ q.2.1 39 4 = (r.2.1 : Int)))
theorem zFc_arr {σ : mS} {r i v : Int} (h : zB σ) (hr : r = 44 ∨ r = 45) : zFc σ (mup σ.1 r i v, σ.2) := by
  refine ⟨rfl, zB_mup h ?_, fun r' _ _ c d => mup_fun (by rcases hr with e | e <;> rw [e] <;> assumption), fun j _ _ _ _ _ => ?_⟩
  · rcases hr with e | e <;> subst e <;> exact zokr_arr (by decide +kernel)
  · show mup σ.1 r i v 39 j = σ.1 39 j
    exact mup_cell (by rcases hr with e | e <;> rw [e] <;> decide)
set_option maxHeartbeats 8000000 in
theorem d_clause {K V : Nat → Int} {N : Nat} (hT : zTx K V N) {m a p : Nat} {s fl : Int} {g : (Int → Int) → Int} {σ : mS} (hC : zCs K V N m a p s fl g σ) : wpo (M_Reader_readClause 39 σ) (zPc K V N m (zCla K V m a p g) σ) := by
  obtain ⟨⟨tk, at', aN, p50, s00, sa, flb⟩, c9, m12, hcl, hst, hng⟩ := hC
  have hB := tk.1
  have N4 := hT.1
  have n10 : ¬ (1 : Int) = 0 := by decide
  have tt := d_takes (k := 259) N4 tk at'.1 aN
  unfold zCla
  by_cases cm : m < 12
  · have cm' : (m : Int) < 12 := by omega
    by_cases c : K a = 259
    · rw [if_pos ⟨cm, c⟩]
      rw [if_pos c] at tt
      have ne : a ≠ N := by intro e; rw [e, hT.2.1] at c; omega
      obtain ⟨tf, ta, t43⟩ := zPre_tok (b := a + 1) hB at'
      have hB1 := tf.2.1
      have tk1 := tk.fr tf
      have pre1 : zPre K V N (a + 1) p s fl (mup σ.1 39 4 ((a + 1 : Nat) : Int), σ.2) := ⟨tk1, ta, by omega, p50, s00, by omega, flb⟩
      generalize eX : ((mup σ.1 39 4 ((a + 1 : Nat) : Int), σ.2) : mS) = X at *
      have x43 : X.1 43 = σ.1 43 := by rw [← eX]; exact t43
      have sum := (d_readSum hT 8 (by decide)).2.2 mD (by rw [mD_eq]; decide) (a + 1) p s fl X pre1
      have e80 : (8 : Int) - ((8 : Nat) : Int) = 0 := by decide
      rw [e80] at sum
      have ok1 := (zPartF_ok hT 8).2.2 (a + 1) p (by omega) p50
      generalize eS : zSumF K V 8 (a + 1) p = S at *
      generalize hQ : zPc K V N m (if S.1 = 1 then (if K S.2.1 = 260 then (if (zTestF K V 8 (S.2.1 + 1) S.2.2.1).1 = 1 then (1, (zTestF K V 8 (S.2.1 + 1) S.2.2.1).2.1, (zTestF K V 8 (S.2.1 + 1) S.2.2.1).2.2.1, zClD S.2.2.2 (zTestF K V 8 (S.2.1 + 1) S.2.2.1).2.2.2 g) else (0, (zTestF K V 8 (S.2.1 + 1) S.2.2.1).2.1, 0, g)) else (1, S.2.1, S.2.2.1, zClD S.2.2.2 (fun _ => some 1) g)) else (0, S.2.1, 0, g)) σ = Q
      unfold M_Reader_readClause
      simp (maxSteps := 5000000) (disch := first | assumption | omega) only [wpo_bind, wpo_some, wpo_gf, wpo_gk, wpo_ld, wpo_pf, wpo_pz, wpo_sd, wpo_sr, wpo_ln, wpo_idv, wpo_irm, wpo_lrm, wpo_ldv, wpo_cpy, mlet, mnar_int, mup_same, mup_cell, mup_slot, ite_true, ite_false, true_and, and_true, eq_self, or_true, true_or, and_self, Int.reduceLT, Int.reduceLE, Int.reduceEq, Int.reduceNe, Int.reduceAdd, Int.reduceSub, Int.reduceMul, Int.reduceNeg, ne_eq, not_false_eq_true, not_true_eq_false, false_or, or_false, zor_inl, zor_inr, Bool.false_eq_true, false_and, and_false, zk1, zk2, zk3, zk4, zk5, zk6, zk7, zk8, zk9, zk10, zk11, zk12, zk13, zk14, zk15, zk16, zk17, zk18, zk19, zk20, zk21, zk22, zk23, zk24, zk25, zk26, zk27, zk28, zk29, zk30, zk31, zk32, zk33, zk34, zk35, zk36, zk37, zk38, zk39, zk40, zk41, zk42, zk43, zk44, zk45, zk46, zk47, zk48, zk49, zk50, zk51, zk52, zk53, zk54, zk55, zk56, zk57, zk58, zk59, zk60, zk61, zk62, zk63, zk64, zk65, zk66, zk67, zk68, zk69, zk70, zk71, zk72, zk73, zk74, zk75, zk76, zk77, zk78, zk79, zk80, zk81, zk82, zk83, zk84, zk85, zk86, zk87, zk88, zk89, zk90, zr2_0, zr2_1, zr2_2, zr2_3, zr2_4, zr2_6, zr2_7, zr2_10, zr2_11, zr2_12, zr1_0, zr1_1, zr14_0, zr14_1, zr14_2, zr14_3, zr14_4, zr14_6, zr14_7, zr14_10, zr14_11, zr14_12, zr13_0, zr25_0, zr25_1, zr25_2, zr25_3, zr25_4, zr25_6, zr25_7, zr25_10, zr25_11, zr25_12, zr13_1, zr1_2, zr37_0, zr1_3, zr39_0, zr39_1, zr39_2, zr39_5, zr39_7, zr39_8, zr1_4, zr46_1, zr46_2, zr46_3, zr46_4, zr46_0, zr1_5, zr51_2, zr51_10, zr51_0, zr51_1, zr54_1, zr54_2, zr54_3, zr1_6, zr58_1, zr58_2, zr58_3, zr58_0, zr1_7, zr62_2, zr62_3, zr62_0, zr62_1, zr1_8, zr1_9, zr1_10, zr1_15, zr68_2, zr68_3, zr68_4, zr68_5, zr68_7, zr68_8, zr68_9, zr68_12, zr68_13, zr68_14, zr68_22, zr68_23, zr68_24, zr68_26, zr68_35, zr68_36, zr68_37, zr68_38, zr68_39, zr68_40, zr68_41, zr68_42, c9, cm', tt, n10]
      refine wpo_mono sum ?_
      intro q ⟨q1, q2⟩
      subst hQ
      have hBq := q1.2.1
      have tkq := tk1.fr q1
      have fq : zFc σ q.2 := tf.fc.trans q1.fc
      rcases q2 with ⟨r1, r2, s', fl', r3, r4, r5, r6, r7⟩ | ⟨r1, r2, r3⟩
      · rcases ok1 with ⟨k1, k2, k3, k4, k5, k6⟩ | ⟨k1, _⟩
        · rw [if_pos r1]
          have q9 : q.2.1 39 9 = (m : Int) := by
            rw [q1.2.2.2.1 9 (by decide) (by decide) (by decide) (by decide), tf.2.2.2.1 9 (by decide) (by decide) (by decide) (by decide)]; exact c9
          have q6 := r3.2.2.1
          have m0 : 0 ≤ (m : Int) := by omega
          -- the sum's stop is written
          have fy := zFc_arr (r := 44) (i := (m : Int)) (v := s') hBq (Or.inl rfl)
          have tky := tkq.fc fy
          have y39 : ∀ j, mup q.2.1 44 (m : Int) s' 39 j = q.2.1 39 j := fun j => mup_cell (by decide)
          have y43 : mup q.2.1 44 (m : Int) s' 43 = q.2.1 43 := mup_fun (by decide)
          have y45 : mup q.2.1 44 (m : Int) s' 45 = σ.1 45 := by
            rw [mup_fun (by decide), q1.2.2.1 45 (by decide) (by decide), tf.2.2.1 45 (by decide) (by decide)]
          have y44 : ∀ k, mup q.2.1 44 (m : Int) s' 44 k = if k = (m : Int) then s' else σ.1 44 k := by
            intro k; rw [mup_if, q1.2.2.1 44 (by decide) (by decide), tf.2.2.1 44 (by decide) (by decide)]
          have aty : zAt S.2.1 S.2.2.1 s' fl' (mup q.2.1 44 (m : Int) s', q.2.2) := ⟨(y39 4).trans r3.1, (y39 10).trans r3.2.1, (y39 6).trans r3.2.2.1, (y39 11).trans r3.2.2.2⟩
          have t2 := d_takes (k := 260) N4 tky aty.1 k3
          -- the end of a clause
          have fin : ∀ (b r : Nat) (s2 fl2 nq : Int) (dt : zDn) (Z : mS), zPre K V N b r s2 fl2 Z → zFc (mup q.2.1 44 (m : Int) s', q.2.2) Z → (∀ k, k < s' → Z.1 43 k = q.2.1 43 k) → (Z.1 44 = mup q.2.1 44 (m : Int) s' 44 ∧ Z.1 45 = mup q.2.1 44 (m : Int) s' 45 ∧ Z.1 39 9 = (m : Int)) → s' ≤ s2 → ((s2 = s' ∧ dt = fun _ => some 1) ∨ (zF (Z.1 43) s' s2 nq dt ∧ nq ≤ 50)) → (fl2 = 0 → fl' = 0 ∧ zNH dt) → b ≤ N → wpo (M_Reader_readClause_31 39 Z) (zPc K V N m (1, b, r, zClD S.2.2.2 dt g) σ) := by
            intro b r s2 fl2 nq dt Z hZ fZ z43 ⟨z44, z45, z9⟩ hs2 hdt hfl hb
            have hBz := hZ.1.1
            have z6 := hZ.2.1.2.2.1
            have wm : ∀ u : Int, u = (m : Int) → w32 (u + 1) = ((m + 1 : Nat) : Int) := fun u hu => by rw [w32_in (by omega) (by omega)]; omega
            have f1 := zFc_arr (r := 45) (i := (m : Int)) (v := s2) hBz (Or.inr rfl)
            have hB3 := f1.2.1
            have f2 : zFc (mup Z.1 45 (m : Int) s2, Z.2) (mup (mup Z.1 45 (m : Int) s2) 39 9 ((m + 1 : Nat) : Int), Z.2) := by
              refine ⟨rfl, zB_mup hB3 (by decide +kernel), fun r' a1 _ _ _ => mup_fun a1, fun i _ _ a3 _ _ => ?_⟩
              show mup (mup Z.1 45 (m : Int) s2) 39 9 ((m + 1 : Nat) : Int) 39 i = mup Z.1 45 (m : Int) s2 39 i
              exact mup_slot a3
            have po : zPc K V N m (1, b, r, zClD S.2.2.2 dt g) σ (1, (mup (mup Z.1 45 (m : Int) s2) 39 9 ((m + 1 : Nat) : Int), Z.2)) := by
              refine ⟨((fq.trans fy).trans fZ).trans (f1.trans f2), Or.inl ⟨rfl, rfl, s2, fl2, ?_, ?_, by omega, ?_, ?_, ?_⟩⟩
              · obtain ⟨p1, ⟨p2, p3, p4, p5⟩, p6⟩ := hZ
                have m39 : ∀ j, j ≠ 9 → mup (mup Z.1 45 (m : Int) s2) 39 9 ((m + 1 : Nat) : Int) 39 j = Z.1 39 j := fun j hj => by rw [mup_slot hj, mup_cell (by decide)]
                exact ⟨(p1.fc f1).fc f2, ⟨(m39 4 (by decide)).trans p2, (m39 10 (by decide)).trans p3, (m39 6 (by decide)).trans p4, (m39 11 (by decide)).trans p5⟩, p6⟩
              · show mup (mup Z.1 45 (m : Int) s2) 39 9 ((m + 1 : Nat) : Int) 39 9 = ((m + 1 : Nat) : Int); exact mup_same
              · have w43 : mup (mup Z.1 45 (m : Int) s2) 39 9 ((m + 1 : Nat) : Int) 43 = Z.1 43 := by rw [mup_fun (by decide), mup_fun (by decide)]
                have w44 : ∀ k, mup (mup Z.1 45 (m : Int) s2) 39 9 ((m + 1 : Nat) : Int) 44 k = if k = (m : Int) then s' else σ.1 44 k := by
                  intro k; rw [mup_cell (by decide), mup_cell (by decide), z44]; exact y44 k
                have w45 : ∀ k, mup (mup Z.1 45 (m : Int) s2) 39 9 ((m + 1 : Nat) : Int) 45 k = if k = (m : Int) then s2 else σ.1 45 k := by
                  intro k; rw [mup_cell (by decide), mup_if, z45, y45]
                show zCls (mup (mup Z.1 45 (m : Int) s2) 39 9 ((m + 1 : Nat) : Int) 43) (mup (mup Z.1 45 (m : Int) s2) 39 9 ((m + 1 : Nat) : Int) 44) (mup (mup Z.1 45 (m : Int) s2) 39 9 ((m + 1 : Nat) : Int) 45) s2 (m + 1) (zClD S.2.2.2 dt g)
                have wst : (if m = 0 then 0 else mup (mup Z.1 45 (m : Int) s2) 39 9 ((m + 1 : Nat) : Int) 45 ((m : Int) - 1)) = s := by
                  by_cases c0 : m = 0
                  · rw [if_pos c0] at hst ⊢; exact hst
                  · rw [if_neg c0] at hst ⊢; rw [w45, if_neg (by omega)]; exact hst
                have zq : ∀ k, k < s → Z.1 43 k = σ.1 43 k := by
                  intro k hk
                  rw [z43 k (by omega), q1.2.2.2.2 k hk, x43]
                refine ⟨g, S.2.2.2, dt, (S.2.2.1 : Int) - p, nq, ?_, rfl, ?_, ⟨?_, ?_⟩, ?_⟩
                · refine zCls_of m g hcl (fun k x y => by rw [w43]; exact zq k y) (fun k hk => ?_) (by omega)
                  rw [w44, w45, if_neg (by omega), if_neg (by omega)]
                  exact ⟨rfl, rfl⟩
                · rw [wst, w44, w45, if_pos rfl, if_pos rfl]; exact ⟨s00, hs2, Int.le_refl _⟩
                · rw [wst, w44, if_pos rfl, w43]
                  exact zF_of r5 (fun k x y => z43 k y)
                · omega
                · rw [w44, w45, if_pos rfl, if_pos rfl, w43]
                  exact hdt
              · rw [if_neg (by omega)]
                have : ((m + 1 : Nat) : Int) - 1 = (m : Int) := by omega
                rw [this]
                show mup (mup Z.1 45 (m : Int) s2) 39 9 ((m + 1 : Nat) : Int) 45 (m : Int) = s2
                rw [mup_cell (by decide), mup_same]
              · intro h0
                have h1 := hfl h0
                have h2 := r7 h1.1
                exact zNG_cl h2.2 h1.2 (hng h2.1)
            generalize zPc K V N m (1, b, r, zClD S.2.2.2 dt g) σ = Q at *
            unfold M_Reader_readClause_31
            simp (maxSteps := 5000000) (disch := first | assumption | omega) only [wpo_bind, wpo_some, wpo_gf, wpo_gk, wpo_ld, wpo_pf, wpo_pz, wpo_sd, wpo_sr, wpo_ln, wpo_idv, wpo_irm, wpo_lrm, wpo_ldv, wpo_cpy, mlet, mnar_int, mup_same, mup_cell, mup_slot, ite_true, ite_false, true_and, and_true, eq_self, or_true, true_or, and_self, Int.reduceLT, Int.reduceLE, Int.reduceEq, Int.reduceNe, Int.reduceAdd, Int.reduceSub, Int.reduceMul, Int.reduceNeg, ne_eq, not_false_eq_true, not_true_eq_false, false_or, or_false, zor_inl, zor_inr, Bool.false_eq_true, false_and, and_false, zk1, zk2, zk3, zk4, zk5, zk6, zk7, zk8, zk9, zk10, zk11, zk12, zk13, zk14, zk15, zk16, zk17, zk18, zk19, zk20, zk21, zk22, zk23, zk24, zk25, zk26, zk27, zk28, zk29, zk30, zk31, zk32, zk33, zk34, zk35, zk36, zk37, zk38, zk39, zk40, zk41, zk42, zk43, zk44, zk45, zk46, zk47, zk48, zk49, zk50, zk51, zk52, zk53, zk54, zk55, zk56, zk57, zk58, zk59, zk60, zk61, zk62, zk63, zk64, zk65, zk66, zk67, zk68, zk69, zk70, zk71, zk72, zk73, zk74, zk75, zk76, zk77, zk78, zk79, zk80, zk81, zk82, zk83, zk84, zk85, zk86, zk87, zk88, zk89, zk90, zr2_0, zr2_1, zr2_2, zr2_3, zr2_4, zr2_6, zr2_7, zr2_10, zr2_11, zr2_12, zr1_0, zr1_1, zr14_0, zr14_1, zr14_2, zr14_3, zr14_4, zr14_6, zr14_7, zr14_10, zr14_11, zr14_12, zr13_0, zr25_0, zr25_1, zr25_2, zr25_3, zr25_4, zr25_6, zr25_7, zr25_10, zr25_11, zr25_12, zr13_1, zr1_2, zr37_0, zr1_3, zr39_0, zr39_1, zr39_2, zr39_5, zr39_7, zr39_8, zr1_4, zr46_1, zr46_2, zr46_3, zr46_4, zr46_0, zr1_5, zr51_2, zr51_10, zr51_0, zr51_1, zr54_1, zr54_2, zr54_3, zr1_6, zr58_1, zr58_2, zr58_3, zr58_0, zr1_7, zr62_2, zr62_3, zr62_0, zr62_1, zr1_8, zr1_9, zr1_10, zr1_15, zr68_2, zr68_3, zr68_4, zr68_5, zr68_7, zr68_8, zr68_9, zr68_12, zr68_13, zr68_14, zr68_22, zr68_23, zr68_24, zr68_26, zr68_35, zr68_36, zr68_37, zr68_38, zr68_39, zr68_40, zr68_41, zr68_42, z9, z6, m0, cm', wm]
            exact po
          by_cases ci : K S.2.1 = 260
          · rw [if_pos ci] at t2 ⊢
            have ne2 : S.2.1 ≠ N := by intro e; rw [e, hT.2.1] at ci; omega
            have hBy := tky.1
            obtain ⟨uf, ua, u43⟩ := zPre_tok (b := S.2.1 + 1) hBy aty
            have tku := tky.fr uf
            have hBu := tku.1
            have preu : zPre K V N (S.2.1 + 1) S.2.2.1 s' fl' (mup (mup q.2.1 44 (m : Int) s') 39 4 ((S.2.1 + 1 : Nat) : Int), q.2.2) := ⟨tku, ua, by omega, k5, by omega, by omega, r6⟩
            have tst := (d_readTest hT 8 (by decide)).2 mD (by rw [mD_eq]; decide) _ _ _ _ _ preu
            rw [e80] at tst
            have ok2 := (zPlF_ok hT 8).2.2 (S.2.1 + 1) S.2.2.1 (by omega) k5
            generalize eT : zTestF K V 8 (S.2.1 + 1) S.2.2.1 = T at *
            generalize hQ : zPc K V N m (if T.1 = 1 then (1, T.2.1, T.2.2.1, zClD S.2.2.2 T.2.2.2 g) else (0, T.2.1, 0, g)) σ = Q
            simp (maxSteps := 5000000) (disch := first | assumption | omega) only [wpo_bind, wpo_some, wpo_gf, wpo_gk, wpo_ld, wpo_pf, wpo_pz, wpo_sd, wpo_sr, wpo_ln, wpo_idv, wpo_irm, wpo_lrm, wpo_ldv, wpo_cpy, mlet, mnar_int, mup_same, mup_cell, mup_slot, ite_true, ite_false, true_and, and_true, eq_self, or_true, true_or, and_self, Int.reduceLT, Int.reduceLE, Int.reduceEq, Int.reduceNe, Int.reduceAdd, Int.reduceSub, Int.reduceMul, Int.reduceNeg, ne_eq, not_false_eq_true, not_true_eq_false, false_or, or_false, zor_inl, zor_inr, Bool.false_eq_true, false_and, and_false, zk1, zk2, zk3, zk4, zk5, zk6, zk7, zk8, zk9, zk10, zk11, zk12, zk13, zk14, zk15, zk16, zk17, zk18, zk19, zk20, zk21, zk22, zk23, zk24, zk25, zk26, zk27, zk28, zk29, zk30, zk31, zk32, zk33, zk34, zk35, zk36, zk37, zk38, zk39, zk40, zk41, zk42, zk43, zk44, zk45, zk46, zk47, zk48, zk49, zk50, zk51, zk52, zk53, zk54, zk55, zk56, zk57, zk58, zk59, zk60, zk61, zk62, zk63, zk64, zk65, zk66, zk67, zk68, zk69, zk70, zk71, zk72, zk73, zk74, zk75, zk76, zk77, zk78, zk79, zk80, zk81, zk82, zk83, zk84, zk85, zk86, zk87, zk88, zk89, zk90, zr2_0, zr2_1, zr2_2, zr2_3, zr2_4, zr2_6, zr2_7, zr2_10, zr2_11, zr2_12, zr1_0, zr1_1, zr14_0, zr14_1, zr14_2, zr14_3, zr14_4, zr14_6, zr14_7, zr14_10, zr14_11, zr14_12, zr13_0, zr25_0, zr25_1, zr25_2, zr25_3, zr25_4, zr25_6, zr25_7, zr25_10, zr25_11, zr25_12, zr13_1, zr1_2, zr37_0, zr1_3, zr39_0, zr39_1, zr39_2, zr39_5, zr39_7, zr39_8, zr1_4, zr46_1, zr46_2, zr46_3, zr46_4, zr46_0, zr1_5, zr51_2, zr51_10, zr51_0, zr51_1, zr54_1, zr54_2, zr54_3, zr1_6, zr58_1, zr58_2, zr58_3, zr58_0, zr1_7, zr62_2, zr62_3, zr62_0, zr62_1, zr1_8, zr1_9, zr1_10, zr1_15, zr68_2, zr68_3, zr68_4, zr68_5, zr68_7, zr68_8, zr68_9, zr68_12, zr68_13, zr68_14, zr68_22, zr68_23, zr68_24, zr68_26, zr68_35, zr68_36, zr68_37, zr68_38, zr68_39, zr68_40, zr68_41, zr68_42, r2, n10, q9, q6, m0, cm', t2]
            refine wpo_mono tst ?_
            intro z ⟨z1, z2⟩
            subst hQ
            rcases z2 with ⟨x1, x2, s2, fl2, x3, x4, x5, x6, x7⟩ | ⟨x1, x2, x3⟩
            · rcases ok2 with ⟨y1, y2, y3, y4, y5, y6⟩ | ⟨y1, _⟩
              · rw [if_neg (show ¬ z.1 = 0 by omega), if_pos x1]
                refine fin T.2.1 T.2.2.1 s2 fl2 _ T.2.2.2 z.2 ⟨tku.fr z1, x3, y3, y5, by omega, by omega, x6⟩ (uf.fc.trans z1.fc) ?_ ⟨?_, ?_, ?_⟩ (by omega) (Or.inr ⟨x5, by omega⟩) x7 y3
                · intro k hk
                  rw [z1.2.2.2.2 k hk]
                  show mup (mup q.2.1 44 (m : Int) s') 39 4 ((S.2.1 + 1 : Nat) : Int) 43 k = _
                  rw [mup_cell (by decide), mup_cell (by decide)]
                · rw [z1.2.2.1 44 (by decide) (by decide), uf.2.2.1 44 (by decide) (by decide)]
                · rw [z1.2.2.1 45 (by decide) (by decide), uf.2.2.1 45 (by decide) (by decide)]
                · rw [z1.2.2.2.1 9 (by decide) (by decide) (by decide) (by decide), uf.2.2.2.1 9 (by decide) (by decide) (by decide) (by decide)]
                  exact (y39 9).trans q9
              · omega
            · rw [if_pos x2, if_neg (show ¬ T.1 = 1 by omega)]
              exact wpo_some.mpr ⟨(fq.trans fy).trans (uf.fc.trans z1.fc), Or.inr ⟨rfl, rfl, x3⟩⟩
          · rw [if_neg ci] at t2 ⊢
            have fin' := fin S.2.1 S.2.2.1 s' fl' 0 (fun _ => some 1) (mup q.2.1 44 (m : Int) s', q.2.2) ⟨tky, aty, k3, k5, by omega, by omega, r6⟩ ⟨rfl, tky.1, fun _ _ _ _ _ => rfl, fun _ _ _ _ _ _ => rfl⟩ (fun k _ => congrFun y43 k) ⟨rfl, rfl, (y39 9).trans q9⟩ (Int.le_refl _) (Or.inl ⟨rfl, rfl⟩) (fun h => ⟨h, fun _ _ _ => rfl⟩) k3
            generalize zPc K V N m (1, S.2.1, S.2.2.1, zClD S.2.2.2 (fun _ => some 1) g) σ = Q at *
            simp (maxSteps := 5000000) (disch := first | assumption | omega) only [wpo_bind, wpo_some, wpo_gf, wpo_gk, wpo_ld, wpo_pf, wpo_pz, wpo_sd, wpo_sr, wpo_ln, wpo_idv, wpo_irm, wpo_lrm, wpo_ldv, wpo_cpy, mlet, mnar_int, mup_same, mup_cell, mup_slot, ite_true, ite_false, true_and, and_true, eq_self, or_true, true_or, and_self, Int.reduceLT, Int.reduceLE, Int.reduceEq, Int.reduceNe, Int.reduceAdd, Int.reduceSub, Int.reduceMul, Int.reduceNeg, ne_eq, not_false_eq_true, not_true_eq_false, false_or, or_false, zor_inl, zor_inr, Bool.false_eq_true, false_and, and_false, zk1, zk2, zk3, zk4, zk5, zk6, zk7, zk8, zk9, zk10, zk11, zk12, zk13, zk14, zk15, zk16, zk17, zk18, zk19, zk20, zk21, zk22, zk23, zk24, zk25, zk26, zk27, zk28, zk29, zk30, zk31, zk32, zk33, zk34, zk35, zk36, zk37, zk38, zk39, zk40, zk41, zk42, zk43, zk44, zk45, zk46, zk47, zk48, zk49, zk50, zk51, zk52, zk53, zk54, zk55, zk56, zk57, zk58, zk59, zk60, zk61, zk62, zk63, zk64, zk65, zk66, zk67, zk68, zk69, zk70, zk71, zk72, zk73, zk74, zk75, zk76, zk77, zk78, zk79, zk80, zk81, zk82, zk83, zk84, zk85, zk86, zk87, zk88, zk89, zk90, zr2_0, zr2_1, zr2_2, zr2_3, zr2_4, zr2_6, zr2_7, zr2_10, zr2_11, zr2_12, zr1_0, zr1_1, zr14_0, zr14_1, zr14_2, zr14_3, zr14_4, zr14_6, zr14_7, zr14_10, zr14_11, zr14_12, zr13_0, zr25_0, zr25_1, zr25_2, zr25_3, zr25_4, zr25_6, zr25_7, zr25_10, zr25_11, zr25_12, zr13_1, zr1_2, zr37_0, zr1_3, zr39_0, zr39_1, zr39_2, zr39_5, zr39_7, zr39_8, zr1_4, zr46_1, zr46_2, zr46_3, zr46_4, zr46_0, zr1_5, zr51_2, zr51_10, zr51_0, zr51_1, zr54_1, zr54_2, zr54_3, zr1_6, zr58_1, zr58_2, zr58_3, zr58_0, zr1_7, zr62_2, zr62_3, zr62_0, zr62_1, zr1_8, zr1_9, zr1_10, zr1_15, zr68_2, zr68_3, zr68_4, zr68_5, zr68_7, zr68_8, zr68_9, zr68_12, zr68_13, zr68_14, zr68_22, zr68_23, zr68_24, zr68_26, zr68_35, zr68_36, zr68_37, zr68_38, zr68_39, zr68_40, zr68_41, zr68_42, r2, n10, q9, q6, m0, cm', t2]
            exact fin'
        · omega
      · rw [if_neg (show ¬ S.1 = 1 by omega)]
        have po : zPc K V N m (0, S.2.1, 0, g) σ (0, q.2) := ⟨fq, Or.inr ⟨rfl, rfl, r3⟩⟩
        generalize zPc K V N m (0, S.2.1, 0, g) σ = Q at *
        simp (maxSteps := 5000000) (disch := first | assumption | omega) only [wpo_bind, wpo_some, wpo_gf, wpo_gk, wpo_ld, wpo_pf, wpo_pz, wpo_sd, wpo_sr, wpo_ln, wpo_idv, wpo_irm, wpo_lrm, wpo_ldv, wpo_cpy, mlet, mnar_int, mup_same, mup_cell, mup_slot, ite_true, ite_false, true_and, and_true, eq_self, or_true, true_or, and_self, Int.reduceLT, Int.reduceLE, Int.reduceEq, Int.reduceNe, Int.reduceAdd, Int.reduceSub, Int.reduceMul, Int.reduceNeg, ne_eq, not_false_eq_true, not_true_eq_false, false_or, or_false, zor_inl, zor_inr, Bool.false_eq_true, false_and, and_false, zk1, zk2, zk3, zk4, zk5, zk6, zk7, zk8, zk9, zk10, zk11, zk12, zk13, zk14, zk15, zk16, zk17, zk18, zk19, zk20, zk21, zk22, zk23, zk24, zk25, zk26, zk27, zk28, zk29, zk30, zk31, zk32, zk33, zk34, zk35, zk36, zk37, zk38, zk39, zk40, zk41, zk42, zk43, zk44, zk45, zk46, zk47, zk48, zk49, zk50, zk51, zk52, zk53, zk54, zk55, zk56, zk57, zk58, zk59, zk60, zk61, zk62, zk63, zk64, zk65, zk66, zk67, zk68, zk69, zk70, zk71, zk72, zk73, zk74, zk75, zk76, zk77, zk78, zk79, zk80, zk81, zk82, zk83, zk84, zk85, zk86, zk87, zk88, zk89, zk90, zr2_0, zr2_1, zr2_2, zr2_3, zr2_4, zr2_6, zr2_7, zr2_10, zr2_11, zr2_12, zr1_0, zr1_1, zr14_0, zr14_1, zr14_2, zr14_3, zr14_4, zr14_6, zr14_7, zr14_10, zr14_11, zr14_12, zr13_0, zr25_0, zr25_1, zr25_2, zr25_3, zr25_4, zr25_6, zr25_7, zr25_10, zr25_11, zr25_12, zr13_1, zr1_2, zr37_0, zr1_3, zr39_0, zr39_1, zr39_2, zr39_5, zr39_7, zr39_8, zr1_4, zr46_1, zr46_2, zr46_3, zr46_4, zr46_0, zr1_5, zr51_2, zr51_10, zr51_0, zr51_1, zr54_1, zr54_2, zr54_3, zr1_6, zr58_1, zr58_2, zr58_3, zr58_0, zr1_7, zr62_2, zr62_3, zr62_0, zr62_1, zr1_8, zr1_9, zr1_10, zr1_15, zr68_2, zr68_3, zr68_4, zr68_5, zr68_7, zr68_8, zr68_9, zr68_12, zr68_13, zr68_14, zr68_22, zr68_23, zr68_24, zr68_26, zr68_35, zr68_36, zr68_37, zr68_38, zr68_39, zr68_40, zr68_41, zr68_42, r2]
        exact po
    · rw [if_neg (fun h => c h.2)]
      rw [if_neg c] at tt
      have po : zPc K V N m (0, a, 0, g) σ (0, σ) := ⟨(zFr.rfl' (s := 0) hB).fc, Or.inr ⟨rfl, rfl, at'.1⟩⟩
      generalize zPc K V N m (0, a, 0, g) σ = Q at *
      unfold M_Reader_readClause
      simp (maxSteps := 5000000) (disch := first | assumption | omega) only [wpo_bind, wpo_some, wpo_gf, wpo_gk, wpo_ld, wpo_pf, wpo_pz, wpo_sd, wpo_sr, wpo_ln, wpo_idv, wpo_irm, wpo_lrm, wpo_ldv, wpo_cpy, mlet, mnar_int, mup_same, mup_cell, mup_slot, ite_true, ite_false, true_and, and_true, eq_self, or_true, true_or, and_self, Int.reduceLT, Int.reduceLE, Int.reduceEq, Int.reduceNe, Int.reduceAdd, Int.reduceSub, Int.reduceMul, Int.reduceNeg, ne_eq, not_false_eq_true, not_true_eq_false, false_or, or_false, zor_inl, zor_inr, Bool.false_eq_true, false_and, and_false, zk1, zk2, zk3, zk4, zk5, zk6, zk7, zk8, zk9, zk10, zk11, zk12, zk13, zk14, zk15, zk16, zk17, zk18, zk19, zk20, zk21, zk22, zk23, zk24, zk25, zk26, zk27, zk28, zk29, zk30, zk31, zk32, zk33, zk34, zk35, zk36, zk37, zk38, zk39, zk40, zk41, zk42, zk43, zk44, zk45, zk46, zk47, zk48, zk49, zk50, zk51, zk52, zk53, zk54, zk55, zk56, zk57, zk58, zk59, zk60, zk61, zk62, zk63, zk64, zk65, zk66, zk67, zk68, zk69, zk70, zk71, zk72, zk73, zk74, zk75, zk76, zk77, zk78, zk79, zk80, zk81, zk82, zk83, zk84, zk85, zk86, zk87, zk88, zk89, zk90, zr2_0, zr2_1, zr2_2, zr2_3, zr2_4, zr2_6, zr2_7, zr2_10, zr2_11, zr2_12, zr1_0, zr1_1, zr14_0, zr14_1, zr14_2, zr14_3, zr14_4, zr14_6, zr14_7, zr14_10, zr14_11, zr14_12, zr13_0, zr25_0, zr25_1, zr25_2, zr25_3, zr25_4, zr25_6, zr25_7, zr25_10, zr25_11, zr25_12, zr13_1, zr1_2, zr37_0, zr1_3, zr39_0, zr39_1, zr39_2, zr39_5, zr39_7, zr39_8, zr1_4, zr46_1, zr46_2, zr46_3, zr46_4, zr46_0, zr1_5, zr51_2, zr51_10, zr51_0, zr51_1, zr54_1, zr54_2, zr54_3, zr1_6, zr58_1, zr58_2, zr58_3, zr58_0, zr1_7, zr62_2, zr62_3, zr62_0, zr62_1, zr1_8, zr1_9, zr1_10, zr1_15, zr68_2, zr68_3, zr68_4, zr68_5, zr68_7, zr68_8, zr68_9, zr68_12, zr68_13, zr68_14, zr68_22, zr68_23, zr68_24, zr68_26, zr68_35, zr68_36, zr68_37, zr68_38, zr68_39, zr68_40, zr68_41, zr68_42, c9, cm', tt]
      exact po
  · rw [if_neg (fun h => cm h.1)]
    have cm' : ¬ (m : Int) < 12 := by omega
    have po : zPc K V N m (0, a, 0, g) σ (0, σ) := ⟨(zFr.rfl' (s := 0) hB).fc, Or.inr ⟨rfl, rfl, at'.1⟩⟩
    generalize zPc K V N m (0, a, 0, g) σ = Q at *
    unfold M_Reader_readClause
    simp (maxSteps := 5000000) (disch := first | assumption | omega) only [wpo_bind, wpo_some, wpo_gf, wpo_gk, wpo_ld, wpo_pf, wpo_pz, wpo_sd, wpo_sr, wpo_ln, wpo_idv, wpo_irm, wpo_lrm, wpo_ldv, wpo_cpy, mlet, mnar_int, mup_same, mup_cell, mup_slot, ite_true, ite_false, true_and, and_true, eq_self, or_true, true_or, and_self, Int.reduceLT, Int.reduceLE, Int.reduceEq, Int.reduceNe, Int.reduceAdd, Int.reduceSub, Int.reduceMul, Int.reduceNeg, ne_eq, not_false_eq_true, not_true_eq_false, false_or, or_false, zor_inl, zor_inr, Bool.false_eq_true, false_and, and_false, zk1, zk2, zk3, zk4, zk5, zk6, zk7, zk8, zk9, zk10, zk11, zk12, zk13, zk14, zk15, zk16, zk17, zk18, zk19, zk20, zk21, zk22, zk23, zk24, zk25, zk26, zk27, zk28, zk29, zk30, zk31, zk32, zk33, zk34, zk35, zk36, zk37, zk38, zk39, zk40, zk41, zk42, zk43, zk44, zk45, zk46, zk47, zk48, zk49, zk50, zk51, zk52, zk53, zk54, zk55, zk56, zk57, zk58, zk59, zk60, zk61, zk62, zk63, zk64, zk65, zk66, zk67, zk68, zk69, zk70, zk71, zk72, zk73, zk74, zk75, zk76, zk77, zk78, zk79, zk80, zk81, zk82, zk83, zk84, zk85, zk86, zk87, zk88, zk89, zk90, zr2_0, zr2_1, zr2_2, zr2_3, zr2_4, zr2_6, zr2_7, zr2_10, zr2_11, zr2_12, zr1_0, zr1_1, zr14_0, zr14_1, zr14_2, zr14_3, zr14_4, zr14_6, zr14_7, zr14_10, zr14_11, zr14_12, zr13_0, zr25_0, zr25_1, zr25_2, zr25_3, zr25_4, zr25_6, zr25_7, zr25_10, zr25_11, zr25_12, zr13_1, zr1_2, zr37_0, zr1_3, zr39_0, zr39_1, zr39_2, zr39_5, zr39_7, zr39_8, zr1_4, zr46_1, zr46_2, zr46_3, zr46_4, zr46_0, zr1_5, zr51_2, zr51_10, zr51_0, zr51_1, zr54_1, zr54_2, zr54_3, zr1_6, zr58_1, zr58_2, zr58_3, zr58_0, zr1_7, zr62_2, zr62_3, zr62_0, zr62_1, zr1_8, zr1_9, zr1_10, zr1_15, zr68_2, zr68_3, zr68_4, zr68_5, zr68_7, zr68_8, zr68_9, zr68_12, zr68_13, zr68_14, zr68_22, zr68_23, zr68_24, zr68_26, zr68_35, zr68_36, zr68_37, zr68_38, zr68_39, zr68_40, zr68_41, zr68_42, c9, cm']
    exact po
