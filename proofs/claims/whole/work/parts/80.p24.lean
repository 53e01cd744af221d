/-! THE SPLIT of the developers' program -/
def zKt' (T : Int → Int) (n : Nat) : Nat → Int := (zft T n).2.1
def zSt' (T : Int → Int) (n : Nat) : Nat → Int := (zft T n).2.2.1
def zVt' (T : Int → Int) (n : Nat) : Nat → Int := fun j => if j ≤ (zfo T n n).1 then (zft T n).2.2.2 j else 0
theorem zTx_of {T : Int → Int} {n : Nat} (hn : n ≤ 400) (hT : ∀ i : Nat, i < n → 0 ≤ T i ∧ T i < 256) : zTx (zKt' T n) (zVt' T n) (zfo T n n).1 ∧ zTy (zKt' T n) (zSt' T n) (zfo T n n).1 := by
  obtain ⟨h1, h2, h3, h4⟩ := zft_ok hn hT
  refine ⟨⟨h1, h2, fun j => ?_⟩, h3⟩
  unfold zVt'
  split
  · rename_i h; exact h4 j h
  · exact Int.le_refl 0
theorem zwe_bd (T : Int → Int) (n : Nat) : ∀ (f e : Nat), e ≤ n → e ≤ zwe T n f e ∧ zwe T n f e ≤ n := by
  intro f
  induction f with
  | zero => intro e h; exact ⟨Nat.le_refl _, h⟩
  | succ f ih =>
    intro e h
    unfold zwe
    by_cases c : e < n ∧ zsrt (T e) = 258
    · rw [if_pos c]
      have := ih (e + 1) (by omega)
      omega
    · rw [if_neg c]; exact ⟨Nat.le_refl _, h⟩
theorem d_wk13 {T : Int → Int} {σ : mS} {i e : Nat} (hB : zB σ) (he : e ≤ 400) (hie : i ≤ e) (hT : ∀ j : Nat, j < e → σ.1 38 j = T j) : M_Reader_wordKind_13 38 i e σ = some (zwk T i e, σ) := by
  have s := fun m hm => d_spells (m := m) hB hm he hie hT
  have s0 := s 0 (by decide)
  have s1 := s 1 (by decide)
  have s2 := s 2 (by decide)
  have s3 := s 3 (by decide)
  have s4 := s 4 (by decide)
  have s5 := s 5 (by decide)
  have s6 := s 6 (by decide)
  have s7 := s 7 (by decide)
  have s8 := s 8 (by decide)
  have s9 := s 9 (by decide)
  have s10 := s 10 (by decide)
  have hit : ∀ k : Nat, k < 11 → zspl T i e k = true → (∀ j, j < k → zspl T i e j = false) → zwk T i e = 259 + (k : Int) := by
    intro k hk h1 h2
    unfold zwk
    rw [zsr_hit h1 h2 hk]
    rfl
  have st : ∀ k : Nat, (∀ j, j < k → zspl T i e j = false) → zspl T i e k = false → ∀ j, j < k + 1 → zspl T i e j = false := by
    intro k h1 h2 j hj
    by_cases c : j = k
    · rw [c]; exact h2
    · exact h1 j (by omega)
  have z0 : ∀ j, j < 0 → zspl T i e j = false := fun j hj => absurd hj (Nat.not_lt_zero _)
  unfold M_Reader_wordKind_13
  rw [show ((-10 : Int)) = -10 - ((0 : Nat) : Int) by decide, show ((-11 : Int)) = -10 - ((1 : Nat) : Int) by decide, show ((-12 : Int)) = -10 - ((2 : Nat) : Int) by decide, show ((-13 : Int)) = -10 - ((3 : Nat) : Int) by decide, show ((-14 : Int)) = -10 - ((4 : Nat) : Int) by decide]
  rw [s0]
  simp only [Option.bind_some]
  cases c0 : zspl T i e 0 with
  | true => rw [hit 0 (by decide) c0 z0]; rfl
  | false =>
  have z1 := st 0 z0 c0
  simp only [Bool.false_eq_true, if_false, if_true, s1, Option.bind_some]
  cases c1 : zspl T i e 1 with
  | true => rw [hit 1 (by decide) c1 z1]; rfl
  | false =>
  have z2 := st 1 z1 c1
  simp only [Bool.false_eq_true, if_false, if_true, s2, Option.bind_some]
  cases c2 : zspl T i e 2 with
  | true => rw [hit 2 (by decide) c2 z2]; rfl
  | false =>
  have z3 := st 2 z2 c2
  simp only [Bool.false_eq_true, if_false, if_true, s3, Option.bind_some]
  cases c3 : zspl T i e 3 with
  | true => rw [hit 3 (by decide) c3 z3]; rfl
  | false =>
  have z4 := st 3 z3 c3
  simp only [Bool.false_eq_true, if_false, if_true, s4, Option.bind_some]
  cases c4 : zspl T i e 4 with
  | true => rw [hit 4 (by decide) c4 z4]; rfl
  | false =>
  have z5 := st 4 z4 c4
  simp only [Bool.false_eq_true, if_false, if_true]
  unfold M_Reader_askedWord
  rw [show ((-15 : Int)) = -10 - ((5 : Nat) : Int) by decide, show ((-16 : Int)) = -10 - ((6 : Nat) : Int) by decide, show ((-17 : Int)) = -10 - ((7 : Nat) : Int) by decide, show ((-18 : Int)) = -10 - ((8 : Nat) : Int) by decide, show ((-19 : Int)) = -10 - ((9 : Nat) : Int) by decide, show ((-20 : Int)) = -10 - ((10 : Nat) : Int) by decide]
  rw [s5]
  simp only [Option.bind_some]
  cases c5 : zspl T i e 5 with
  | true => rw [hit 5 (by decide) c5 z5]; rfl
  | false =>
  have z6 := st 5 z5 c5
  simp only [Bool.false_eq_true, if_false, if_true, s6, Option.bind_some]
  cases c6 : zspl T i e 6 with
  | true => rw [hit 6 (by decide) c6 z6]; rfl
  | false =>
  have z7 := st 6 z6 c6
  simp only [Bool.false_eq_true, if_false, if_true, s7, Option.bind_some]
  cases c7 : zspl T i e 7 with
  | true => rw [hit 7 (by decide) c7 z7]; rfl
  | false =>
  have z8 := st 7 z7 c7
  simp only [Bool.false_eq_true, if_false, if_true, s8, Option.bind_some]
  cases c8 : zspl T i e 8 with
  | true => rw [hit 8 (by decide) c8 z8]; rfl
  | false =>
  have z9 := st 8 z8 c8
  simp only [Bool.false_eq_true, if_false, if_true, s9, Option.bind_some]
  cases c9 : zspl T i e 9 with
  | true => rw [hit 9 (by decide) c9 z9]; rfl
  | false =>
  have z10 := st 9 z9 c9
  simp only [Bool.false_eq_true, if_false, if_true, s10, Option.bind_some]
  cases c10 : zspl T i e 10 with
  | true => rw [hit 10 (by decide) c10 z10]; rfl
  | false =>
  have z11 := st 10 z10 c10
  simp only [Bool.false_eq_true, if_false, if_true, Option.bind_some]
  have ez : zwk T i e = 258 := by unfold zwk; rw [zsr_none z11]; rfl
  rw [ez]
theorem d_wk {T : Int → Int} {σ : mS} {n : Nat} (hB : zB σ) (hn : n ≤ 400) (hT : ∀ j : Nat, j < n → σ.1 38 j = T j) {i : Nat} : ∀ (f M e : Nat), f < M → n < e + f → i ≤ e → e ≤ n → wpo (miter (fun s : Int × mS => B_Reader_wordKind_2 38 i n s.1 s.2) M ((e : Int), σ)) (fun q => q = (zwk T i (zwe T n f e), σ)) := by
  have k38 := zk38 hB
  intro f
  induction f with
  | zero => intro M e _ h1 _ h2; omega
  | succ f ih =>
    intro M e hM hn' hie he
    obtain ⟨M, rfl⟩ : ∃ K, M = K + 1 := ⟨M - 1, by omega⟩
    unfold miter zwe
    have wk := d_wk13 (i := i) (e := e) hB (by omega) hie (fun j hj => hT j (by omega))
    by_cases c : e < n
    · have l1 : ld 100 38 (e : Int) σ = some (T e) := by
        unfold ld
        rw [k38, if_pos ⟨rfl, by omega, by show (e : Int) < 400; omega⟩, hT e c]
      by_cases c2 : zsrt (T e) = 258
      · rw [if_pos ⟨c, c2⟩]
        refine wpo_call (Q := fun z => z = Sum.inl (((e + 1 : Nat) : Int), σ)) ?_ ?_
        · show wpo (B_Reader_wordKind_2 38 i n e σ) _
          unfold B_Reader_wordKind_2
          rw [if_pos (show (e : Int) < (n : Int) by omega), l1]
          refine wpo_bind.mpr (wpo_some.mpr ?_)
          rw [d_sort]
          refine wpo_bind.mpr (wpo_some.mpr ?_)
          rw [if_pos c2, w32_in (by omega) (by omega)]
          exact wpo_some.mpr rfl
        · intro z hz
          rw [hz]
          exact ih M (e + 1) (by omega) (by omega) (by omega) (by omega)
      · rw [if_neg (fun h => c2 h.2)]
        refine wpo_call (Q := fun z => z = Sum.inr (zwk T i e, σ)) ?_ (fun z hz => by rw [hz]; exact wpo_some.mpr rfl)
        show wpo (B_Reader_wordKind_2 38 i n e σ) _
        unfold B_Reader_wordKind_2
        rw [if_pos (show (e : Int) < (n : Int) by omega), l1]
        refine wpo_bind.mpr (wpo_some.mpr ?_)
        rw [d_sort]
        refine wpo_bind.mpr (wpo_some.mpr ?_)
        rw [if_neg c2, wk]
        exact wpo_bind.mpr (wpo_some.mpr (wpo_some.mpr rfl))
    · rw [if_neg (fun h => c h.1)]
      refine wpo_call (Q := fun z => z = Sum.inr (zwk T i e, σ)) ?_ (fun z hz => by rw [hz]; exact wpo_some.mpr rfl)
      show wpo (B_Reader_wordKind_2 38 i n e σ) _
      unfold B_Reader_wordKind_2
      rw [if_neg (show ¬ (e : Int) < (n : Int) by omega), wk]
      exact wpo_bind.mpr (wpo_some.mpr (wpo_some.mpr rfl))
theorem d_wordKind {T : Int → Int} {σ : mS} {n i : Nat} (hB : zB σ) (hn : n ≤ 400) (hT : ∀ j : Nat, j < n → σ.1 38 j = T j) (hi : i ≤ n) : M_Reader_wordKind 38 i n σ = some (zwk T i (zwe T n 401 i), σ) := by
  unfold M_Reader_wordKind M_Reader_wordKind_2
  obtain ⟨y, e, rfl⟩ := d_wk (i := i) hB hn hT 401 mN i (by rw [mN_eq]; decide) (by omega) (Nat.le_refl i) hi
  exact e
/-- the tokens so far -/
def zTo (x : zTs) (σ : mS) : Prop := σ.1 39 3 = (x.1 : Int) ∧ ∀ j : Nat, j < x.1 → σ.1 40 j = x.2.1 j ∧ σ.1 41 j = x.2.2.1 j ∧ σ.1 42 j = x.2.2.2 j
def zFs (σ σ' : mS) : Prop := σ'.2 = σ.2 ∧ zB σ' ∧ (∀ r, r ≠ 39 → r ≠ 40 → r ≠ 41 → r ≠ 42 → σ'.1 r = σ.1 r) ∧ ∀ i, i ≠ 3 → σ'.1 39 i = σ.1 39 i
theorem zFs.rfl' {σ : mS} (h : zB σ) : zFs σ σ := ⟨rfl, h, fun _ _ _ _ _ => rfl, fun _ _ => rfl⟩
theorem zFs.trans {σ σ' σ'' : mS} (h : zFs σ σ') (h' : zFs σ' σ'') : zFs σ σ'' := ⟨h'.1.trans h.1, h'.2.1, fun r a b c d => (h'.2.2.1 r a b c d).trans (h.2.2.1 r a b c d), fun i a => (h'.2.2.2 i a).trans (h.2.2.2 i a)⟩
set_option maxHeartbeats 4000000 in
theorem d_add {x : zTs} {σ : mS} {k s v : Int} (hB : zB σ) (h : zTo x σ) (hx : x.1 < 401) : wpo (M_Reader_addToken 39 k s v σ) (fun q => zFs σ q.2 ∧ zTo (zad x k s v) q.2) := by
  obtain ⟨h3, hj⟩ := h
  have c0 : 0 ≤ (x.1 : Int) := by omega
  have c1 : (x.1 : Int) < 401 := by omega
  have w : ∀ u : Int, u = (x.1 : Int) → w32 (u + 1) = ((x.1 + 1 : Nat) : Int) := fun u hu => by rw [w32_in (by omega) (by omega)]; omega
  generalize hQ : (fun q : Int × mS => zFs σ q.2 ∧ zTo (zad x k s v) q.2) = Q
  unfold M_Reader_addToken
  simp (maxSteps := 5000000) (disch := first | assumption | omega) only [wpo_bind, wpo_some, wpo_gf, wpo_gk, wpo_ld, wpo_pf, wpo_pz, wpo_sd, wpo_sr, wpo_ln, wpo_idv, wpo_irm, wpo_lrm, wpo_ldv, wpo_cpy, mlet, mnar_int, mup_same, mup_cell, mup_slot, ite_true, ite_false, true_and, and_true, eq_self, or_true, true_or, and_self, Int.reduceLT, Int.reduceLE, Int.reduceEq, Int.reduceNe, Int.reduceAdd, Int.reduceSub, Int.reduceMul, Int.reduceNeg, ne_eq, not_false_eq_true, not_true_eq_false, false_or, or_false, zor_inl, zor_inr, Bool.false_eq_true, false_and, and_false, zk1, zk2, zk3, zk4, zk5, zk6, zk7, zk8, zk9, zk10, zk11, zk12, zk13, zk14, zk15, zk16, zk17, zk18, zk19, zk20, zk21, zk22, zk23, zk24, zk25, zk26, zk27, zk28, zk29, zk30, zk31, zk32, zk33, zk34, zk35, zk36, zk37, zk38, zk39, zk40, zk41, zk42, zk43, zk44, zk45, zk46, zk47, zk48, zk49, zk50, zk51, zk52, zk53, zk54, zk55, zk56, zk57, zk58, zk59, zk60, zk61, zk62, zk63, zk64, zk65, zk66, zk67, zk68, zk69, zk70, zk71, zk72, zk73, zk74, zk75, zk76, zk77, zk78, zk79, zk80, zk81, zk82, zk83, zk84, zk85, zk86, zk87, zk88, zk89, zk90, zr2_0, zr2_1, zr2_2, zr2_3, zr2_4, zr2_6, zr2_7, zr2_10, zr2_11, zr2_12, zr1_0, zr1_1, zr14_0, zr14_1, zr14_2, zr14_3, zr14_4, zr14_6, zr14_7, zr14_10, zr14_11, zr14_12, zr13_0, zr25_0, zr25_1, zr25_2, zr25_3, zr25_4, zr25_6, zr25_7, zr25_10, zr25_11, zr25_12, zr13_1, zr1_2, zr37_0, zr1_3, zr39_0, zr39_1, zr39_2, zr39_5, zr39_7, zr39_8, zr1_4, zr46_1, zr46_2, zr46_3, zr46_4, zr46_0, zr1_5, zr51_2, zr51_10, zr51_0, zr51_1, zr54_1, zr54_2, zr54_3, zr1_6, zr58_1, zr58_2, zr58_3, zr58_0, zr1_7, zr62_2, zr62_3, zr62_0, zr62_1, zr1_8, zr1_9, zr1_10, zr1_15, zr68_2, zr68_3, zr68_4, zr68_5, zr68_7, zr68_8, zr68_9, zr68_12, zr68_13, zr68_14, zr68_22, zr68_23, zr68_24, zr68_26, zr68_35, zr68_36, zr68_37, zr68_38, zr68_39, zr68_40, zr68_41, zr68_42, h3, c0, c1, w]
  rw [← hQ]
  have b1 := zB_mup (r := 40) (i := (x.1 : Int)) (v := k) hB (zokr_arr (by decide +kernel))
  have b2 := zB_mup (r := 41) (i := (x.1 : Int)) (v := s) b1 (zokr_arr (by decide +kernel))
  have b3 := zB_mup (r := 42) (i := (x.1 : Int)) (v := v) b2 (zokr_arr (by decide +kernel))
  have b4 := zB_mup (r := 39) (i := 3) (v := ((x.1 + 1 : Nat) : Int)) b3 (by decide +kernel)
  refine ⟨⟨rfl, b4, fun r a b c d => ?_, fun i a => ?_⟩, ?_, fun j hj' => ?_⟩
  · show mup (mup (mup (mup σ.1 40 (x.1 : Int) k) 41 (x.1 : Int) s) 42 (x.1 : Int) v) 39 3 ((x.1 + 1 : Nat) : Int) r = σ.1 r
    rw [mup_fun a, mup_fun d, mup_fun c, mup_fun b]
  · show mup (mup (mup (mup σ.1 40 (x.1 : Int) k) 41 (x.1 : Int) s) 42 (x.1 : Int) v) 39 3 ((x.1 + 1 : Nat) : Int) 39 i = σ.1 39 i
    rw [mup_slot a, mup_cell (by decide), mup_cell (by decide), mup_cell (by decide)]
  · show mup (mup (mup (mup σ.1 40 (x.1 : Int) k) 41 (x.1 : Int) s) 42 (x.1 : Int) v) 39 3 ((x.1 + 1 : Nat) : Int) 39 3 = _
    exact mup_same
  · have hj' : j < x.1 + 1 := hj'
    show mup (mup (mup (mup σ.1 40 (x.1 : Int) k) 41 (x.1 : Int) s) 42 (x.1 : Int) v) 39 3 ((x.1 + 1 : Nat) : Int) 40 j = zud x.2.1 x.1 k j ∧ mup (mup (mup (mup σ.1 40 (x.1 : Int) k) 41 (x.1 : Int) s) 42 (x.1 : Int) v) 39 3 ((x.1 + 1 : Nat) : Int) 41 j = zud x.2.2.1 x.1 s j ∧ mup (mup (mup (mup σ.1 40 (x.1 : Int) k) 41 (x.1 : Int) s) 42 (x.1 : Int) v) 39 3 ((x.1 + 1 : Nat) : Int) 42 j = zud x.2.2.2 x.1 v j
    rw [mup_cell (by decide), mup_cell (by decide), mup_cell (by decide), mup_if, mup_cell (by decide), mup_cell (by decide), mup_if, mup_cell (by decide), mup_cell (by decide), mup_if, mup_cell (by decide), mup_cell (by decide)]
    unfold zud
    by_cases c : j = x.1
    · rw [if_pos (by omega), if_pos c, if_pos (by omega), if_pos c, if_pos (by omega), if_pos c]; exact ⟨rfl, rfl, rfl⟩
    · rw [if_neg (by omega), if_neg c, if_neg (by omega), if_neg c, if_neg (by omega), if_neg c]
      exact hj j (by omega)
set_option maxHeartbeats 4000000 in
theorem d_digit {x : zTs} {σ : mS} {b : Int} (hB : zB σ) (h : zTo x σ) (hx : x.1 < 401) (h0 : 0 < x.1) (hb : 0 ≤ b ∧ b < 256) (hv : 0 ≤ x.2.2.2 (x.1 - 1) ∧ x.2.2.2 (x.1 - 1) ≤ 20000) : wpo (M_Reader_addDigit 39 b σ) (fun q => zFs σ q.2 ∧ zTo (x.1, x.2.1, x.2.2.1, zud x.2.2.2 (x.1 - 1) (zvs (x.2.2.2 (x.1 - 1)) b)) q.2) := by
  obtain ⟨h3, hj⟩ := h
  have l1 := (hj (x.1 - 1) (by omega)).2.2
  have en : ((x.1 - 1 : Nat) : Int) = (x.1 : Int) - 1 := by omega
  rw [en] at l1
  have c0 : 0 < (x.1 : Int) := by omega
  have c1 : 0 ≤ (x.1 : Int) - 1 := by omega
  have c2 : (x.1 : Int) - 1 < 401 := by omega
  have w : ∀ u : Int, u = (x.1 : Int) → w32 (u - 1) = (x.1 : Int) - 1 := fun u hu => by rw [w32_in (by omega) (by omega)]; omega
  generalize eV : x.2.2.2 (x.1 - 1) = V at *
  generalize hQ : (fun q : Int × mS => zFs σ q.2 ∧ zTo (x.1, x.2.1, x.2.2.1, zud x.2.2.2 (x.1 - 1) (zvs V b)) q.2) = Q
  unfold M_Reader_addDigit
  by_cases c3 : 1000 < V
  · simp (maxSteps := 5000000) (disch := first | assumption | omega) only [wpo_bind, wpo_some, wpo_gf, wpo_gk, wpo_ld, wpo_pf, wpo_pz, wpo_sd, wpo_sr, wpo_ln, wpo_idv, wpo_irm, wpo_lrm, wpo_ldv, wpo_cpy, mlet, mnar_int, mup_same, mup_cell, mup_slot, ite_true, ite_false, true_and, and_true, eq_self, or_true, true_or, and_self, Int.reduceLT, Int.reduceLE, Int.reduceEq, Int.reduceNe, Int.reduceAdd, Int.reduceSub, Int.reduceMul, Int.reduceNeg, ne_eq, not_false_eq_true, not_true_eq_false, false_or, or_false, zor_inl, zor_inr, Bool.false_eq_true, false_and, and_false, zk1, zk2, zk3, zk4, zk5, zk6, zk7, zk8, zk9, zk10, zk11, zk12, zk13, zk14, zk15, zk16, zk17, zk18, zk19, zk20, zk21, zk22, zk23, zk24, zk25, zk26, zk27, zk28, zk29, zk30, zk31, zk32, zk33, zk34, zk35, zk36, zk37, zk38, zk39, zk40, zk41, zk42, zk43, zk44, zk45, zk46, zk47, zk48, zk49, zk50, zk51, zk52, zk53, zk54, zk55, zk56, zk57, zk58, zk59, zk60, zk61, zk62, zk63, zk64, zk65, zk66, zk67, zk68, zk69, zk70, zk71, zk72, zk73, zk74, zk75, zk76, zk77, zk78, zk79, zk80, zk81, zk82, zk83, zk84, zk85, zk86, zk87, zk88, zk89, zk90, zr2_0, zr2_1, zr2_2, zr2_3, zr2_4, zr2_6, zr2_7, zr2_10, zr2_11, zr2_12, zr1_0, zr1_1, zr14_0, zr14_1, zr14_2, zr14_3, zr14_4, zr14_6, zr14_7, zr14_10, zr14_11, zr14_12, zr13_0, zr25_0, zr25_1, zr25_2, zr25_3, zr25_4, zr25_6, zr25_7, zr25_10, zr25_11, zr25_12, zr13_1, zr1_2, zr37_0, zr1_3, zr39_0, zr39_1, zr39_2, zr39_5, zr39_7, zr39_8, zr1_4, zr46_1, zr46_2, zr46_3, zr46_4, zr46_0, zr1_5, zr51_2, zr51_10, zr51_0, zr51_1, zr54_1, zr54_2, zr54_3, zr1_6, zr58_1, zr58_2, zr58_3, zr58_0, zr1_7, zr62_2, zr62_3, zr62_0, zr62_1, zr1_8, zr1_9, zr1_10, zr1_15, zr68_2, zr68_3, zr68_4, zr68_5, zr68_7, zr68_8, zr68_9, zr68_12, zr68_13, zr68_14, zr68_22, zr68_23, zr68_24, zr68_26, zr68_35, zr68_36, zr68_37, zr68_38, zr68_39, zr68_40, zr68_41, zr68_42, h3, c0, w, c1, c2, l1, c3]
    rw [← hQ]
    refine ⟨zFs.rfl' hB, h3, fun j hj' => ?_⟩
    obtain ⟨q1, q2, q3⟩ := hj j hj'
    refine ⟨q1, q2, ?_⟩
    show σ.1 42 j = zud x.2.2.2 (x.1 - 1) (zvs V b) j
    unfold zud zvs
    by_cases c : j = x.1 - 1
    · rw [if_pos c, if_pos c3, q3, c, eV]
    · rw [if_neg c]; exact q3
  · have w2 : ∀ u : Int, u = V → w32 (u * 10) = V * 10 := fun u hu => by rw [w32_in (by omega) (by omega)]; omega
    have w3 : ∀ u : Int, u = V * 10 → w32 (u + b) = V * 10 + b := fun u hu => by rw [w32_in (by omega) (by omega)]; omega
    have w4 : ∀ u : Int, u = V * 10 + b → w32 (u - 48) = V * 10 + b - 48 := fun u hu => by rw [w32_in (by omega) (by omega)]; omega
    simp (maxSteps := 5000000) (disch := first | assumption | omega) only [wpo_bind, wpo_some, wpo_gf, wpo_gk, wpo_ld, wpo_pf, wpo_pz, wpo_sd, wpo_sr, wpo_ln, wpo_idv, wpo_irm, wpo_lrm, wpo_ldv, wpo_cpy, mlet, mnar_int, mup_same, mup_cell, mup_slot, ite_true, ite_false, true_and, and_true, eq_self, or_true, true_or, and_self, Int.reduceLT, Int.reduceLE, Int.reduceEq, Int.reduceNe, Int.reduceAdd, Int.reduceSub, Int.reduceMul, Int.reduceNeg, ne_eq, not_false_eq_true, not_true_eq_false, false_or, or_false, zor_inl, zor_inr, Bool.false_eq_true, false_and, and_false, zk1, zk2, zk3, zk4, zk5, zk6, zk7, zk8, zk9, zk10, zk11, zk12, zk13, zk14, zk15, zk16, zk17, zk18, zk19, zk20, zk21, zk22, zk23, zk24, zk25, zk26, zk27, zk28, zk29, zk30, zk31, zk32, zk33, zk34, zk35, zk36, zk37, zk38, zk39, zk40, zk41, zk42, zk43, zk44, zk45, zk46, zk47, zk48, zk49, zk50, zk51, zk52, zk53, zk54, zk55, zk56, zk57, zk58, zk59, zk60, zk61, zk62, zk63, zk64, zk65, zk66, zk67, zk68, zk69, zk70, zk71, zk72, zk73, zk74, zk75, zk76, zk77, zk78, zk79, zk80, zk81, zk82, zk83, zk84, zk85, zk86, zk87, zk88, zk89, zk90, zr2_0, zr2_1, zr2_2, zr2_3, zr2_4, zr2_6, zr2_7, zr2_10, zr2_11, zr2_12, zr1_0, zr1_1, zr14_0, zr14_1, zr14_2, zr14_3, zr14_4, zr14_6, zr14_7, zr14_10, zr14_11, zr14_12, zr13_0, zr25_0, zr25_1, zr25_2, zr25_3, zr25_4, zr25_6, zr25_7, zr25_10, zr25_11, zr25_12, zr13_1, zr1_2, zr37_0, zr1_3, zr39_0, zr39_1, zr39_2, zr39_5, zr39_7, zr39_8, zr1_4, zr46_1, zr46_2, zr46_3, zr46_4, zr46_0, zr1_5, zr51_2, zr51_10, zr51_0, zr51_1, zr54_1, zr54_2, zr54_3, zr1_6, zr58_1, zr58_2, zr58_3, zr58_0, zr1_7, zr62_2, zr62_3, zr62_0, zr62_1, zr1_8, zr1_9, zr1_10, zr1_15, zr68_2, zr68_3, zr68_4, zr68_5, zr68_7, zr68_8, zr68_9, zr68_12, zr68_13, zr68_14, zr68_22, zr68_23, zr68_24, zr68_26, zr68_35, zr68_36, zr68_37, zr68_38, zr68_39, zr68_40, zr68_41, zr68_42, h3, c0, w, c1, c2, l1, c3, w2, w3, w4]
    rw [← hQ]
    have b1 := zB_mup (r := 42) (i := (x.1 : Int) - 1) (v := V * 10 + b - 48) hB (zokr_arr (by decide +kernel))
    refine ⟨⟨rfl, b1, fun r _ _ _ d => mup_fun d, fun i _ => ?_⟩, ?_, fun j hj' => ?_⟩
    · show mup σ.1 42 ((x.1 : Int) - 1) (V * 10 + b - 48) 39 i = σ.1 39 i
      exact mup_cell (by decide)
    · show mup σ.1 42 ((x.1 : Int) - 1) (V * 10 + b - 48) 39 3 = _
      rw [mup_cell (by decide)]; exact h3
    · have hj' : j < x.1 := hj'
      obtain ⟨q1, q2, q3⟩ := hj j hj'
      show mup σ.1 42 ((x.1 : Int) - 1) (V * 10 + b - 48) 40 j = x.2.1 j ∧ mup σ.1 42 ((x.1 : Int) - 1) (V * 10 + b - 48) 41 j = x.2.2.1 j ∧ mup σ.1 42 ((x.1 : Int) - 1) (V * 10 + b - 48) 42 j = zud x.2.2.2 (x.1 - 1) (zvs V b) j
      rw [mup_cell (by decide), mup_cell (by decide), mup_if]
      refine ⟨q1, q2, ?_⟩
      unfold zud zvs
      by_cases c : j = x.1 - 1
      · rw [if_pos (by omega), if_pos c, if_neg c3]
      · rw [if_neg (by omega), if_neg c]; exact q3
/-- one byte of the split; R: what holds behind it -/
theorem d_split55 {T : Int → Int} {σ' : mS} {n i : Nat} {x : zTs} {R : (Int × Int × mS) ⊕ (Int × mS) → Prop} (hB' : zB σ') (hx : x.1 < 401) (y4 : zTo x σ') (fin : ∀ q : Int × mS, zFs σ' q.2 → zTo (zsp T n i x) q.2 → R (Sum.inl (zsrt (T i), w32 ((i : Int) + 1), q.2))) (c7 : zsrt (T i) ≠ 257) (c8 : zsrt (T i) = 258 → zah T i = 258) : wpo (M_Reader_split_55 39 38 n i (zsrt (T i)) σ') R := by
  unfold M_Reader_split_55
  unfold zsp at fin
  rw [if_neg c7] at fin
  by_cases c3 : zsrt (T i) = 258
  · rw [if_pos c3]
    rw [if_pos c3, if_pos (c8 c3)] at fin
    exact wpo_some.mpr (fin (0, σ') (zFs.rfl' hB') y4)
  · rw [if_neg c3]
    rw [if_neg c3] at fin
    by_cases c5 : zsrt (T i) = 32
    · rw [if_pos c5]
      rw [if_pos c5] at fin
      exact wpo_some.mpr (fin (0, σ') (zFs.rfl' hB') y4)
    · rw [if_neg c5]
      rw [if_neg c5] at fin
      refine wpo_bind.mpr (wpo_gk.mpr ⟨zk39 hB' ▸ rfl, ?_⟩)
      exact wpo_call (d_add hB' y4 hx) (fun q ⟨q1, q2⟩ => wpo_some.mpr (fin q q1 q2))
theorem d_split1 {T : Int → Int} {σ' : mS} {n i : Nat} {x : zTs} {R : (Int × Int × mS) ⊕ (Int × mS) → Prop} (hB' : zB σ') (hn : n ≤ 400) (c : i < n) (hx : x.1 < 401) (hx0 : zah T i = 257 → 0 < x.1) (hxv : ∀ j : Nat, j < x.1 → 0 ≤ x.2.2.2 j ∧ x.2.2.2 j ≤ 20000) (t38 : ∀ j : Nat, j < n → σ'.1 38 j = T j) (tb : 0 ≤ T i ∧ T i < 256) (y4 : zTo x σ') (fin : ∀ q : Int × mS, zFs σ' q.2 → zTo (zsp T n i x) q.2 → R (Sum.inl (zsrt (T i), w32 ((i : Int) + 1), q.2))) : wpo (B_Reader_split_7 39 38 n (zah T i) i σ') R := by
  have k38 := zk38 hB'
  have m55 := d_split55 (n := n) hB' hx y4 fin
  unfold B_Reader_split_7
  rw [if_pos (show (i : Int) < (n : Int) by omega)]
  have l1 : ld 100 38 (i : Int) σ' = some (T i) := by
    unfold ld
    rw [k38, if_pos ⟨rfl, by omega, by show (i : Int) < 400; omega⟩, t38 i c]
  rw [l1]
  refine wpo_bind.mpr (wpo_some.mpr ?_)
  rw [d_sort]
  refine wpo_bind.mpr (wpo_some.mpr ?_)
  unfold zsp at fin
  by_cases c1 : zsrt (T i) = 257
  · rw [if_pos c1]
    rw [if_pos c1] at fin
    by_cases c2 : zah T i = 257
    · rw [if_pos c2, l1]
      rw [if_pos c2] at fin
      refine wpo_bind.mpr (wpo_some.mpr ?_)
      refine wpo_bind.mpr (wpo_gk.mpr ⟨zk39 hB' ▸ rfl, ?_⟩)
      have p0 := hx0 c2
      have vb := hxv (x.1 - 1) (by omega)
      exact wpo_call (d_digit hB' y4 hx p0 tb vb) (fun q ⟨q1, q2⟩ => wpo_some.mpr (fin q q1 q2))
    · rw [if_neg c2]
      rw [if_neg c2] at fin
      unfold M_Reader_split_27
      rw [if_pos c1, l1]
      refine wpo_bind.mpr (wpo_some.mpr ?_)
      refine wpo_bind.mpr (wpo_gk.mpr ⟨zk39 hB' ▸ rfl, ?_⟩)
      rw [w32_in (x := T i - 48) (by omega) (by omega)]
      exact wpo_call (d_add hB' y4 hx) (fun q ⟨q1, q2⟩ => wpo_some.mpr (fin q q1 q2))
  · rw [if_neg c1]
    rw [if_neg c1] at fin
    unfold M_Reader_split_27
    rw [if_neg c1]
    by_cases c3 : zsrt (T i) = 258
    · rw [if_pos c3]
      rw [if_pos c3] at fin
      by_cases c4 : zah T i = 258
      · rw [if_pos c4]
        exact m55 c1 (fun _ => c4)
      · rw [if_neg c4]
        rw [if_neg c4] at fin
        rw [d_wordKind hB' hn t38 (by omega)]
        refine wpo_bind.mpr (wpo_some.mpr ?_)
        refine wpo_bind.mpr (wpo_gk.mpr ⟨zk39 hB' ▸ rfl, ?_⟩)
        exact wpo_call (d_add hB' y4 hx) (fun q ⟨q1, q2⟩ => wpo_some.mpr (fin q q1 q2))
    · rw [if_neg c3]
      exact m55 c1 (fun h => absurd h c3)
theorem d_splitE {σ' : mS} {n : Nat} {x : zTs} {ah : Int} {R : (Int × Int × mS) ⊕ (Int × mS) → Prop} (hB' : zB σ') (hx : x.1 < 401) (y4 : zTo x σ') (fin : ∀ q : Int × mS, zFs σ' q.2 → zTo (zad x 256 n 0) q.2 → R (Sum.inr (0, q.2))) : wpo (B_Reader_split_7 39 38 n ah n σ') R := by
  unfold B_Reader_split_7
  rw [if_neg (Int.lt_irrefl _)]
  refine wpo_bind.mpr (wpo_gk.mpr ⟨zk39 hB' ▸ rfl, ?_⟩)
  exact wpo_call (d_add hB' y4 hx) (fun q ⟨q1, q2⟩ => wpo_some.mpr (fin q q1 q2))
theorem w32_nat1 {i : Nat} (h : i ≤ 100000) : w32 ((i : Int) + 1) = ((i + 1 : Nat) : Int) := by rw [w32_in (by omega) (by omega)]; omega
def zsI (T : Int → Int) (n : Nat) (σ : mS) (m : Nat) (y : Int × Int × mS) : Prop := ∃ i : Nat, i ≤ n ∧ m = n - i ∧ y.1 = zah T i ∧ y.2.1 = (i : Int) ∧ zFs σ y.2.2 ∧ zTo (zfo T n i) y.2.2
theorem zsI_next {T : Int → Int} {n i m : Nat} {σ σ' σ2 : mS} (hi : i < n) (hm : m = n - i) (h400 : n ≤ 400) (y3 : zFs σ σ') (h1 : zFs σ' σ2) (h2 : zTo (zfo T n (i + 1)) σ2) : ∃ m', m' < m ∧ zsI T n σ m' (zsrt (T i), w32 ((i : Int) + 1), σ2) :=
  ⟨n - (i + 1), by omega, i + 1, by omega, rfl, (zah_succ T i).symm, w32_nat1 (by omega), y3.trans h1, h2⟩
theorem d_split {T : Int → Int} {σ : mS} {n : Nat} (hB : zB σ) (hn : n ≤ 400) (hT : ∀ j : Nat, j < n → σ.1 38 j = T j) (hb : ∀ i : Nat, i < n → 0 ≤ T i ∧ T i < 256) :
    wpo (M_Reader_split 39 38 n σ) (fun q => zFs σ q.2 ∧ zTo (zft T n) q.2) := by
  have f0 : zFs σ (mup σ.1 39 3 0, σ.2) := ⟨rfl, zB_mup hB (by decide +kernel), fun r a _ _ _ => mup_fun a, fun i a => by show mup σ.1 39 3 0 39 i = σ.1 39 i; exact mup_slot a⟩
  have t0 : zTo (zfo T n 0) (mup σ.1 39 3 0, σ.2) := ⟨by show mup σ.1 39 3 0 39 3 = 0; exact mup_same, fun j hj => absurd hj (Nat.not_lt_zero _)⟩
  have z0 : zah T 0 = 32 := by unfold zah; rw [if_pos rfl]
  unfold M_Reader_split
  refine wpo_bind.mpr (wpo_pf.mpr ⟨⟨zk39 hB ▸ rfl, by decide⟩, ?_⟩)
  unfold M_Reader_split_7
  refine miter_mN (zsI T n σ) ?_ n _ (by omega) ⟨0, Nat.zero_le _, (Nat.sub_zero n).symm, z0.symm, rfl, f0, t0⟩
  intro m y ⟨i, hi, hm, y1, y2, y3, y4⟩
  obtain ⟨ah, ii, σ'⟩ := y
  simp only at y1 y2 y3 y4
  subst y1; subst y2
  have hB' := y3.2.1
  have gT := zfo_g hb i hi
  have g1 := gT.1
  have hx : (zfo T n i).1 < 401 := by omega
  by_cases c : i < n
  · have t38 : ∀ j : Nat, j < n → σ'.1 38 j = T j := fun j hj => by rw [y3.2.2.1 38 (by decide) (by decide) (by decide) (by decide)]; exact hT j hj
    exact d_split1 hB' hn c hx gT.2.1 (fun j hj => (gT.2.2 j hj).2.2) t38 (hb i c) y4 (fun q h1 h2 => zsI_next c hm hn y3 h1 h2)
  · have e : i = n := by omega
    subst e
    exact d_splitE hB' hx y4 (fun q h1 h2 => ⟨y3.trans h1, h2⟩)
