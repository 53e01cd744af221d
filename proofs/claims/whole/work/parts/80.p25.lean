/-! THE REFERENCE's words -/
theorem r_small (b : Int) (σ : mS) : M_Mo_isSmall b σ = some (if 97 ≤ b ∧ b ≤ 122 then 1 else 0, σ) := by
  unfold M_Mo_isSmall
  by_cases c1 : b < 97
  · rw [if_pos c1, if_neg (show ¬ (97 ≤ b ∧ b ≤ 122) by omega), if_pos (Or.inl rfl)]
  · rw [if_neg c1]
    by_cases c2 : 122 < b
    · rw [if_pos c2, if_neg (show ¬ (97 ≤ b ∧ b ≤ 122) by omega), if_pos (Or.inl rfl)]
    · rw [if_neg c2, if_pos (show (97 ≤ b ∧ b ≤ 122) by omega), if_pos (Or.inr rfl)]
theorem r_digit (b : Int) (σ : mS) : M_Mo_isDigit b σ = some (if 48 ≤ b ∧ b ≤ 57 then 1 else 0, σ) := by
  unfold M_Mo_isDigit
  by_cases c1 : b < 48
  · rw [if_pos c1, if_neg (show ¬ (48 ≤ b ∧ b ≤ 57) by omega), if_pos (Or.inl rfl)]
  · rw [if_neg c1]
    by_cases c2 : 57 < b
    · rw [if_pos c2, if_neg (show ¬ (48 ≤ b ∧ b ≤ 57) by omega), if_pos (Or.inl rfl)]
    · rw [if_neg c2, if_pos (show (48 ≤ b ∧ b ≤ 57) by omega), if_pos (Or.inr rfl)]
theorem w8_b {x : Int} (h : 0 ≤ x ∧ x < 256) : w8 x = if x < 128 then x else x - 256 := by unfold w8; split <;> omega
def zof (m : Nat) : Nat := [0, 5, 8, 11, 15, 19, 24, 30, 36, 43, 48, 53].getD m 0
theorem zof_f : ∀ m : Nat, m < 11 → zof (m + 1) = zof m + (zstr.getD m []).length + 1 ∧ zof m + (zstr.getD m []).length < 53 ∧ zwl.getD (zof m + (zstr.getD m []).length) 0 = 32 ∧ (∀ j : Nat, j < (zstr.getD m []).length → zwl.getD (zof m + j) 0 = (zstr.getD m []).getD j 0 ∧ (zstr.getD m []).getD j 0 ≠ 32) := by decide
/-- letters compared -/
theorem r_cmpw {T : Int → Int} {σ : mS} {i e m : Nat} (hB : zB σ) (hm : m < 11) (he : e ≤ 400) (hie : i ≤ e) (hT : ∀ j : Nat, i ≤ j → j < e → σ.1 74 j = T j) (same : Int) (hs : same = if (zstr.getD m []).length + i = e then 1 else 0) :
    wpo (M_Mo_wordOf_32 68 i e ((m : Int) + 1) (zof m : Int) ((zstr.getD m []).length : Int) same 0 σ) (fun z => z = if zspl T i e m = true then Sum.inr ((m : Int) + 1, σ) else Sum.inl ((m : Int) + 2, (zof (m + 1) : Int), σ)) := by
  obtain ⟨o1, o2, o3, o4⟩ := zof_f m hm
  have k73 := zk73 hB
  have k74 := zk74 hB
  have w73 := hB.2.2.2.1
  have k68 := zk68 hB
  have e7 : gf 11 7 68 σ = some 73 := by unfold gf; rw [k68, if_pos rfl, zr68_7 hB]
  have e8 : gf 11 8 68 σ = some 74 := by unfold gf; rw [k68, if_pos rfl, zr68_8 hB]
  unfold zspl
  generalize eL : zstr.getD m [] = L at *
  generalize eo : zof m = o at *
  have fin : ∀ s : Int, s = 0 ∨ s = 1 → M_Mo_wordOf_56 68 i e ((m : Int) + 1) (o : Int) (L.length : Int) s σ = some (if s = 1 then Sum.inr ((m : Int) + 1, σ) else Sum.inl ((m : Int) + 2, (zof (m + 1) : Int), σ)) := by
    intro s hs
    unfold M_Mo_wordOf_56
    rcases hs with e0 | e1
    · rw [if_pos e0, if_neg (by omega), w32_in (x := (m : Int) + 1 + 1) (by omega) (by omega), w32_in (x := (L.length : Int) + 1) (by omega) (by omega), w32_in (by omega) (by omega), o1]
      have a1 : (m : Int) + 1 + 1 = (m : Int) + 2 := by omega
      have a2 : (o : Int) + ((L.length : Int) + 1) = ((o + L.length + 1 : Nat) : Int) := by omega
      rw [a1, a2]
    · rw [if_neg (by omega), if_pos e1]
  unfold M_Mo_wordOf_32
  by_cases c : L.length + i = e
  · rw [if_pos c] at hs
    subst hs
    rw [decide_eq_true c, Bool.true_and]
    -- same is 1 as long as no letter differs
    refine miter_mN (fun n y => ∃ k : Nat, k ≤ L.length ∧ n = L.length - k ∧ y.2.1 = (k : Int) ∧ y.2.2 = σ ∧ ((y.1 = 1 ∧ ∀ j, j < k → T ((i : Int) + j) = L.getD j 0) ∨ (y.1 = 0 ∧ ∃ j, j < k ∧ T ((i : Int) + j) ≠ L.getD j 0))) ?_ L.length _ (by omega) ⟨0, Nat.zero_le _, rfl, rfl, rfl, Or.inl ⟨rfl, fun j hj => absurd hj (Nat.not_lt_zero _)⟩⟩
    intro n y ⟨k, hk, hn, y2, y3, y4⟩
    obtain ⟨s, kk, σ'⟩ := y
    simp only at y2 y3 y4
    subst y2; subst y3
    show wpo (B_Mo_wordOf_32 68 i e ((m : Int) + 1) (o : Int) (L.length : Int) s k σ') _
    unfold B_Mo_wordOf_32
    have s01 : s = 0 ∨ s = 1 := y4.elim (fun h => Or.inr h.1) (fun h => Or.inl h.1)
    have no : s = 0 → (∃ j, j < k ∧ T ((i : Int) + j) ≠ L.getD j 0) → zor (fun y' : Int × Int × mS => ∃ m', m' < n ∧ ∃ k : Nat, k ≤ L.length ∧ m' = L.length - k ∧ y'.2.1 = (k : Int) ∧ y'.2.2 = σ' ∧ ((y'.1 = 1 ∧ ∀ j, j < k → T ((i : Int) + j) = L.getD j 0) ∨ (y'.1 = 0 ∧ ∃ j, j < k ∧ T ((i : Int) + j) ≠ L.getD j 0))) (fun z : (Int × Int × mS) ⊕ (Int × mS) => z = if (List.range L.length).all (fun j => decide (T ((i : Int) + j) = L.getD j 0)) = true then Sum.inr ((m : Int) + 1, σ') else Sum.inl ((m : Int) + 2, (zof (m + 1) : Int), σ')) (Sum.inr (Sum.inl ((m : Int) + 2, (zof (m + 1) : Int), σ'))) := by
      intro _ ⟨j, hj, hne⟩
      show Sum.inl _ = _
      have : ¬ (List.range L.length).all (fun j => decide (T ((i : Int) + j) = L.getD j 0)) = true := by
        rw [List.all_eq_true]
        intro ha
        exact hne (of_decide_eq_true (ha j (List.mem_range.mpr (by omega))))
      rw [if_neg this]
    by_cases ck : k < L.length
    · rw [if_pos (show (k : Int) < (L.length : Int) by omega)]
      rcases y4 with ⟨y5, y6⟩ | ⟨y5, y6⟩
      · subst y5
        rw [if_neg (by decide)]
        have t1 := hT (i + k) (by omega) (by omega)
        rw [Int.natCast_add] at t1
        have l1 : ld 101 73 ((o : Int) + k) σ' = some (L.getD k 0) := by
          unfold ld
          rw [k73, if_pos ⟨rfl, by omega, by show (o : Int) + k < 53; omega⟩]
          have := w73 (o + k) (by omega)
          rw [(o4 k ck).1, Int.natCast_add] at this
          rw [this]
        have l2 : ld 101 74 ((i : Int) + k) σ' = some (T ((i : Int) + k)) := by
          unfold ld
          rw [k74, if_pos ⟨rfl, by omega, by show (i : Int) + k < 400; omega⟩, t1]
        rw [e7]
        refine wpo_bind.mpr (wpo_some.mpr ?_)
        rw [w32_in (x := (o : Int) + k) (by omega) (by omega), l1]
        refine wpo_bind.mpr (wpo_some.mpr ?_)
        rw [e8]
        refine wpo_bind.mpr (wpo_some.mpr ?_)
        rw [w32_in (x := (i : Int) + k) (by omega) (by omega), l2]
        refine wpo_bind.mpr (wpo_some.mpr ?_)
        rw [w32_nat1 (i := k) (by omega)]
        by_cases d : L.getD k 0 = T ((i : Int) + k)
        · rw [if_pos d]
          refine wpo_some.mpr ⟨L.length - (k + 1), by omega, k + 1, by omega, rfl, rfl, rfl, Or.inl ⟨rfl, fun j hj => ?_⟩⟩
          by_cases cj : j = k
          · rw [cj]; exact d.symm
          · exact y6 j (by omega)
        · rw [if_neg d]
          exact wpo_some.mpr ⟨L.length - (k + 1), by omega, k + 1, by omega, rfl, rfl, rfl, Or.inr ⟨rfl, k, by omega, fun h => d h.symm⟩⟩
      · rw [if_pos y5, fin s s01, if_neg (by omega)]
        exact wpo_bind.mpr (wpo_some.mpr (wpo_some.mpr (no y5 y6)))
    · rw [if_neg (show ¬ (k : Int) < (L.length : Int) by omega), fin s s01]
      refine wpo_bind.mpr (wpo_some.mpr (wpo_some.mpr ?_))
      rcases y4 with ⟨y5, y6⟩ | ⟨y5, y6⟩
      · rw [if_pos y5]
        show Sum.inr _ = _
        have : (List.range L.length).all (fun j => decide (T ((i : Int) + j) = L.getD j 0)) = true := by
          rw [List.all_eq_true]
          intro j hj
          exact decide_eq_true (y6 j (by have := List.mem_range.mp hj; omega))
        rw [if_pos this]
      · rw [if_neg (show ¬ s = 1 by omega)]
        exact no y5 y6
  · rw [if_neg c] at hs
    subst hs
    rw [decide_eq_false c, Bool.false_and]
    refine miter_mN (fun _ y => y = (0, 0, σ)) ?_ 0 _ (by decide) rfl
    intro n y hy
    subst hy
    show wpo (B_Mo_wordOf_32 68 i e ((m : Int) + 1) (o : Int) (L.length : Int) 0 0 σ) _
    unfold B_Mo_wordOf_32
    have f0 := fin 0 (Or.inl rfl)
    rw [if_neg (by decide)] at f0
    by_cases ck : (0 : Int) < (L.length : Int)
    · rw [if_pos ck, if_pos rfl, f0]
      exact wpo_bind.mpr (wpo_some.mpr (wpo_some.mpr rfl))
    · rw [if_neg ck, f0]
      exact wpo_bind.mpr (wpo_some.mpr (wpo_some.mpr rfl))
/-- a word's length is found, and it is compared -/
theorem r_lenw {T : Int → Int} {σ : mS} {i e m : Nat} (hB : zB σ) (hm : m < 11) (he : e ≤ 400) (hie : i ≤ e) (hT : ∀ j : Nat, i ≤ j → j < e → σ.1 74 j = T j) :
    wpo (M_Mo_wordOf_11 68 i e ((m : Int) + 1) (zof m : Int) 0 σ) (fun z => z = if zspl T i e m = true then Sum.inr ((m : Int) + 1, σ) else Sum.inl ((m : Int) + 2, (zof (m + 1) : Int), σ)) := by
  have cw := r_cmpw hB hm he hie hT
  obtain ⟨o1, o2, o3, o4⟩ := zof_f m hm
  have k73 := zk73 hB
  have w73 := hB.2.2.2.1
  have k68 := zk68 hB
  have e7 : gf 11 7 68 σ = some 73 := by unfold gf; rw [k68, if_pos rfl, zr68_7 hB]
  generalize (fun z : (Int × Int × mS) ⊕ (Int × mS) => z = if zspl T i e m = true then Sum.inr ((m : Int) + 1, σ) else Sum.inl ((m : Int) + 2, (zof (m + 1) : Int), σ)) = Q at *
  generalize eL : zstr.getD m [] = L at *
  unfold M_Mo_wordOf_11
  refine miter_mN (fun n y => ∃ k : Nat, k ≤ L.length ∧ n = L.length - k ∧ y = ((k : Int), σ)) ?_ L.length _ (by omega) ⟨0, Nat.zero_le _, rfl, rfl⟩
  intro n y ⟨k, hk, hn, hy⟩
  subst hy
  show wpo (B_Mo_wordOf_11 68 i e ((m : Int) + 1) (zof m : Int) k σ) _
  unfold B_Mo_wordOf_11
  have l1 : ld 101 73 ((zof m : Int) + k) σ = some (zwl.getD (zof m + k) 0) := by
    unfold ld
    rw [k73, if_pos ⟨rfl, by omega, by show (zof m : Int) + k < 53; omega⟩]
    have := w73 (zof m + k) (by omega)
    rw [Int.natCast_add] at this
    rw [this]
  rw [e7]
  refine wpo_bind.mpr (wpo_some.mpr ?_)
  rw [w32_in (x := (zof m : Int) + k) (by omega) (by omega), l1]
  refine wpo_bind.mpr (wpo_some.mpr ?_)
  by_cases ck : k < L.length
  · rw [(o4 k ck).1, if_neg (o4 k ck).2, w32_nat1 (i := k) (by omega)]
    exact wpo_some.mpr ⟨L.length - (k + 1), by omega, k + 1, by omega, rfl, rfl⟩
  · have ek : k = L.length := by omega
    rw [ek, o3, if_pos rfl, w32_in (x := (e : Int) - i) (by omega) (by omega)]
    by_cases c : L.length + i = e
    · rw [if_pos (by omega)]
      exact wpo_call (cw 1 (by rw [if_pos c])) (fun z hz => wpo_some.mpr hz)
    · rw [if_neg (by omega)]
      exact wpo_call (cw 0 (by rw [if_neg c])) (fun z hz => wpo_some.mpr hz)
theorem zphi_wk (T : Int → Int) (i e : Nat) : zphi (zwk T i e) = (zsr (zspl T i e) 11).elim 0 (fun m => (m : Int) + 1) := by
  unfold zwk
  cases h : zsr (zspl T i e) 11 with
  | none => rfl
  | some m =>
    have := (zsr_some h).2.1
    show zphi (259 + (m : Int)) = (m : Int) + 1
    unfold zphi
    rw [if_neg (by omega), if_neg (by omega), if_neg (by omega)]
    omega
theorem r_wordOf {T : Int → Int} {σ : mS} {i e : Nat} (hB : zB σ) (he : e ≤ 400) (hie : i ≤ e) (hT : ∀ j : Nat, i ≤ j → j < e → σ.1 74 j = T j) : M_Mo_wordOf 68 i e σ = some (zphi (zwk T i e), σ) := by
  have k73 := zk73 hB
  have k68 := zk68 hB
  have e7 : gf 11 7 68 σ = some 73 := by unfold gf; rw [k68, if_pos rfl, zr68_7 hB]
  have l7 : ln 73 σ = some 53 := by unfold ln; rw [k73, if_pos (by decide)]
  have key := loopS (f := fun s : Int × Int × mS => B_Mo_wordOf_4 68 i e s.1 s.2.1 s.2.2) (fun m => ((m : Int) + 1, (zof m : Int), σ)) (zspl T i e) 11 (fun m => ((m : Int) + 1, σ)) (0, σ) (by decide) ?_ ?_
  · obtain ⟨y, e1, e2⟩ := key
    unfold M_Mo_wordOf M_Mo_wordOf_4
    have e1' : miter (fun s : Int × Int × mS => B_Mo_wordOf_4 68 i e s.1 s.2.1 s.2.2) mN (1, 0, σ) = some y := e1
    rw [e1', e2, zphi_wk]
    cases zsr (zspl T i e) 11 <;> rfl
  · intro m hm hp
    show wpo (B_Mo_wordOf_4 68 i e ((m : Int) + 1) (zof m : Int) σ) _
    have lt : (zof m : Int) < 53 := by have := (zof_f m hm).2.1; omega
    unfold B_Mo_wordOf_4
    rw [e7]
    refine wpo_bind.mpr (wpo_some.mpr ?_)
    rw [l7]
    refine wpo_bind.mpr (wpo_some.mpr ?_)
    rw [if_pos lt]
    refine wpo_mono (r_lenw hB hm he hie hT) ?_
    intro z hz
    rw [hz]
    cases c : zspl T i e m with
    | true => rw [if_pos rfl]; exact ⟨rfl, rfl⟩
    | false =>
      rw [if_neg (by decide)]
      refine ⟨rfl, ?_⟩
      have : ((m + 1 : Nat) : Int) + 1 = (m : Int) + 2 := by omega
      rw [this]
  · intro _
    show wpo (B_Mo_wordOf_4 68 i e ((11 : Nat) + 1) (zof 11 : Int) σ) _
    unfold B_Mo_wordOf_4
    rw [e7]
    refine wpo_bind.mpr (wpo_some.mpr ?_)
    rw [l7]
    refine wpo_bind.mpr (wpo_some.mpr ?_)
    rw [if_neg (by decide)]
    exact wpo_some.mpr rfl
