/-! CONSTRUCTORS: explicit states -/
/-- an array is made and put into a field -/
def zArr (b i k n : Int) (σ : mS) : mS := (mup (mnew k n σ).1 b i (σ.2.2.1 + 1), (mnew k n σ).2)
theorem e_arr {β : Type} {K b i k n : Int} {σ : mS} (f : mS → Option β) (hb : (σ.2.1 b).1 = K) (b0 : 0 < b) (bc : b ≤ σ.2.2.1) (n0 : 0 ≤ n) (n1 : n ≤ 1000000) : ((na k n σ).bind fun s => mlet s.2.2.1 fun v => (pf K i b v s).bind f) = f (zArr b i k n σ) := by
  have e1 : na k n σ = some (mnew k n σ) := by unfold na; rw [if_pos ⟨n0, n1⟩]
  rw [e1]
  show ((pf K i b (σ.2.2.1 + 1) (mnew k n σ)).bind f) = _
  have e2 : pf K i b (σ.2.2.1 + 1) (mnew k n σ) = some (zArr b i k n σ) := by
    unfold pf
    rw [mnew_kn (by omega), if_pos ⟨hb, b0⟩]
    rfl
  rw [e2]
  rfl
theorem zArr_c {b i k n : Int} {σ : mS} : (zArr b i k n σ).2.2.1 = σ.2.2.1 + 1 := rfl
theorem zArr_s {b i k n : Int} {σ : mS} : (zArr b i k n σ).2.2.2 = σ.2.2.2 + n := rfl
theorem zArr_k {b i k n u : Int} {σ : mS} : (zArr b i k n σ).2.1 u = if u = σ.2.2.1 + 1 then (k, n) else σ.2.1 u := rfl
theorem zArr_v {b i k n u j : Int} {σ : mS} : (zArr b i k n σ).1 u j = if u = b then (if j = i then σ.2.2.1 + 1 else if u = σ.2.2.1 + 1 then 0 else σ.1 u j) else if u = σ.2.2.1 + 1 then 0 else σ.1 u j := rfl
/-- an array is filled -/
def zFil (r v n : Int) (σ : mS) : mS := ((fun u j => if u = r then (if 0 ≤ j ∧ j < n then v else σ.1 u j) else σ.1 u j), σ.2)
theorem e_fill {r v n : Int} {σ : mS} (hk : σ.2.1 r = (100, n)) (r0 : 0 < r) (n0 : 0 ≤ n) (n1 : n ≤ 10000) : M_JA_fill r v σ = some (0, zFil r v n σ) := by
  have e1 : ln r σ = some n := by unfold ln; rw [hk]; rfl
  obtain ⟨m, hm⟩ : ∃ m : Nat, (m : Int) = n := ⟨n.toNat, by omega⟩
  refine wpo_is ?_
  unfold M_JA_fill
  rw [e1]
  refine wpo_bind.mpr (wpo_some.mpr ?_)
  unfold M_JA_fill_5
  refine loopN (fun c y => y = ((c : Int), zFil r v (c : Int) σ)) m _ _ (by omega) ?_ ?_ ?_
  · refine Prod.ext rfl (Prod.ext ?_ rfl)
    funext u j
    show σ.1 u j = if u = r then (if 0 ≤ j ∧ j < ((0 : Nat) : Int) then v else σ.1 u j) else σ.1 u j
    by_cases c : u = r
    · rw [if_pos c, if_neg (by omega)]
    · rw [if_neg c]
  · intro c y hc hy
    subst hy
    refine ⟨(((c + 1 : Nat) : Int), zFil r v ((c + 1 : Nat) : Int) σ), ?_, rfl⟩
    show B_JA_fill_5 r v (c : Int) n (zFil r v (c : Int) σ) = _
    have e2 : sd 100 r (c : Int) v (zFil r v (c : Int) σ) = some (zFil r v ((c + 1 : Nat) : Int) σ) := by
      unfold sd
      have hk' : (zFil r v (c : Int) σ).2.1 r = (100, n) := hk
      rw [hk', if_pos ⟨rfl, r0, by omega, by show (c : Int) < n; omega⟩]
      refine congrArg some (Prod.ext ?_ rfl)
      funext u j
      show mup (zFil r v (c : Int) σ).1 r (c : Int) (mnar 100 v) u j = if u = r then (if 0 ≤ j ∧ j < ((c + 1 : Nat) : Int) then v else σ.1 u j) else σ.1 u j
      by_cases cu : u = r
      · subst cu
        rw [if_pos rfl, mup_if]
        show (if j = (c : Int) then v else if u = u then (if 0 ≤ j ∧ j < (c : Int) then v else σ.1 u j) else σ.1 u j) = _
        rw [if_pos (rfl : u = u)]
        by_cases cj : j = (c : Int)
        · rw [if_pos cj, if_pos (by omega)]
        · rw [if_neg cj]
          by_cases ci : 0 ≤ j ∧ j < (c : Int)
          · rw [if_pos ci, if_pos (by omega)]
          · rw [if_neg ci, if_neg (by omega)]
      · rw [if_neg cu, mup_cell cu]
        exact if_neg cu
    unfold B_JA_fill_5
    rw [if_pos (by omega), e2]
    show some (Sum.inl (w32 ((c : Int) + 1), _)) = _
    rw [w32_in (by omega) (by omega)]
    rfl
  · intro y hy
    subst hy
    refine ⟨(0, zFil r v n σ), ?_, rfl⟩
    show B_JA_fill_5 r v (m : Int) n (zFil r v (m : Int) σ) = _
    unfold B_JA_fill_5
    rw [if_neg (by omega), hm]
/-- a copy into a whole array -/
def zCpy (r r' n : Int) (σ : mS) : mS := ((fun q i => if q = r' then (if 0 ≤ i ∧ i < 0 + n then σ.1 r (0 + (i - 0)) else σ.1 q i) else σ.1 q i), σ.2)
theorem e_cpy {r r' n a : Int} {σ : mS} (h1 : σ.2.1 r = (100, a)) (h2 : σ.2.1 r' = (100, n)) (r0 : 0 < r') (ne : r ≠ r') (n0 : 0 ≤ n) (l1 : n ≤ a) : cpy r 0 r' 0 n σ = some (zCpy r r' n σ) := by
  unfold cpy
  rw [if_pos ⟨by rw [h1], by rw [h2], r0, ne, Int.le_refl _, Int.le_refl _, n0, by rw [h1]; show 0 + n ≤ a; omega, by rw [h2]; show 0 + n ≤ n; omega⟩]
  rfl
/-- a road, behind its making: cell b is its object, ten arrays follow -/
def zRdI (b : Int) (σ : mS) : mS := zCpy (-2) (b + 6) 4 (zFil (b + 3) (-1) 64 (zArr b 12 100 12 (zArr b 11 100 12 (zArr b 10 100 12 (zArr b 7 204 6 (zArr b 6 100 4 (zArr b 4 100 8 (zArr b 3 100 8 (zArr b 2 100 64 (zArr b 1 100 64 (zArr b 0 100 64 σ)))))))))))
