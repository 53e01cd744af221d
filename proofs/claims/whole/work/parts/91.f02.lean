/-! the machine never writes what was there before (wants 22.sim: the texts 19..45 must stand before) -/
theorem mgr_pr {P : mP} : ∀ (n d k i : Nat) (L st : List mV) (σ : mS), 0 ≤ σ.2.2.1 → hol (fun r => zpr σ r.2) (mgr P n d k i L st σ) := by
  intro n
  induction n with
  | zero => intro d k i L st σ _; exact hol_none
  | succ n ih =>
    intro d k i L st σ h0
    unfold mgr
    cases hmi : (P k).1[i]? with
    | none => exact hol_none
    | some mi =>
      refine mstep_hol h0 ?_ ?_ (fun v b hb => by cases hb; exact zpr.rfl') mi i L st
      · intro k' as p hp
        cases d with
        | zero => cases hp
        | succ d =>
          revert hp
          cases (mexp as).length.ble (P k').2 with
          | false => intro hp; cases hp
          | true => intro hp; exact ih d k' 0 _ [] σ h0 p hp
      · intro i L st σ' hz b hb
        exact hz.trans (ih d k i L st σ' (by have := hz.1; omega) b hb)
theorem mEx_pr {d k : Nat} {as : List mV} {σ : mS} {r : Int × mS} (h : mEx d k as σ r) (h0 : 0 ≤ σ.2.2.1) : zpr σ r.2 := by
  obtain ⟨_, n, hn⟩ := h
  exact mgr_pr n d k 0 _ [] σ h0 r hn
