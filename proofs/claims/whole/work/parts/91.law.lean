/-! THE WHOLE LAW, from a start of the small machine -/
theorem z_law {sc : Int → Int} {len : Int} {σ0 : mS} (c0 : σ0.2.2.1 = 0) (s0 : σ0.2.2.2 = 0) (g : zFT σ0) (g3 : σ0.2.1 (-3) = (100, 4) ∧ σ0.1 (-3) 0 = 23 ∧ σ0.1 (-3) 1 = 9 ∧ σ0.1 (-3) 2 = 63 ∧ σ0.1 (-3) 3 = 31) (gs : ∀ n : Nat, n < 11 → σ0.2.1 (-10 - (n : Int)) = (300, ((zstr.getD n []).length : Int)) ∧ ∀ j : Nat, j < (zstr.getD n []).length → σ0.1 (-10 - (n : Int)) (j : Int) = (zstr.getD n []).getD j 0) (hS : zScr sc len σ0) (h0 : 0 ≤ len) (hl : len ≤ 3072) (hb : ∀ j, 0 ≤ j → j < len → sc j ≤ 2147483647) : wpo (M_LAW_law (-1) σ0) (fun q => q.1 = 1 ∧ q.2.2.2.1 ≤ 10000 ∧ q.2.2.2.2 ≤ 2000000) := by
  have h : zRp σ0 zX0 0 [] 0 σ0 := ⟨c0, s0, fun r _ => ⟨rfl, rfl⟩, fun m hm => absurd hm (Nat.not_lt_zero m), fun r i a b => by omega, fun e he => absurd he List.not_mem_nil, fun _ _ _ => rfl⟩
  unfold M_LAW_law
  refine t_new (m := 1) (s' := 16) 1 h rfl rfl rfl rfl fun σ h => ?_
  refine t_gk h (by decide +kernel) ?_
  refine t_call (i_RW g h) ?_
  intro p ⟨hp, h⟩
  refine t_new (m := 68) (s' := 8211) 68 h rfl rfl rfl rfl fun σ h => ?_
  refine t_gk h (by decide +kernel) ?_
  refine t_call (i_Mo_68 g h) ?_
  intro q ⟨hq, h⟩
  have hI := i_inv g g3 gs h
  have e1 := h.2.2.1 (-1) (by decide)
  exact z_lawloop hI ⟨by rw [e1.2]; exact hS.1, fun j => by rw [e1.1]; exact hS.2 j⟩ h0 hl hb
