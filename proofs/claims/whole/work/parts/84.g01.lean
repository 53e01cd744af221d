/-! THE LAW'S LOOP: one call of both -/
def zPr (F : mS → Option (Int × mS)) : Prop := ∀ σ r, 0 ≤ σ.2.2.1 → F σ = some r → zpr σ r.2
/-- the script lies in cell -1 -/
def zScr (sc : Int → Int) (len : Int) (σ : mS) : Prop := σ.2.1 (-1) = (100, len) ∧ ∀ j, σ.1 (-1) j = sc j
theorem zScr.pr {sc : Int → Int} {len : Int} {σ σ' : mS} (h : zScr sc len σ) (hp : zpr σ σ') : zScr sc len σ' := ⟨by rw [(hp.2.1 (-1) (by decide)).2]; exact h.1, fun j => by rw [(hp.2.1 (-1) (by decide)).1]; exact h.2 j⟩
theorem zInv_c {k : Nat} {D : Int → (Int → Int) → Int} {A : Int → Int} {σ : mS} (h : zInv k D A σ) : 0 ≤ σ.2.2.1 := by have := h.1.2.1.1; omega
theorem e_ld {sc : Int → Int} {len l3 d : Int} {σ : mS} (h : zScr sc len σ) (l0 : 0 ≤ l3) (l1 : l3 + 6 ≤ len) (hl : len ≤ 4000) (d0 : 0 ≤ d) (d1 : d < 6) : ld 100 (-1) (w32 (l3 + d)) σ = some (sc (l3 + d)) := by
  unfold ld
  rw [w32_in (by omega) (by omega), h.1, if_pos ⟨rfl, by omega, by show l3 + d < len; omega⟩, h.2]
def zLst (sc : Int → Int) (len : Int) (k : Nat) (σ : mS) (z : (Int × mS) ⊕ (Int × mS)) : Prop := ∃ σ' : mS, z = Sum.inl (6 * ((k + 1 : Nat) : Int), σ') ∧ zScr sc len σ' ∧ ∃ D' A', zInv (k + 1) D' A' σ'
theorem zCall {k : Nat} {sc : Int → Int} {len : Int} {D : Int → (Int → Int) → Int} {A : Int → Int} {σ : mS} {F G : mS → Option (Int × mS)} (hI : zInv k D A σ) (hS : zScr sc len σ) (hs : zStp k F G) (hF : zPr F) (hG : zPr G) : gk 10 1 σ = some () ∧ ∃ p q : Int × mS, F σ = some p ∧ zScr sc len p.2 ∧ gk 11 68 p.2 = some () ∧ G p.2 = some q ∧ q.1 = p.1 ∧ zScr sc len q.2 ∧ (∃ D' A', zInv (k + 1) D' A' q.2) := by
  obtain ⟨p, ep, q, eq, e1, D', A', hI'⟩ := hs D A σ hI
  have h0 := zInv_c hI
  have c90 := hI.1.2.1.1
  have f1 := hF σ p h0 ep
  have f2 := hG p.2 q (by have := f1.1; omega) eq
  have s1 := hS.pr f1
  refine ⟨?_, p, q, ep, s1, ?_, eq, e1, s1.pr f2, D', A', hI'⟩
  · unfold gk
    rw [zk1 hI.1.1.1, if_pos rfl]
  · unfold gk
    rw [f1.2.2 68 (by omega), zk68 hI.1.1.1, if_pos rfl]
theorem lc0 {k : Nat} {sc : Int → Int} {len l3 : Int} {D : Int → (Int → Int) → Int} {A : Int → Int} {σ : mS} {F G : mS → Option (Int × mS)} (hI : zInv k D A σ) (hS : zScr sc len σ) (hl3 : l3 = 6 * (k : Int)) (hl : l3 + 6 ≤ len) (hl4 : len ≤ 4000) (hs : zStp k (F) (G)) (hF : zPr (F)) (hG : zPr (G)) : wpo ((gk 10 1 σ).bind fun _ => (F σ).bind fun p => (gk 11 68 p.2).bind fun _ => (G p.2).bind fun q => if p.1 = q.1 then some (Sum.inl (w32 (l3 + 6), q.2)) else if 0 = 0 ∨ 0 = 1 then some (Sum.inr (0, q.2)) else none) (zLst sc len k σ) := by
  obtain ⟨g10, p, q, ep, s1, g11, eq, e1, s2, hI'⟩ := zCall hI hS hs hF hG
  simp only [Option.bind_some, g10, ep, g11, eq]
  rw [if_pos e1.symm]
  exact wpo_some.mpr ⟨q.2, by rw [w32_in (by omega) (by omega), hl3]; exact congrArg Sum.inl (Prod.ext (by show 6 * (k : Int) + 6 = 6 * ((k + 1 : Nat) : Int); omega) rfl), s2, hI'⟩
theorem lc1 {k : Nat} {sc : Int → Int} {len l3 : Int} {D : Int → (Int → Int) → Int} {A : Int → Int} {σ : mS} {F G : Int → mS → Option (Int × mS)} (hI : zInv k D A σ) (hS : zScr sc len σ) (hl3 : l3 = 6 * (k : Int)) (hl : l3 + 6 ≤ len) (hl4 : len ≤ 4000) (hs : zStp k (F (sc (l3 + 1))) (G (sc (l3 + 1)))) (hF : zPr (F (sc (l3 + 1)))) (hG : zPr (G (sc (l3 + 1)))) : wpo ((ld 100 (-1) (w32 (l3 + 1)) σ).bind fun u0 => (gk 10 1 σ).bind fun _ => (F u0 σ).bind fun p => (ld 100 (-1) (w32 (l3 + 1)) p.2).bind fun v0 => (gk 11 68 p.2).bind fun _ => (G v0 p.2).bind fun q => if p.1 = q.1 then some (Sum.inl (w32 (l3 + 6), q.2)) else if 0 = 0 ∨ 0 = 1 then some (Sum.inr (0, q.2)) else none) (zLst sc len k σ) := by
  obtain ⟨g10, p, q, ep, s1, g11, eq, e1, s2, hI'⟩ := zCall hI hS hs hF hG
  have l1 := e_ld (d := 1) hS (by omega) hl hl4 (by decide) (by decide)
  have m1 := e_ld (d := 1) s1 (by omega) hl hl4 (by decide) (by decide)
  simp only [l1, m1, Option.bind_some, g10, ep, g11, eq]
  rw [if_pos e1.symm]
  exact wpo_some.mpr ⟨q.2, by rw [w32_in (by omega) (by omega), hl3]; exact congrArg Sum.inl (Prod.ext (by show 6 * (k : Int) + 6 = 6 * ((k + 1 : Nat) : Int); omega) rfl), s2, hI'⟩
theorem lc2 {k : Nat} {sc : Int → Int} {len l3 : Int} {D : Int → (Int → Int) → Int} {A : Int → Int} {σ : mS} {F G : Int → Int → mS → Option (Int × mS)} (hI : zInv k D A σ) (hS : zScr sc len σ) (hl3 : l3 = 6 * (k : Int)) (hl : l3 + 6 ≤ len) (hl4 : len ≤ 4000) (hs : zStp k (F (sc (l3 + 1)) (sc (l3 + 2))) (G (sc (l3 + 1)) (sc (l3 + 2)))) (hF : zPr (F (sc (l3 + 1)) (sc (l3 + 2)))) (hG : zPr (G (sc (l3 + 1)) (sc (l3 + 2)))) : wpo ((ld 100 (-1) (w32 (l3 + 1)) σ).bind fun u0 => (ld 100 (-1) (w32 (l3 + 2)) σ).bind fun u1 => (gk 10 1 σ).bind fun _ => (F u0 u1 σ).bind fun p => (ld 100 (-1) (w32 (l3 + 1)) p.2).bind fun v0 => (ld 100 (-1) (w32 (l3 + 2)) p.2).bind fun v1 => (gk 11 68 p.2).bind fun _ => (G v0 v1 p.2).bind fun q => if p.1 = q.1 then some (Sum.inl (w32 (l3 + 6), q.2)) else if 0 = 0 ∨ 0 = 1 then some (Sum.inr (0, q.2)) else none) (zLst sc len k σ) := by
  obtain ⟨g10, p, q, ep, s1, g11, eq, e1, s2, hI'⟩ := zCall hI hS hs hF hG
  have l1 := e_ld (d := 1) hS (by omega) hl hl4 (by decide) (by decide)
  have m1 := e_ld (d := 1) s1 (by omega) hl hl4 (by decide) (by decide)
  have l2 := e_ld (d := 2) hS (by omega) hl hl4 (by decide) (by decide)
  have m2 := e_ld (d := 2) s1 (by omega) hl hl4 (by decide) (by decide)
  simp only [l1, m1, l2, m2, Option.bind_some, g10, ep, g11, eq]
  rw [if_pos e1.symm]
  exact wpo_some.mpr ⟨q.2, by rw [w32_in (by omega) (by omega), hl3]; exact congrArg Sum.inl (Prod.ext (by show 6 * (k : Int) + 6 = 6 * ((k + 1 : Nat) : Int); omega) rfl), s2, hI'⟩
theorem lc3 {k : Nat} {sc : Int → Int} {len l3 : Int} {D : Int → (Int → Int) → Int} {A : Int → Int} {σ : mS} {F G : Int → Int → Int → mS → Option (Int × mS)} (hI : zInv k D A σ) (hS : zScr sc len σ) (hl3 : l3 = 6 * (k : Int)) (hl : l3 + 6 ≤ len) (hl4 : len ≤ 4000) (hs : zStp k (F (sc (l3 + 1)) (sc (l3 + 2)) (sc (l3 + 3))) (G (sc (l3 + 1)) (sc (l3 + 2)) (sc (l3 + 3)))) (hF : zPr (F (sc (l3 + 1)) (sc (l3 + 2)) (sc (l3 + 3)))) (hG : zPr (G (sc (l3 + 1)) (sc (l3 + 2)) (sc (l3 + 3)))) : wpo ((ld 100 (-1) (w32 (l3 + 1)) σ).bind fun u0 => (ld 100 (-1) (w32 (l3 + 2)) σ).bind fun u1 => (ld 100 (-1) (w32 (l3 + 3)) σ).bind fun u2 => (gk 10 1 σ).bind fun _ => (F u0 u1 u2 σ).bind fun p => (ld 100 (-1) (w32 (l3 + 1)) p.2).bind fun v0 => (ld 100 (-1) (w32 (l3 + 2)) p.2).bind fun v1 => (ld 100 (-1) (w32 (l3 + 3)) p.2).bind fun v2 => (gk 11 68 p.2).bind fun _ => (G v0 v1 v2 p.2).bind fun q => if p.1 = q.1 then some (Sum.inl (w32 (l3 + 6), q.2)) else if 0 = 0 ∨ 0 = 1 then some (Sum.inr (0, q.2)) else none) (zLst sc len k σ) := by
  obtain ⟨g10, p, q, ep, s1, g11, eq, e1, s2, hI'⟩ := zCall hI hS hs hF hG
  have l1 := e_ld (d := 1) hS (by omega) hl hl4 (by decide) (by decide)
  have m1 := e_ld (d := 1) s1 (by omega) hl hl4 (by decide) (by decide)
  have l2 := e_ld (d := 2) hS (by omega) hl hl4 (by decide) (by decide)
  have m2 := e_ld (d := 2) s1 (by omega) hl hl4 (by decide) (by decide)
  have l3 := e_ld (d := 3) hS (by omega) hl hl4 (by decide) (by decide)
  have m3 := e_ld (d := 3) s1 (by omega) hl hl4 (by decide) (by decide)
  simp only [l1, m1, l2, m2, l3, m3, Option.bind_some, g10, ep, g11, eq]
  rw [if_pos e1.symm]
  exact wpo_some.mpr ⟨q.2, by rw [w32_in (by omega) (by omega), hl3]; exact congrArg Sum.inl (Prod.ext (by show 6 * (k : Int) + 6 = 6 * ((k + 1 : Nat) : Int); omega) rfl), s2, hI'⟩
theorem lc4 {k : Nat} {sc : Int → Int} {len l3 : Int} {D : Int → (Int → Int) → Int} {A : Int → Int} {σ : mS} {F G : Int → Int → Int → Int → mS → Option (Int × mS)} (hI : zInv k D A σ) (hS : zScr sc len σ) (hl3 : l3 = 6 * (k : Int)) (hl : l3 + 6 ≤ len) (hl4 : len ≤ 4000) (hs : zStp k (F (sc (l3 + 1)) (sc (l3 + 2)) (sc (l3 + 3)) (sc (l3 + 4))) (G (sc (l3 + 1)) (sc (l3 + 2)) (sc (l3 + 3)) (sc (l3 + 4)))) (hF : zPr (F (sc (l3 + 1)) (sc (l3 + 2)) (sc (l3 + 3)) (sc (l3 + 4)))) (hG : zPr (G (sc (l3 + 1)) (sc (l3 + 2)) (sc (l3 + 3)) (sc (l3 + 4)))) : wpo ((ld 100 (-1) (w32 (l3 + 1)) σ).bind fun u0 => (ld 100 (-1) (w32 (l3 + 2)) σ).bind fun u1 => (ld 100 (-1) (w32 (l3 + 3)) σ).bind fun u2 => (ld 100 (-1) (w32 (l3 + 4)) σ).bind fun u3 => (gk 10 1 σ).bind fun _ => (F u0 u1 u2 u3 σ).bind fun p => (ld 100 (-1) (w32 (l3 + 1)) p.2).bind fun v0 => (ld 100 (-1) (w32 (l3 + 2)) p.2).bind fun v1 => (ld 100 (-1) (w32 (l3 + 3)) p.2).bind fun v2 => (ld 100 (-1) (w32 (l3 + 4)) p.2).bind fun v3 => (gk 11 68 p.2).bind fun _ => (G v0 v1 v2 v3 p.2).bind fun q => if p.1 = q.1 then some (Sum.inl (w32 (l3 + 6), q.2)) else if 0 = 0 ∨ 0 = 1 then some (Sum.inr (0, q.2)) else none) (zLst sc len k σ) := by
  obtain ⟨g10, p, q, ep, s1, g11, eq, e1, s2, hI'⟩ := zCall hI hS hs hF hG
  have l1 := e_ld (d := 1) hS (by omega) hl hl4 (by decide) (by decide)
  have m1 := e_ld (d := 1) s1 (by omega) hl hl4 (by decide) (by decide)
  have l2 := e_ld (d := 2) hS (by omega) hl hl4 (by decide) (by decide)
  have m2 := e_ld (d := 2) s1 (by omega) hl hl4 (by decide) (by decide)
  have l3 := e_ld (d := 3) hS (by omega) hl hl4 (by decide) (by decide)
  have m3 := e_ld (d := 3) s1 (by omega) hl hl4 (by decide) (by decide)
  have l4 := e_ld (d := 4) hS (by omega) hl hl4 (by decide) (by decide)
  have m4 := e_ld (d := 4) s1 (by omega) hl hl4 (by decide) (by decide)
  simp only [l1, m1, l2, m2, l3, m3, l4, m4, Option.bind_some, g10, ep, g11, eq]
  rw [if_pos e1.symm]
  exact wpo_some.mpr ⟨q.2, by rw [w32_in (by omega) (by omega), hl3]; exact congrArg Sum.inl (Prod.ext (by show 6 * (k : Int) + 6 = 6 * ((k + 1 : Nat) : Int); omega) rfl), s2, hI'⟩
theorem lc5 {k : Nat} {sc : Int → Int} {len l3 : Int} {D : Int → (Int → Int) → Int} {A : Int → Int} {σ : mS} {F G : Int → Int → Int → Int → Int → mS → Option (Int × mS)} (hI : zInv k D A σ) (hS : zScr sc len σ) (hl3 : l3 = 6 * (k : Int)) (hl : l3 + 6 ≤ len) (hl4 : len ≤ 4000) (hs : zStp k (F (sc (l3 + 1)) (sc (l3 + 2)) (sc (l3 + 3)) (sc (l3 + 4)) (sc (l3 + 5))) (G (sc (l3 + 1)) (sc (l3 + 2)) (sc (l3 + 3)) (sc (l3 + 4)) (sc (l3 + 5)))) (hF : zPr (F (sc (l3 + 1)) (sc (l3 + 2)) (sc (l3 + 3)) (sc (l3 + 4)) (sc (l3 + 5)))) (hG : zPr (G (sc (l3 + 1)) (sc (l3 + 2)) (sc (l3 + 3)) (sc (l3 + 4)) (sc (l3 + 5)))) : wpo ((ld 100 (-1) (w32 (l3 + 1)) σ).bind fun u0 => (ld 100 (-1) (w32 (l3 + 2)) σ).bind fun u1 => (ld 100 (-1) (w32 (l3 + 3)) σ).bind fun u2 => (ld 100 (-1) (w32 (l3 + 4)) σ).bind fun u3 => (ld 100 (-1) (w32 (l3 + 5)) σ).bind fun u4 => (gk 10 1 σ).bind fun _ => (F u0 u1 u2 u3 u4 σ).bind fun p => (ld 100 (-1) (w32 (l3 + 1)) p.2).bind fun v0 => (ld 100 (-1) (w32 (l3 + 2)) p.2).bind fun v1 => (ld 100 (-1) (w32 (l3 + 3)) p.2).bind fun v2 => (ld 100 (-1) (w32 (l3 + 4)) p.2).bind fun v3 => (ld 100 (-1) (w32 (l3 + 5)) p.2).bind fun v4 => (gk 11 68 p.2).bind fun _ => (G v0 v1 v2 v3 v4 p.2).bind fun q => if p.1 = q.1 then some (Sum.inl (w32 (l3 + 6), q.2)) else if 0 = 0 ∨ 0 = 1 then some (Sum.inr (0, q.2)) else none) (zLst sc len k σ) := by
  obtain ⟨g10, p, q, ep, s1, g11, eq, e1, s2, hI'⟩ := zCall hI hS hs hF hG
  have l1 := e_ld (d := 1) hS (by omega) hl hl4 (by decide) (by decide)
  have m1 := e_ld (d := 1) s1 (by omega) hl hl4 (by decide) (by decide)
  have l2 := e_ld (d := 2) hS (by omega) hl hl4 (by decide) (by decide)
  have m2 := e_ld (d := 2) s1 (by omega) hl hl4 (by decide) (by decide)
  have l3 := e_ld (d := 3) hS (by omega) hl hl4 (by decide) (by decide)
  have m3 := e_ld (d := 3) s1 (by omega) hl hl4 (by decide) (by decide)
  have l4 := e_ld (d := 4) hS (by omega) hl hl4 (by decide) (by decide)
  have m4 := e_ld (d := 4) s1 (by omega) hl hl4 (by decide) (by decide)
  have l5 := e_ld (d := 5) hS (by omega) hl hl4 (by decide) (by decide)
  have m5 := e_ld (d := 5) s1 (by omega) hl hl4 (by decide) (by decide)
  simp only [l1, m1, l2, m2, l3, m3, l4, m4, l5, m5, Option.bind_some, g10, ep, g11, eq]
  rw [if_pos e1.symm]
  exact wpo_some.mpr ⟨q.2, by rw [w32_in (by omega) (by omega), hl3]; exact congrArg Sum.inl (Prod.ext (by show 6 * (k : Int) + 6 = 6 * ((k + 1 : Nat) : Int); omega) rfl), s2, hI'⟩
set_option maxHeartbeats 8000000 in
set_option maxRecDepth 100000 in
theorem z_step {k : Nat} {sc : Int → Int} {len : Int} {D : Int → (Int → Int) → Int} {A : Int → Int} {σ : mS} (pR_rise : ∀ a b : Int, zPr (M_RW_rise 1 a b)) (pM_rise : ∀ a b : Int, zPr (M_Mo_rise 68 a b)) (pR_ground : ∀ a b c : Int, zPr (M_RW_ground 1 a b c)) (pM_ground : ∀ a b c : Int, zPr (M_Mo_ground 68 a b c)) (pR_thing : ∀ a b : Int, zPr (M_RW_thing 1 a b)) (pM_thing : ∀ a b : Int, zPr (M_Mo_thing 68 a b)) (pR_move : ∀ a b : Int, zPr (M_RW_move 1 a b)) (pM_move : ∀ a b : Int, zPr (M_Mo_move 68 a b)) (pR_of : ∀ a b : Int, zPr (M_RW_of 1 a b)) (pM_of : ∀ a b : Int, zPr (M_Mo_of 68 a b)) (pR_terms : ∀ a b : Int, zPr (M_RW_terms 1 a b)) (pM_terms : ∀ a b : Int, zPr (M_Mo_terms 68 a b)) (pR_feed : ∀ a b c d e : Int, zPr (M_RW_feed 1 a b c d e)) (pM_feed : ∀ a b c d e : Int, zPr (M_Mo_feed 68 a b c d e)) (pR_end : ∀ a : Int, zPr (M_RW_end 1 a)) (pM_end : ∀ a : Int, zPr (M_Mo_end 68 a)) (pR_row : zPr (M_RW_row 1)) (pM_row : zPr (M_Mo_row 68)) (pR_worn : zPr (M_RW_worn 1)) (pM_worn : zPr (M_Mo_worn 68)) (pR_law : zPr (M_RW_law 1)) (pM_law : zPr (M_Mo_law 68)) (pR_fault : zPr (M_RW_fault 1)) (pM_fault : zPr (M_Mo_fault 68)) (pR_force : ∀ a : Int, zPr (M_RW_force 1 a)) (pM_force : ∀ a : Int, zPr (M_Mo_force 68 a)) (pR_warm : ∀ a b c : Int, zPr (M_RW_warm 1 a b c)) (pM_warm : ∀ a b c : Int, zPr (M_Mo_warm 68 a b c)) (pR_ray : ∀ a b : Int, zPr (M_RW_ray 1 a b)) (pM_ray : ∀ a b : Int, zPr (M_Mo_ray 68 a b)) (pR_at : ∀ a b : Int, zPr (M_RW_at 1 a b)) (pM_at : ∀ a b : Int, zPr (M_Mo_at 68 a b)) (pR_seen : ∀ a : Int, zPr (M_RW_seen 1 a)) (pM_seen : ∀ a : Int, zPr (M_Mo_seen 68 a)) (pR_pictures : ∀ a : Int, zPr (M_RW_pictures 1 a)) (pM_pictures : ∀ a : Int, zPr (M_Mo_pictures 68 a)) (pR_picture : ∀ a b c : Int, zPr (M_RW_picture 1 a b c)) (pM_picture : ∀ a b c : Int, zPr (M_Mo_picture 68 a b c)) (pR_hidden : ∀ a : Int, zPr (M_RW_hidden 1 a)) (pM_hidden : ∀ a : Int, zPr (M_Mo_hidden 68 a)) (pR_water : ∀ a : Int, zPr (M_RW_water 1 a)) (pM_water : ∀ a : Int, zPr (M_Mo_water 68 a)) (pR_horizon : zPr (M_RW_horizon 1)) (pM_horizon : zPr (M_Mo_horizon 68)) (pR_aim : ∀ a b : Int, zPr (M_RW_aim 1 a b)) (pM_aim : ∀ a b : Int, zPr (M_Mo_aim 68 a b)) (pR_loom : ∀ a b : Int, zPr (M_RW_loom 1 a b)) (pM_loom : ∀ a b : Int, zPr (M_Mo_loom 68 a b)) (pR_shade : ∀ a : Int, zPr (M_RW_shade 1 a)) (pM_shade : ∀ a : Int, zPr (M_Mo_shade 68 a)) (pR_cross : ∀ a b : Int, zPr (M_RW_cross 1 a b)) (pM_cross : ∀ a b : Int, zPr (M_Mo_cross 68 a b)) (pR_hours : ∀ a : Int, zPr (M_RW_hours 1 a)) (pM_hours : ∀ a : Int, zPr (M_Mo_hours 68 a)) (pR_mark : ∀ a b : Int, zPr (M_RW_mark 1 a b)) (pM_mark : ∀ a b : Int, zPr (M_Mo_mark 68 a b)) (pR_level : ∀ a : Int, zPr (M_RW_level 1 a)) (pM_level : ∀ a : Int, zPr (M_Mo_level 68 a)) (pR_best : ∀ a : Int, zPr (M_RW_best 1 a)) (pM_best : ∀ a : Int, zPr (M_Mo_best 68 a)) (pR_eyes : ∀ a b : Int, zPr (M_RW_eyes 1 a b)) (pM_eyes : ∀ a b : Int, zPr (M_Mo_eyes 68 a b)) (pR_where : ∀ a b : Int, zPr (M_RW_where 1 a b)) (pM_where : ∀ a b : Int, zPr (M_Mo_where 68 a b)) (pR_sight : ∀ a b c : Int, zPr (M_RW_sight 1 a b c)) (pM_sight : ∀ a b c : Int, zPr (M_Mo_sight 68 a b c)) (pR_drop : ∀ a : Int, zPr (M_RW_drop 1 a)) (pM_drop : ∀ a : Int, zPr (M_Mo_drop 68 a)) (pR_wrong : ∀ a : Int, zPr (M_RW_wrong 1 a)) (pM_wrong : ∀ a : Int, zPr (M_Mo_wrong 68 a)) (pR_fits : zPr (M_RW_fits 1)) (pM_fits : zPr (M_Mo_fits 68)) (pR_likely : zPr (M_RW_likely 1)) (pM_likely : zPr (M_Mo_likely 68)) (pR_tremble : ∀ a b c d : Int, zPr (M_RW_tremble 1 a b c d)) (pM_tremble : ∀ a b c d : Int, zPr (M_Mo_tremble 68 a b c d)) (pR_trembled : ∀ a b : Int, zPr (M_RW_trembled 1 a b)) (pM_trembled : ∀ a b : Int, zPr (M_Mo_trembled 68 a b)) (pR_image : ∀ a : Int, zPr (M_RW_image 1 a)) (pM_image : ∀ a : Int, zPr (M_Mo_image 68 a)) (pR_back : ∀ a : Int, zPr (M_RW_back 1 a)) (pM_back : ∀ a : Int, zPr (M_Mo_back 68 a)) (pR_count : ∀ a : Int, zPr (M_RW_count 1 a)) (pM_count : ∀ a : Int, zPr (M_Mo_count 68 a)) (pR_status : zPr (M_RW_status 1)) (pM_status : zPr (M_Mo_status 68)) (hI : zInv k D A σ) (hS : zScr sc len σ) (hl : 6 * (k : Int) + 6 ≤ len) (hl4 : len ≤ 4000) (hb : ∀ j, 0 ≤ j → j < len → sc j ≤ 2147483647) : wpo (B_LAW_law_10 (-1) 1 68 (6 * (k : Int)) σ) (zLst sc len k σ) := by
  have hk : k ≤ 1000 := by omega
  generalize hl3 : 6 * (k : Int) = l3 at *
  have e1 : ln (-1) σ = some len := by unfold ln; rw [hS.1]; rfl
  have e2 : ld 100 (-1) l3 σ = some (sc l3) := by unfold ld; rw [hS.1, if_pos ⟨rfl, by omega, by show l3 < len; omega⟩, hS.2]
  have e3 : w32 (len - 6) = len - 6 := w32_in (by omega) (by omega)
  unfold B_LAW_law_10
  rw [e1]
  refine wpo_bind.mpr (wpo_some.mpr ?_)
  rw [e3, if_neg (by omega), e2]
  refine wpo_bind.mpr (wpo_some.mpr ?_)
  generalize iand (sc l3) 63 = w
  by_cases c0 : w = 0
  · rw [if_pos c0]
    exact lc2 (F := M_RW_rise 1) (G := M_Mo_rise 68) hI hS hl3.symm hl hl4 (s_rise k hk (sc (l3 + 1)) (sc (l3 + 2))) (pR_rise _ _) (pM_rise _ _)
  rw [if_neg c0]
  by_cases c1 : w = 1
  · rw [if_pos c1]
    exact lc3 (F := M_RW_ground 1) (G := M_Mo_ground 68) hI hS hl3.symm hl hl4 (s_ground k hk (sc (l3 + 1)) (sc (l3 + 2)) (sc (l3 + 3))) (pR_ground _ _ _) (pM_ground _ _ _)
  rw [if_neg c1]
  by_cases c2 : w = 2
  · rw [if_pos c2]
    exact lc2 (F := M_RW_thing 1) (G := M_Mo_thing 68) hI hS hl3.symm hl hl4 (s_thing k hk (sc (l3 + 1)) (sc (l3 + 2))) (pR_thing _ _) (pM_thing _ _)
  rw [if_neg c2]
  by_cases c3 : w = 3
  · rw [if_pos c3]
    exact lc2 (F := M_RW_move 1) (G := M_Mo_move 68) hI hS hl3.symm hl hl4 (s_move k hk (sc (l3 + 1)) (sc (l3 + 2))) (pR_move _ _) (pM_move _ _)
  rw [if_neg c3]
  by_cases c4 : w = 4
  · rw [if_pos c4]
    exact lc2 (F := M_RW_of 1) (G := M_Mo_of 68) hI hS hl3.symm hl hl4 (s_of k (sc (l3 + 1)) (sc (l3 + 2))) (pR_of _ _) (pM_of _ _)
  rw [if_neg c4]
  by_cases c5 : w = 5
  · rw [if_pos c5]
    exact lc2 (F := M_RW_terms 1) (G := M_Mo_terms 68) hI hS hl3.symm hl hl4 (s_terms k hk (sc (l3 + 1)) (sc (l3 + 2))) (pR_terms _ _) (pM_terms _ _)
  rw [if_neg c5]
  by_cases c6 : w = 6
  · rw [if_pos c6]
    exact lc5 (F := M_RW_feed 1) (G := M_Mo_feed 68) hI hS hl3.symm hl hl4 (s_feed k (sc (l3 + 1)) (sc (l3 + 2)) (sc (l3 + 3)) (sc (l3 + 4)) (sc (l3 + 5))) (pR_feed _ _ _ _ _) (pM_feed _ _ _ _ _)
  rw [if_neg c6]
  by_cases c7 : w = 7
  · rw [if_pos c7]
    exact lc1 (F := M_RW_end 1) (G := M_Mo_end 68) hI hS hl3.symm hl hl4 (s_end k (sc (l3 + 1))) (pR_end _) (pM_end _)
  rw [if_neg c7]
  by_cases c8 : w = 8
  · rw [if_pos c8]
    exact lc0 (F := M_RW_row 1) (G := M_Mo_row 68) hI hS hl3.symm hl hl4 (s_row k hk) pR_row pM_row
  rw [if_neg c8]
  by_cases c9 : w = 9
  · rw [if_pos c9]
    exact lc0 (F := M_RW_worn 1) (G := M_Mo_worn 68) hI hS hl3.symm hl hl4 (s_worn k) pR_worn pM_worn
  rw [if_neg c9]
  by_cases c10 : w = 10
  · rw [if_pos c10]
    exact lc0 (F := M_RW_law 1) (G := M_Mo_law 68) hI hS hl3.symm hl hl4 (s_law k hk) pR_law pM_law
  rw [if_neg c10]
  by_cases c11 : w = 11
  · rw [if_pos c11]
    exact lc0 (F := M_RW_fault 1) (G := M_Mo_fault 68) hI hS hl3.symm hl hl4 (s_fault k) pR_fault pM_fault
  rw [if_neg c11]
  by_cases c12 : w = 12
  · rw [if_pos c12]
    exact lc1 (F := M_RW_force 1) (G := M_Mo_force 68) hI hS hl3.symm hl hl4 (s_force k hk (sc (l3 + 1))) (pR_force _) (pM_force _)
  rw [if_neg c12]
  by_cases c13 : w = 13
  · rw [if_pos c13]
    exact lc3 (F := M_RW_warm 1) (G := M_Mo_warm 68) hI hS hl3.symm hl hl4 (s_warm k (sc (l3 + 1)) (sc (l3 + 2)) (sc (l3 + 3))) (pR_warm _ _ _) (pM_warm _ _ _)
  rw [if_neg c13]
  by_cases c14 : w = 14
  · rw [if_pos c14]
    exact lc2 (F := M_RW_ray 1) (G := M_Mo_ray 68) hI hS hl3.symm hl hl4 (s_ray k (sc (l3 + 1)) (sc (l3 + 2))) (pR_ray _ _) (pM_ray _ _)
  rw [if_neg c14]
  by_cases c15 : w = 15
  · rw [if_pos c15]
    exact lc2 (F := M_RW_at 1) (G := M_Mo_at 68) hI hS hl3.symm hl hl4 (s_at k (sc (l3 + 1)) (sc (l3 + 2))) (pR_at _ _) (pM_at _ _)
  rw [if_neg c15]
  by_cases c16 : w = 16
  · rw [if_pos c16]
    exact lc1 (F := M_RW_seen 1) (G := M_Mo_seen 68) hI hS hl3.symm hl hl4 (s_seen k (sc (l3 + 1))) (pR_seen _) (pM_seen _)
  rw [if_neg c16]
  by_cases c17 : w = 17
  · rw [if_pos c17]
    exact lc1 (F := M_RW_pictures 1) (G := M_Mo_pictures 68) hI hS hl3.symm hl hl4 (s_pictures k (sc (l3 + 1))) (pR_pictures _) (pM_pictures _)
  rw [if_neg c17]
  by_cases c18 : w = 18
  · rw [if_pos c18]
    exact lc3 (F := M_RW_picture 1) (G := M_Mo_picture 68) hI hS hl3.symm hl hl4 (s_picture k (sc (l3 + 1)) (sc (l3 + 2)) (sc (l3 + 3)) (hb _ (by omega) (by omega))) (pR_picture _ _ _) (pM_picture _ _ _)
  rw [if_neg c18]
  by_cases c19 : w = 19
  · rw [if_pos c19]
    exact lc1 (F := M_RW_hidden 1) (G := M_Mo_hidden 68) hI hS hl3.symm hl hl4 (s_hidden k (sc (l3 + 1))) (pR_hidden _) (pM_hidden _)
  rw [if_neg c19]
  by_cases c20 : w = 20
  · rw [if_pos c20]
    exact lc1 (F := M_RW_water 1) (G := M_Mo_water 68) hI hS hl3.symm hl hl4 (s_water k (sc (l3 + 1))) (pR_water _) (pM_water _)
  rw [if_neg c20]
  by_cases c21 : w = 21
  · rw [if_pos c21]
    exact lc0 (F := M_RW_horizon 1) (G := M_Mo_horizon 68) hI hS hl3.symm hl hl4 (s_horizon k) pR_horizon pM_horizon
  rw [if_neg c21]
  by_cases c22 : w = 22
  · rw [if_pos c22]
    exact lc2 (F := M_RW_aim 1) (G := M_Mo_aim 68) hI hS hl3.symm hl hl4 (s_aim k (sc (l3 + 1)) (sc (l3 + 2))) (pR_aim _ _) (pM_aim _ _)
  rw [if_neg c22]
  by_cases c23 : w = 23
  · rw [if_pos c23]
    exact lc2 (F := M_RW_loom 1) (G := M_Mo_loom 68) hI hS hl3.symm hl hl4 (s_loom k (sc (l3 + 1)) (sc (l3 + 2))) (pR_loom _ _) (pM_loom _ _)
  rw [if_neg c23]
  by_cases c24 : w = 24
  · rw [if_pos c24]
    exact lc1 (F := M_RW_shade 1) (G := M_Mo_shade 68) hI hS hl3.symm hl hl4 (s_shade k (sc (l3 + 1))) (pR_shade _) (pM_shade _)
  rw [if_neg c24]
  by_cases c25 : w = 25
  · rw [if_pos c25]
    exact lc2 (F := M_RW_cross 1) (G := M_Mo_cross 68) hI hS hl3.symm hl hl4 (s_cross k (sc (l3 + 1)) (sc (l3 + 2))) (pR_cross _ _) (pM_cross _ _)
  rw [if_neg c25]
  by_cases c26 : w = 26
  · rw [if_pos c26]
    exact lc1 (F := M_RW_hours 1) (G := M_Mo_hours 68) hI hS hl3.symm hl hl4 (s_hours k (sc (l3 + 1))) (pR_hours _) (pM_hours _)
  rw [if_neg c26]
  by_cases c27 : w = 27
  · rw [if_pos c27]
    exact lc2 (F := M_RW_mark 1) (G := M_Mo_mark 68) hI hS hl3.symm hl hl4 (s_mark k (sc (l3 + 1)) (sc (l3 + 2))) (pR_mark _ _) (pM_mark _ _)
  rw [if_neg c27]
  by_cases c28 : w = 28
  · rw [if_pos c28]
    exact lc1 (F := M_RW_level 1) (G := M_Mo_level 68) hI hS hl3.symm hl hl4 (s_level k (sc (l3 + 1))) (pR_level _) (pM_level _)
  rw [if_neg c28]
  by_cases c29 : w = 29
  · rw [if_pos c29]
    exact lc1 (F := M_RW_best 1) (G := M_Mo_best 68) hI hS hl3.symm hl hl4 (s_best k (sc (l3 + 1))) (pR_best _) (pM_best _)
  rw [if_neg c29]
  by_cases c30 : w = 30
  · rw [if_pos c30]
    exact lc2 (F := M_RW_eyes 1) (G := M_Mo_eyes 68) hI hS hl3.symm hl hl4 (s_eyes k (sc (l3 + 1)) (sc (l3 + 2))) (pR_eyes _ _) (pM_eyes _ _)
  rw [if_neg c30]
  by_cases c31 : w = 31
  · rw [if_pos c31]
    exact lc2 (F := M_RW_where 1) (G := M_Mo_where 68) hI hS hl3.symm hl hl4 (s_where k (sc (l3 + 1)) (sc (l3 + 2))) (pR_where _ _) (pM_where _ _)
  rw [if_neg c31]
  by_cases c32 : w = 32
  · rw [if_pos c32]
    exact lc3 (F := M_RW_sight 1) (G := M_Mo_sight 68) hI hS hl3.symm hl hl4 (s_sight k hk (sc (l3 + 1)) (sc (l3 + 2)) (sc (l3 + 3))) (pR_sight _ _ _) (pM_sight _ _ _)
  rw [if_neg c32]
  by_cases c33 : w = 33
  · rw [if_pos c33]
    exact lc1 (F := M_RW_drop 1) (G := M_Mo_drop 68) hI hS hl3.symm hl hl4 (s_drop k hk (sc (l3 + 1))) (pR_drop _) (pM_drop _)
  rw [if_neg c33]
  by_cases c34 : w = 34
  · rw [if_pos c34]
    exact lc1 (F := M_RW_wrong 1) (G := M_Mo_wrong 68) hI hS hl3.symm hl hl4 (s_wrong k (sc (l3 + 1))) (pR_wrong _) (pM_wrong _)
  rw [if_neg c34]
  by_cases c35 : w = 35
  · rw [if_pos c35]
    exact lc0 (F := M_RW_fits 1) (G := M_Mo_fits 68) hI hS hl3.symm hl hl4 (s_fits k) pR_fits pM_fits
  rw [if_neg c35]
  by_cases c36 : w = 36
  · rw [if_pos c36]
    exact lc0 (F := M_RW_likely 1) (G := M_Mo_likely 68) hI hS hl3.symm hl hl4 (s_likely k) pR_likely pM_likely
  rw [if_neg c36]
  by_cases c37 : w = 37
  · rw [if_pos c37]
    exact lc4 (F := M_RW_tremble 1) (G := M_Mo_tremble 68) hI hS hl3.symm hl hl4 (s_tremble k hk (sc (l3 + 1)) (sc (l3 + 2)) (sc (l3 + 3)) (sc (l3 + 4))) (pR_tremble _ _ _ _) (pM_tremble _ _ _ _)
  rw [if_neg c37]
  by_cases c38 : w = 38
  · rw [if_pos c38]
    exact lc2 (F := M_RW_trembled 1) (G := M_Mo_trembled 68) hI hS hl3.symm hl hl4 (s_trembled k (sc (l3 + 1)) (sc (l3 + 2))) (pR_trembled _ _) (pM_trembled _ _)
  rw [if_neg c38]
  by_cases c39 : w = 39
  · rw [if_pos c39]
    exact lc1 (F := M_RW_image 1) (G := M_Mo_image 68) hI hS hl3.symm hl hl4 (s_image k hk (sc (l3 + 1))) (pR_image _) (pM_image _)
  rw [if_neg c39]
  by_cases c40 : w = 40
  · rw [if_pos c40]
    exact lc1 (F := M_RW_back 1) (G := M_Mo_back 68) hI hS hl3.symm hl hl4 (s_back k hk (sc (l3 + 1))) (pR_back _) (pM_back _)
  rw [if_neg c40]
  by_cases c41 : w = 41
  · rw [if_pos c41]
    exact lc1 (F := M_RW_count 1) (G := M_Mo_count 68) hI hS hl3.symm hl hl4 (s_count k (sc (l3 + 1))) (pR_count _) (pM_count _)
  rw [if_neg c41]
  by_cases c42 : w = 42
  · rw [if_pos c42]
    exact lc0 (F := M_RW_status 1) (G := M_Mo_status 68) hI hS hl3.symm hl hl4 (s_status k) pR_status pM_status
  rw [if_neg c42]
  refine wpo_some.mpr ⟨σ, ?_, hS, D, A, zInv_up hI⟩
  rw [w32_in (by omega) (by omega)]
  exact congrArg Sum.inl (Prod.ext (by show l3 + 6 = 6 * ((k + 1 : Nat) : Int); omega) rfl)
