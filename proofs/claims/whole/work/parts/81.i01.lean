/-! ALL THAT HOLDS BETWEEN CALLS -/
/-- what is beside the road: status, refusals, worn, fault, tape, trembled rays; k calls so far -/
def zRs (k : Nat) (σ : mS) : Prop := σ.1 1 14 = σ.1 68 0 ∧ (∀ j, 0 ≤ j → j < 7 → σ.1 67 j = σ.1 69 j ∧ 0 ≤ σ.1 69 j ∧ σ.1 69 j ≤ (k : Int)) ∧
  σ.1 1 12 = σ.1 68 6 ∧ σ.1 1 13 = σ.1 68 11 ∧ (σ.1 37 1 = σ.1 68 10 ∧ 0 ≤ σ.1 68 10 ∧ σ.1 68 10 ≤ 400) ∧ (∀ j, 0 ≤ j → j < 400 → σ.1 74 j = w8 (σ.1 38 j) ∧ 0 ≤ σ.1 38 j ∧ σ.1 38 j < 256) ∧
  (σ.1 1 11 = σ.1 68 43 ∧ 0 ≤ σ.1 68 43 ∧ σ.1 68 43 ≤ 40) ∧ (∀ j, 0 ≤ j → j < σ.1 68 43 → σ.1 65 j = σ.1 89 j ∧ σ.1 66 j = σ.1 90 j) ∧
  (∀ p, 0 ≤ p → p < 64 → σ.1 48 p ≤ 1 + (k : Int)) ∧ σ.1 68 1 ≤ (k : Int)
/-- behind the last law of a road nothing lies -/
def zL0 (σ : mS) : Prop := ∀ b, b = 2 ∨ b = 14 ∨ b = 25 → ∀ t, 0 ≤ t → σ.1 b 8 ≤ t → t < 6 → σ.1 (b + 7) t = 0
theorem zL0_fr {σ σ' : mS} (h : zL0 σ) (hf : ∀ r, r = 2 ∨ r = 9 ∨ 14 ≤ r ∧ r ≤ 36 → σ'.1 r = σ.1 r) : zL0 σ' := by
  intro b hb t t0 t1 t2
  rw [hf b (by omega)] at t1
  rw [hf (b + 7) (by omega)]
  exact h b hb t t0 t1 t2
/-- images: both programs hold the same -/
def zIm (σ : mS) : Prop := zL0 σ ∧ ∀ i, 0 ≤ i → i < 2 → (σ.1 36 i = σ.1 72 i ∧ (σ.1 72 i = 0 ∨ σ.1 72 i = 1)) ∧ (σ.1 72 i = 1 → ∃ (D : Int → (Int → Int) → Int) (A : Int → Int), zWF A ∧ (∀ j, 0 ≤ j → j < 4994 → σ.1 71 (4994 * i + j) = A j) ∧ zRoad (14 + 11 * i) A σ.1 ∧ zLaws σ (14 + 11 * i) A D ∧ ∀ t, 0 ≤ t → t < A 186 → zLm A t (D t))
/-- how much room is used -/
def zCn (k : Nat) (σ : mS) : Prop := σ.2.2.1 - 4 * zPh (σ.1 47) 24 ≤ 90 + 4 * (k : Int) ∧ σ.2.2.2 - 4164 * zPh (σ.1 47) 24 ≤ 1000000 + 500 * (k : Int)
def zInv (k : Nat) (D : Int → (Int → Int) → Int) (A : Int → Int) (σ : mS) : Prop := zQ D A σ ∧ zMQ D A σ ∧ (∀ t, 0 ≤ t → t < A 186 → zLm A t (D t)) ∧ zRs k σ ∧ zIm σ ∧ zCn k σ
theorem zInv_up {k : Nat} {D : Int → (Int → Int) → Int} {A : Int → Int} {σ : mS} (h : zInv k D A σ) : zInv (k + 1) D A σ := by
  obtain ⟨h1, h2, h3, ⟨r1, r2, r3, r4, r5, r6, r7, r8, r9, r10⟩, h5, h6⟩ := h
  exact ⟨h1, h2, h3, ⟨r1, fun j a b => ⟨(r2 j a b).1, (r2 j a b).2.1, by have := (r2 j a b).2.2; omega⟩, r3, r4, r5, r6, r7, r8, fun p a b => by have := r9 p a b; omega, by omega⟩, h5, ⟨by have := h6.1; omega, by have := h6.2; omega⟩⟩
/-- what the reference writes does not touch the developers' program -/
theorem zQ_fr {D : Int → (Int → Int) → Int} {A : Int → Int} {σ σ' : mS} (h : zQ D A σ) (e2 : σ'.2 = σ.2) (hB' : zB σ') (hf : ∀ r, 2 ≤ r ∧ r ≤ 12 ∨ r = 47 ∨ r = 48 ∨ 54 ≤ r ∧ r ≤ 61 ∨ 90 < r → σ'.1 r = σ.1 r) : zQ D A σ' := by
  obtain ⟨⟨hB, hW, hR, hL, hA⟩, hN, hF⟩ := h
  have hL' : zLaws σ' 2 A D := by
    intro u u0 u1
    rw [hf (2 + 7) (by decide)]
    have q := hL u u0 u1
    exact zLaw_frame q (by rw [e2]; exact Int.le_refl _) (fun j a b => ⟨hf _ (by have := q.1.1; omega), by rw [e2]⟩)
  have hA' : zAir (zWd D A) σ' := by
    refine zAir_frame hA e2 (hf 47 (by decide)) (hf 48 (by decide)) ?_
    intro u u0 u1 un
    have hu := zAir_get hA u0 u1 un
    have lo' := zHB_low hu.1
    refine ⟨hf _ (by omega), hf _ (by omega), ?_⟩
    intro q _ _ _ hc k k0 k1
    rw [hf _ (by omega), hf _ (by omega)]
    exact hc k k0 k1
  refine ⟨⟨hB', hW, zRoad_frame hR (fun r a b => hf r (by omega)), hL', hA'⟩, ?_, zFd_frame hF (fun r a b => hf r (by omega)) (fun s _ => by rw [hf 47 (by decide)])⟩
  unfold zN; rw [e2]; exact hN
/-- what the developers' program writes does not touch the reference -/
theorem zMQ_fr {D : Int → (Int → Int) → Int} {A : Int → Int} {σ σ' : mS} (h : zMQ D A σ) (hB' : zB σ') (hf : ∀ r, r = 68 ∨ r = 70 ∨ r = 80 ∨ r = 81 → σ'.1 r = σ.1 r) : zMQ D A σ' := by
  obtain ⟨hB, hW, hb, hA, hM, hv, hc⟩ := h
  have f68 := hf 68 (by decide)
  exact ⟨hB', hW, hb, by rw [hf 70 (by decide)]; exact hA, hM, by rw [f68]; exact hv, by rw [f68, hf 80 (by decide), hf 81 (by decide)]; exact hc⟩
theorem zIm_fr {σ σ' : mS} (h : zIm σ) (hl0 : zL0 σ') (hf : ∀ r, 14 ≤ r ∧ r ≤ 36 ∨ r = 71 ∨ r = 72 → σ'.1 r = σ.1 r) (hl : ∀ b, 90 < b → (b - 91) % 4 = 0 → σ.2.1 b = (4, 4) → b + 3 ≤ σ.2.2.1 → ∀ j, 0 ≤ j → j ≤ 3 → σ'.1 (b + j) = σ.1 (b + j)) (hk : ∀ r, r ≤ σ.2.2.1 → σ'.2.1 r = σ.2.1 r) (hc : σ.2.2.1 ≤ σ'.2.2.1) : zIm σ' := by
  refine ⟨hl0, fun i i0 i1 => ?_⟩
  obtain ⟨h1, h2⟩ := h.2 i i0 i1
  rw [hf 36 (by decide), hf 72 (by decide)]
  refine ⟨h1, fun e => ?_⟩
  obtain ⟨D, A, a1, a2, a3, a4, a5⟩ := h2 e
  refine ⟨D, A, a1, fun j j0 j1 => by rw [hf 71 (by decide)]; exact a2 j j0 j1, zRoad_frame a3 (fun r a b => hf r (by omega)), ?_, a5⟩
  intro t t0 t1
  rw [hf (14 + 11 * i + 7) (by omega)]
  have q := a4 t t0 t1
  have q1 := q.1
  exact zLaw_frame q hc (fun j a b => ⟨hl _ q1.1 q1.2.1 q1.2.2.2.1 q1.2.2.1 j a b, hk _ (by have := q1.2.2.1; omega)⟩)
/-- a question leaves all as it is -/
theorem zInv_q {k : Nat} {D : Int → (Int → Int) → Int} {A : Int → Int} {σ σ1 σ2 : mS} (h : zInv k D A σ) (q1 : zQ D A σ1) (k1 : zKc σ σ1) (q2 : zMQ D A σ2) (k2 : zKm σ1 σ2) : zInv k D A σ2 := by
  obtain ⟨h1, h2, h3, ⟨r1, r2, r3, r4, r5, r6, r7, r8, r9, r10⟩, h5, h6⟩ := h
  have f : ∀ r, r ≤ 46 ∨ r = 48 ∨ r = 65 ∨ r = 66 ∨ r = 67 ∨ 69 ≤ r ∧ r ≤ 78 ∨ r = 89 ∨ r = 90 → σ2.1 r = σ.1 r := fun r hr => (k2.2.2.1 r (by omega)).trans (k1.2.1 r (by omega))
  have f47 : σ2.1 47 = σ1.1 47 := k2.2.2.1 47 (by decide)
  have g : ∀ i, i ≤ 18 ∨ i = 22 ∨ i = 23 ∨ i = 24 ∨ i = 26 ∨ 35 ≤ i → σ2.1 68 i = σ.1 68 i := fun i hi => by rw [k2.2.2.2 i hi, k1.2.1 68 (by decide)]
  refine ⟨zQ_fr q1 k2.1 k2.2.1 (fun r hr => k2.2.2.1 r (by omega)), q2, h3, ?_, ?_, ?_⟩
  · refine ⟨?_, ?_, ?_, ?_, ?_, ?_, ?_, ?_, ?_, ?_⟩
    · rw [f 1 (by decide), g 0 (by decide)]; exact r1
    · rw [f 67 (by decide), f 69 (by decide)]; exact r2
    · rw [f 1 (by decide), g 6 (by decide)]; exact r3
    · rw [f 1 (by decide), g 11 (by decide)]; exact r4
    · rw [f 37 (by decide), g 10 (by decide)]; exact r5
    · rw [f 74 (by decide), f 38 (by decide)]; exact r6
    · rw [f 1 (by decide), g 43 (by decide)]; exact r7
    · rw [f 65 (by decide), f 66 (by decide), f 89 (by decide), f 90 (by decide), g 43 (by decide)]; exact r8
    · rw [f 48 (by decide)]; exact r9
    · rw [g 1 (by decide)]; exact r10
  · have m1 : zIm σ1 := zIm_fr h5 (zL0_fr h5.1 (fun r hr => k1.2.1 r (by omega))) (fun r hr => k1.2.1 r (by omega)) k1.2.2.1 k1.2.2.2.1 k1.2.2.2.2.1
    exact zIm_fr m1 (zL0_fr m1.1 (fun r hr => k2.2.2.1 r (by omega))) (fun r hr => k2.2.2.1 r (by omega)) (fun b b0 _ _ _ j j0 j1 => k2.2.2.1 _ (by omega)) (fun r _ => by rw [k2.1]) (by rw [k2.1]; exact Int.le_refl _)
  · have c1 := k1.2.2.2.2.2.1
    have c2 := k1.2.2.2.2.2.2
    unfold zCn
    rw [f47, k2.1]
    exact ⟨by have := h6.1; omega, by have := h6.2; omega⟩
/-- a question of both: the same answer, and all holds -/
theorem zAsk {k : Nat} {D : Int → (Int → Int) → Int} {A : Int → Int} {σ : mS} {a : Int} {F G : mS → Option (Int × mS)} (h : zInv k D A σ) (hF : wpo (F σ) (fun q => zQ D A q.2 ∧ zKc σ q.2 ∧ q.1 = a)) (hG : ∀ σ1, zMQ D A σ1 → wpo (G σ1) (fun q => zMQ D A q.2 ∧ zKm σ1 q.2 ∧ q.1 = a)) :
    wpo (F σ) (fun q => wpo (G q.2) (fun z => z.1 = q.1 ∧ zInv k D A z.2)) := by
  refine wpo_mono hF ?_
  intro q ⟨q1, q2, q3⟩
  have m1 : zMQ D A q.2 := zMQ_fr h.2.1 q2.1 (fun r hr => q2.2.1 r (by omega))
  refine wpo_mono (hG q.2 m1) ?_
  intro z ⟨z1, z2, z3⟩
  exact ⟨by rw [z3, q3], zInv_q h q1 q2 z1 z2⟩
