noncomputable section
/-- rays that tremble: the seed with which the i-th begins -/
def ztS (D : Int → (Int → Int) → Int) (A : Int → Int) (a t seed : Int) : Nat → Int
  | 0 => seed
  | i + 1 => zd (zSn D A (A 180) (A 181) (A 183) a t (ztS D A a t seed i) 0) (zK (zSn D A (A 180) (A 181) (A 183) a t (ztS D A a t seed i) 0))
def ztR (D : Int → (Int → Int) → Int) (A : Int → Int) (a t seed : Int) (i : Nat) : zSc := zSn D A (A 180) (A 181) (A 183) a t (ztS D A a t seed i) 0
def ztG (D : Int → (Int → Int) → Int) (A : Int → Int) (a t seed : Int) : Nat → Int → Int := fun i x => if zwh (ztR D A a t seed i) = zwh (zS0 D A a) ∧ zth (ztR D A a t seed i) = zth (zS0 D A a) then x + 1 else x
theorem ztS_bd {D : Int → (Int → Int) → Int} {A : Int → Int} {a t seed : Int} (hW : zWF A) (hb : ∀ s p i, -50 ≤ zWd D A s p i ∧ zWd D A s p i ≤ 99) (ha : -500 ≤ a ∧ a ≤ 500) (ht : 0 ≤ t ∧ t ≤ 50) (hs : 0 ≤ seed ∧ seed ≤ 1000000) : ∀ i : Nat, (0 ≤ ztS D A a t seed i ∧ ztS D A a t seed i ≤ 1000002) ∧ zSok (ztR D A a t seed i) := by
  have tm := hW.2.2.2.2.1
  have ok : ∀ sd, 0 ≤ sd ∧ sd ≤ 1000002 → zSok (zSn D A (A 180) (A 181) (A 183) a t sd 0) := fun sd h => ⟨hW, fun p i => hb (A 180) p i, tm.2.1, tm.2.2.1, tm.2.2.2, ha, ht, h⟩
  intro i
  induction i with
  | zero =>
    have h : 0 ≤ seed ∧ seed ≤ 1000002 := by omega
    exact ⟨h, ok seed h⟩
  | succ i ih =>
    have h := zd_bd ih.2 (zK (ztR D A a t seed i))
    exact ⟨h, ok _ h⟩
/-- cells 65 and 66 are written -/
theorem zQL.tr {D : Int → (Int → Int) → Int} {A : Int → Int} {s bend eh t pa : Int} {σ σ' : mS} (h : zQL D A s bend eh t pa σ) (e2 : σ'.2 = σ.2) (hf : ∀ r, r ≠ 65 → r ≠ 66 → σ'.1 r = σ.1 r) : zQL D A s bend eh t pa σ' := by
  obtain ⟨⟨⟨hB, hW, hR, hL, hA⟩, hN, hF⟩, hl, hb⟩ := h
  have hB' : zB σ' := zB_core hB (fun r _ => by rw [e2]) (fun r hr => hf r (fun e => by rw [e] at hr; exact absurd hr (by decide)) (fun e => by rw [e] at hr; exact absurd hr (by decide)))
  have hL' : zLaws σ' 2 A D := by
    intro u u0 u1
    rw [hf (2 + 7) (by decide) (by decide)]
    have q := hL u u0 u1
    exact zLaw_frame q (by rw [e2]; exact Int.le_refl _) (fun j a b => ⟨hf _ (by have := q.1.1; omega) (by have := q.1.1; omega), by rw [e2]⟩)
  have hA' : zAir (zWd D A) σ' := by
    refine zAir_frame hA e2 (hf 47 (by decide) (by decide)) (hf 48 (by decide) (by decide)) ?_
    intro u u0 u1 un
    have hu := zAir_get hA u0 u1 un
    have lo' := zHB_low hu.1
    refine ⟨hf _ (by omega) (by omega), hf _ (by omega) (by omega), ?_⟩
    intro q _ _ _ hc k k0 k1
    rw [hf _ (by omega) (by omega), hf _ (by omega) (by omega)]
    exact hc k k0 k1
  refine ⟨⟨⟨hB', hW, zRoad_frame hR (fun r a b => hf r (by omega) (by omega)), hL', hA'⟩, ?_, zFd_frame hF (fun r a b => hf r (by omega) (by omega)) (fun s _ => by rw [hf 47 (by decide) (by decide)])⟩, ?_, hb⟩
  · unfold zN; rw [e2]; exact hN
  · obtain ⟨b1, b2, b3, b4, b5, b6, b7, b8, b9⟩ := hl
    have hh1 := zAir_get hA b1.1 b1.2 b2
    have lo1 := zHB_low hh1.1
    have f51 := hf 51 (by decide) (by decide)
    have f47 := hf 47 (by decide) (by decide)
    have f48 := hf 48 (by decide) (by decide)
    exact ⟨b1, by rw [f47]; exact b2, by rw [f51, f47]; exact b3, by rw [f47, f48, hf _ (by omega) (by omega)]; exact b4, by rw [f51]; exact b5, by rw [f51]; exact b6, by rw [f51]; exact b7, by rw [f51]; exact b8, by rw [f51]; exact b9⟩
end
