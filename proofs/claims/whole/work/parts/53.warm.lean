/-! WARMTH and PULL -/
def zWr (b : Int) (σ σ' : mS) : Prop := σ'.2 = σ.2 ∧ zB σ' ∧ ∀ r, r ≠ 49 → r ≠ 50 → r ≠ b + 1 → r ≠ b + 2 → σ'.1 r = σ.1 r
theorem zWr.rfl' {b : Int} {σ : mS} (h : zB σ) : zWr b σ σ := ⟨rfl, h, fun _ _ _ _ _ => rfl⟩
theorem zWr.trans {b : Int} {σ σ' σ'' : mS} (h : zWr b σ σ') (h' : zWr b σ' σ'') : zWr b σ σ'' := ⟨h'.1.trans h.1, h'.2.1, fun r a c d e => (h'.2.2 r a c d e).trans (h.2.2 r a c d e)⟩
theorem zHB_low {σ : mS} {b : Int} (h : zHB σ b) : 54 ≤ b ∧ (b = 54 ∨ 90 < b) := by rcases h.1 with e | e <;> omega
/-- blocks of four cells don't meet -/
theorem zHB_apart {σ : mS} {b b' j j' : Int} (h : zHB σ b) (h' : zHB σ b') (e : b + j = b' + j') (h1 : 0 ≤ j) (h2 : j ≤ 3) (h3 : 0 ≤ j') (h4 : j' ≤ 3) : b = b' := by
  rcases h.1 with e1 | e1 <;> rcases h'.1 with e2 | e2 <;> omega
theorem zAir_get {W : Int → Int → Int → Int} {σ : mS} {s : Int} (h : zAir W σ) (h0 : 0 ≤ s) (h1 : s < 24) (hn : σ.1 47 s ≠ 0) : zHA W σ (σ.1 47 s) s := by
  rcases h.2 s h0 h1 with e | e
  · exact absurd e hn
  · exact e
/-- the frame of what the air rests on -/
theorem zAir_frame {W : Int → Int → Int → Int} {σ σ' : mS} (h : zAir W σ) (e2 : σ'.2 = σ.2) (e47 : σ'.1 47 = σ.1 47) (e48 : σ'.1 48 = σ.1 48)
    (hb : ∀ s, 0 ≤ s → s < 24 → σ.1 47 s ≠ 0 → σ'.1 (σ.1 47 s) = σ.1 (σ.1 47 s) ∧ σ'.1 (σ.1 47 s + 3) = σ.1 (σ.1 47 s + 3) ∧ ∀ p, 0 ≤ p → p < 64 → σ.1 (σ.1 47 s + 3) p = σ.1 48 p → zcell W σ (σ.1 47 s) s p → zcell W σ' (σ.1 47 s) s p) : zAir W σ' := by
  refine ⟨by rw [e48]; exact h.1, ?_⟩
  intro s h0 h1
  rw [e47]
  by_cases hn : σ.1 47 s = 0
  · exact Or.inl hn
  · obtain ⟨hb1, hb2, hb3⟩ := zAir_get h h0 h1 hn
    obtain ⟨c1, c2, c3⟩ := hb s h0 h1 hn
    refine Or.inr ⟨?_, ?_, ?_⟩
    · unfold zHB at hb1 ⊢
      rw [e2, c1]
      exact hb1
    · rw [c1]; exact hb2
    · intro p p0 p1
      rw [c2, e48]
      exact ⟨(hb3 p p0 p1).1, fun e => c3 p p0 p1 e ((hb3 p p0 p1).2 e)⟩
/-- a right value may be kept -/
theorem zAir_w {W : Int → Int → Int → Int} {σ : mS} {s p i : Int} (h : zAir W σ) (s0 : 0 ≤ s) (s1 : s < 24) (hn : σ.1 47 s ≠ 0) (p0 : 0 ≤ p) (p1 : p < 64) (i0 : 0 ≤ i) (i1 : i < 32) : zAir W (mup σ.1 (σ.1 47 s + 1) (p * 32 + i) (W s p i), σ.2) := by
  have hh := zAir_get h s0 s1 hn
  have lo := zHB_low hh.1
  refine zAir_frame h rfl (mup_fun (by omega)) (mup_fun (by omega)) ?_
  intro u u0 u1 un
  have hu := zAir_get h u0 u1 un
  have apart : ∀ j, 0 ≤ j → j ≤ 3 → j ≠ 1 → σ.1 47 u + j ≠ σ.1 47 s + 1 := by
    intro j j0 j3 j1 e
    have := zHB_apart hu.1 hh.1 e j0 j3 (by decide) (by decide)
    omega
  have a0 := apart 0 (by decide) (by decide) (by decide)
  have a3 := apart 3 (by decide) (by decide) (by decide)
  have a2 := apart 2 (by decide) (by decide) (by decide)
  refine ⟨mup_fun (by omega), mup_fun a3, ?_⟩
  intro q q0 q1 _ hc k k0 k1
  have := hc k k0 k1
  show (mup σ.1 (σ.1 47 s + 1) (p * 32 + i) (W s p i) (σ.1 47 u + 1) (q * 32 + k) = _ ∨ mup σ.1 (σ.1 47 s + 1) (p * 32 + i) (W s p i) (σ.1 47 u + 1) (q * 32 + k) = _) ∧ (mup σ.1 (σ.1 47 s + 1) (p * 32 + i) (W s p i) (σ.1 47 u + 2) (q * 32 + k) = _ ∨ mup σ.1 (σ.1 47 s + 1) (p * 32 + i) (W s p i) (σ.1 47 u + 2) (q * 32 + k) = _)
  rw [mup_cell a2]
  refine ⟨?_, this.2⟩
  by_cases c : σ.1 47 u = σ.1 47 s
  · have us : u = s := by
      have e1 := hu.2.1
      have e2 := hh.2.1
      rw [c] at e1
      omega
    subst us
    by_cases c2 : q * 32 + k = p * 32 + i
    · have e1 : q = p := by omega
      have e2 : k = i := by omega
      subst e1; subst e2
      rw [mup_same]; exact Or.inr rfl
    · rw [mup_slot c2]; exact this.1
  · rw [mup_cell (by omega)]; exact this.1
theorem zAir_p {W : Int → Int → Int → Int} {σ : mS} {s p i : Int} (h : zAir W σ) (s0 : 0 ≤ s) (s1 : s < 24) (hn : σ.1 47 s ≠ 0) (p0 : 0 ≤ p) (p1 : p < 64) (i0 : 0 ≤ i) (i1 : i < 32) : zAir W (mup σ.1 (σ.1 47 s + 2) (p * 32 + i) (zpull (W s) p i), σ.2) := by
  have hh := zAir_get h s0 s1 hn
  have lo := zHB_low hh.1
  refine zAir_frame h rfl (mup_fun (by omega)) (mup_fun (by omega)) ?_
  intro u u0 u1 un
  have hu := zAir_get h u0 u1 un
  have apart : ∀ j, 0 ≤ j → j ≤ 3 → j ≠ 2 → σ.1 47 u + j ≠ σ.1 47 s + 2 := by
    intro j j0 j3 j1 e
    have := zHB_apart hu.1 hh.1 e j0 j3 (by decide) (by decide)
    omega
  have a0 := apart 0 (by decide) (by decide) (by decide)
  have a3 := apart 3 (by decide) (by decide) (by decide)
  have a1 := apart 1 (by decide) (by decide) (by decide)
  refine ⟨mup_fun (by omega), mup_fun a3, ?_⟩
  intro q q0 q1 _ hc k k0 k1
  have := hc k k0 k1
  show (mup σ.1 (σ.1 47 s + 2) (p * 32 + i) (zpull (W s) p i) (σ.1 47 u + 1) (q * 32 + k) = _ ∨ mup σ.1 (σ.1 47 s + 2) (p * 32 + i) (zpull (W s) p i) (σ.1 47 u + 1) (q * 32 + k) = _) ∧ (mup σ.1 (σ.1 47 s + 2) (p * 32 + i) (zpull (W s) p i) (σ.1 47 u + 2) (q * 32 + k) = _ ∨ mup σ.1 (σ.1 47 s + 2) (p * 32 + i) (zpull (W s) p i) (σ.1 47 u + 2) (q * 32 + k) = _)
  rw [mup_cell a1]
  refine ⟨this.1, ?_⟩
  by_cases c : σ.1 47 u = σ.1 47 s
  · have us : u = s := by
      have e1 := hu.2.1
      have e2 := hh.2.1
      rw [c] at e1
      omega
    subst us
    by_cases c2 : q * 32 + k = p * 32 + i
    · have e1 : q = p := by omega
      have e2 : k = i := by omega
      subst e1; subst e2
      rw [mup_same]; exact Or.inr rfl
    · rw [mup_slot c2]; exact this.2
  · rw [mup_cell (by omega)]; exact this.2
theorem zLaw_frame {σ σ' : mS} {b : Int} {d : (Int → Int) → Int} (h : zLaw σ b d) (hn : σ.2.2.1 ≤ σ'.2.2.1) (hc : ∀ j, 0 ≤ j → j ≤ 3 → σ'.1 (b + j) = σ.1 (b + j) ∧ σ'.2.1 (b + j) = σ.2.1 (b + j)) : zLaw σ' b d := by
  obtain ⟨h1, h2, h3, h4⟩ := h
  have c0 := hc 0 (by decide) (by decide)
  rw [Int.add_zero] at c0
  refine ⟨⟨h1.1, h1.2.1, by omega, by rw [c0.2]; exact h1.2.2.2.1, by rw [c0.1]; exact h1.2.2.2.2⟩, h2, by rw [c0.1]; exact h3, ?_⟩
  intro t tB tc
  exact h4 t tB (fun j j0 j3 => ⟨(tc j j0 j3).1.trans (hc j j0 j3).1, (tc j j0 j3).2.trans (hc j j0 j3).2⟩)
/-- laws stay where the air's cells alone are written -/
theorem zLaws_wr {σ σ' : mS} {b rb : Int} {A : Int → Int} {D : Int → (Int → Int) → Int} (h : zLaws σ rb A D) (hr : 0 ≤ rb ∧ rb ≤ 25) (hh : zHB σ b) (hw : zWr b σ σ') : zLaws σ' rb A D := by
  intro t t0 t1
  have lo := zHB_low hh
  have e : σ'.1 (rb + 7) = σ.1 (rb + 7) := hw.2.2 _ (by omega) (by omega) (by omega) (by omega)
  rw [e]
  have hl := h t t0 t1
  refine zLaw_frame hl (by rw [hw.1]; exact Int.le_refl _) ?_
  intro j j0 j3
  refine ⟨hw.2.2 _ ?_ ?_ ?_ ?_, by rw [hw.1]⟩
  · have := hl.1.1; omega
  · have := hl.1.1; omega
  · intro e
    rcases hh.1 with e1 | e1
    · have := hl.1.1; omega
    · have a := hl.1.1
      have c := hl.1.2.1
      have eq : σ.1 (rb + 7) t = b := by omega
      have k := hl.1.2.2.2.1
      rw [eq, hh.2.2.1] at k
      exact absurd k (by decide)
  · intro e
    rcases hh.1 with e1 | e1
    · have := hl.1.1; omega
    · have a := hl.1.1
      have c := hl.1.2.1
      have eq : σ.1 (rb + 7) t = b := by omega
      have k := hl.1.2.2.2.1
      rw [eq, hh.2.2.1] at k
      exact absurd k (by decide)
