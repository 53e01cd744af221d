/-! CHANGES of the road alone: the developers' last state X, the reference's last state Z -/
theorem zChgS {k : Nat} {D : Int → (Int → Int) → Int} {A A' : Int → Int} {σ X Z : mS} (h : zInv k D A σ) (hk : k ≤ 1000) (hW : zWF A') (hA : ∀ j, 188 ≤ j → j < 4994 → A' j = A j) (h186 : A' 186 = A 186)
    (gB : zB X) (gX2 : X.2 = σ.2) (gX : ∀ u, u ≠ 1 → ¬ (2 ≤ u ∧ u ≤ 12) → u ≠ 48 → u ≠ 58 → X.1 u = σ.1 u) (g9 : X.1 9 = σ.1 9) (g1 : ∀ i, X.1 1 i = if i = 14 then 0 else σ.1 1 i) (g58 : X.1 58 4 = 0) (hR : zRoad 2 A' X.1)
    (ha : ∀ p, 0 ≤ p → p < 64 → σ.1 48 p ≤ X.1 48 p ∧ X.1 48 p ≤ σ.1 48 p + 1 ∧ (X.1 48 p = σ.1 48 p → ∀ s i, zWd D A' s p i = zWd D A s p i))
    (zB' : zB Z) (z2 : Z.2 = X.2) (zX : ∀ u, u ≠ 68 → u ≠ 70 → Z.1 u = X.1 u) (z70 : Z.1 70 = A') (z68 : ∀ i, Z.1 68 i = if i = 1 then σ.1 68 1 + 1 else if i = 0 then 0 else σ.1 68 i) : zInv (k + 1) D A' Z := by
  have h0 := h
  obtain ⟨q1, q2, q3, q4, q5, q6⟩ := h
  refine zChg (D := D) (A := A) (σ := σ) (σ1 := X) h0 hk hW (fun t t0 t1 => zLm_cg (q3 t t0 (by rw [← h186]; exact t1)) hA) gB (by unfold zN; rw [gX2]; exact q1.2.1) ⟨by rw [gX2]; exact Int.le_refl _, by rw [gX2]; omega⟩ (by rw [gX2]; omega) (fun u _ => by rw [gX2]) (fun u hu => gX u (by omega) (by omega) (by omega) (by omega)) ?_ hR ?_ g58 ?_ zB' z2 (fun u hu => zX u (by omega) (by omega)) z70 (by rw [z68, if_pos rfl]) (by rw [z68, if_neg (by decide), if_neg (by decide)]) (by rw [zX 81 (by decide) (by decide)]; exact gX 81 (by decide) (by decide) (by decide) (by decide)) ?_
  · intro b hb t t0 t1 t2
    rcases hb with e | e | e <;> subst e
    · have e8 : X.1 2 8 = σ.1 2 8 := by rw [hR.2.2.2.2.1, h186]; exact q1.1.2.2.1.2.2.2.2.1.symm
      rw [e8] at t1
      show X.1 9 t = 0
      rw [g9]
      exact q5.1 2 (Or.inl rfl) t t0 t1 t2
    · rw [gX 14 (by decide) (by decide) (by decide) (by decide)] at t1
      rw [gX (14 + 7) (by decide) (by decide) (by decide) (by decide)]
      exact q5.1 14 (Or.inr (Or.inl rfl)) t t0 t1 t2
    · rw [gX 25 (by decide) (by decide) (by decide) (by decide)] at t1
      rw [gX (25 + 7) (by decide) (by decide) (by decide) (by decide)]
      exact q5.1 25 (Or.inr (Or.inr rfl)) t t0 t1 t2
  · intro t t0 t1
    rw [h186] at t1
    show zLaw X (X.1 9 t) (D t)
    rw [g9]
    have l' : zLaw σ (σ.1 9 t) (D t) := q1.1.2.2.2.1 t t0 t1
    have lo := l'.1.1
    exact zLaw_frame l' (by rw [gX2]; exact Int.le_refl _) (fun j a b => ⟨gX _ (by omega) (by omega) (by omega) (by omega), by rw [gX2]⟩)
  · intro p p0 p1
    have ak := q4.2.2.2.2.2.2.2.2.1 p p0 p1
    obtain ⟨x1, x2, x3⟩ := ha p p0 p1
    exact ⟨x1, by omega, x3⟩
  · refine zRs_acc q4 ?_ ?_ (fun u hu => ?_) (fun i hi => ?_) (fun i hi => ?_) (fun j j0 j1 => ?_) ?_
    · rw [zX 1 (by decide) (by decide), g1, if_pos rfl]
    · rw [z68, if_neg (by decide), if_pos rfl]
    · rw [zX u (by omega) (by omega)]; exact gX u (by omega) (by omega) (by omega) (by omega)
    · rw [zX 1 (by decide) (by decide), g1, if_neg (by omega)]
    · rw [z68, if_neg (by omega), if_neg (by omega)]
    · rw [zX 48 (by decide) (by decide)]; exact (ha j j0 j1).2.1
    · rw [z68, if_pos rfl]
/-- the developers' end of an accepted change: X out of Y -/
theorem zAcc_dev {σ Y : mS} (hB : zB Y) (y2 : Y.2 = σ.2) (yf : ∀ u, ¬ (2 ≤ u ∧ u ≤ 12) → u ≠ 48 → Y.1 u = σ.1 u) : zB (mup (mup Y.1 1 14 0) 58 4 0, Y.2) ∧ (∀ u, u ≠ 1 → ¬ (2 ≤ u ∧ u ≤ 12) → u ≠ 48 → u ≠ 58 → ((mup (mup Y.1 1 14 0) 58 4 0, Y.2) : mS).1 u = σ.1 u) ∧ (∀ i, ((mup (mup Y.1 1 14 0) 58 4 0, Y.2) : mS).1 1 i = if i = 14 then 0 else σ.1 1 i) ∧ ((mup (mup Y.1 1 14 0) 58 4 0, Y.2) : mS).1 58 4 = 0 ∧ ∀ u, u ≠ 1 → u ≠ 58 → ((mup (mup Y.1 1 14 0) 58 4 0, Y.2) : mS).1 u = Y.1 u := by
  have b1 := zB_mup (r := 1) (i := 14) (v := 0) hB (by decide +kernel)
  have b2 := zB_mup (r := 58) (i := 4) (v := 0) b1 (by decide +kernel)
  refine ⟨b2, fun u a b c d => ?_, fun i => ?_, ?_, fun u a d => ?_⟩
  · show mup (mup Y.1 1 14 0) 58 4 0 u = σ.1 u
    rw [mup_fun d, mup_fun a]; exact yf u b c
  · show mup (mup Y.1 1 14 0) 58 4 0 1 i = _
    rw [mup_cell (by decide), mup_if, yf 1 (by decide) (by decide)]
  · show mup (mup Y.1 1 14 0) 58 4 0 58 4 = 0
    exact mup_same
  · show mup (mup Y.1 1 14 0) 58 4 0 u = Y.1 u
    rw [mup_fun d, mup_fun a]
/-- the reference's end of an accepted change: Z out of Y (X with another cell 70) -/
theorem zAcc_ref {σ X Y : mS} (hB : zB Y) (y2 : Y.2 = X.2) (yf : ∀ u, u ≠ 70 → Y.1 u = X.1 u) (x68 : X.1 68 = σ.1 68) : zB (mup (mup Y.1 68 0 0) 68 1 (σ.1 68 1 + 1), Y.2) ∧ (∀ u, u ≠ 68 → u ≠ 70 → ((mup (mup Y.1 68 0 0) 68 1 (σ.1 68 1 + 1), Y.2) : mS).1 u = X.1 u) ∧ ((mup (mup Y.1 68 0 0) 68 1 (σ.1 68 1 + 1), Y.2) : mS).1 70 = Y.1 70 ∧ ∀ i, ((mup (mup Y.1 68 0 0) 68 1 (σ.1 68 1 + 1), Y.2) : mS).1 68 i = if i = 1 then σ.1 68 1 + 1 else if i = 0 then 0 else σ.1 68 i := by
  have b1 := zB_mup (r := 68) (i := 0) (v := 0) hB (by decide +kernel)
  have b2 := zB_mup (r := 68) (i := 1) (v := σ.1 68 1 + 1) b1 (by decide +kernel)
  refine ⟨b2, fun u a b => ?_, ?_, fun i => ?_⟩
  · show mup (mup Y.1 68 0 0) 68 1 (σ.1 68 1 + 1) u = X.1 u
    rw [mup_fun a, mup_fun a]; exact yf u b
  · show mup (mup Y.1 68 0 0) 68 1 (σ.1 68 1 + 1) 70 = Y.1 70
    rw [mup_fun (by decide), mup_fun (by decide)]
  · show mup (mup Y.1 68 0 0) 68 1 (σ.1 68 1 + 1) 68 i = _
    rw [mup_if, mup_if, yf 68 (by decide), x68]
