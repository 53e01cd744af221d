/-! BEHIND BOTH CONSTRUCTORS what holds between calls holds -/
def zA0 : Int → Int := fun i => zlk zV23 70 i
theorem zA0_n : ∀ m : Nat, m < 188 → zlk zV23 70 (m : Int) = if m = 180 then 12 else if m = 181 then 1 else if m = 183 then 16 else if m = 187 then -1 else 0 := by decide +kernel
theorem zA0_i {i : Int} (h0 : 0 ≤ i) (h1 : i < 180) : zA0 i = 0 := by
  have h := zA0_n i.toNat (by omega)
  rw [Int.toNat_of_nonneg h0, if_neg (by omega), if_neg (by omega), if_neg (by omega), if_neg (by omega)] at h
  exact h
theorem zA0_180 : zA0 180 = 12 := by decide +kernel
theorem zA0_181 : zA0 181 = 1 := by decide +kernel
theorem zA0_182 : zA0 182 = 0 := by decide +kernel
theorem zA0_183 : zA0 183 = 16 := by decide +kernel
theorem zA0_184 : zA0 184 = 0 := by decide +kernel
theorem zA0_185 : zA0 185 = 0 := by decide +kernel
theorem zA0_186 : zA0 186 = 0 := by decide +kernel
theorem zA0_187 : zA0 187 = -1 := by decide +kernel
theorem zA0_W : zWF zA0 := by
  refine ⟨fun p p0 p1 => ?_, ?_, fun t t0 t1 => ?_, fun t u t0 t1 => ?_, ?_, ?_, fun j j0 j1 => ?_, ?_, ?_⟩
  · rw [zA0_i p0 (by omega), zA0_i (i := 64 + p) (by omega) (by omega)]; decide
  · rw [zA0_184]; decide
  · rw [zA0_184] at t1; omega
  · rw [zA0_184] at t1; omega
  · rw [zA0_180, zA0_181, zA0_182, zA0_183]; decide
  · rw [zA0_185]; decide
  · rw [zA0_185] at j1; omega
  · rw [zA0_186]; decide
  · rw [zA0_186, zA0_187]; decide
theorem zA0_d {D : Int → (Int → Int) → Int} {s p i : Int} : zWd D zA0 s p i = 10 := by
  unfold zWd
  rw [zA0_187, if_pos (by decide)]
theorem zF_48 : ∀ m : Nat, m < 64 → zlk zV23 48 (m : Int) = 1 := by decide +kernel
theorem zF_52 : ∀ m : Nat, m < 64 → zlk zV23 52 (m : Int) = -1 := by decide +kernel
theorem zF_47 : ∀ m : Nat, m < 24 → zlk zV23 47 (m : Int) = if m = 0 then 54 else 0 := by decide +kernel
theorem zF_5 : ∀ m : Nat, m < 64 → zlk zV23 5 (m : Int) = -1 := by decide +kernel
theorem zF_8 : ∀ m : Nat, m < 4 → zlk zV23 8 (m : Int) = zlk zV23 70 (180 + (m : Int)) := by decide +kernel
theorem zF_73 : ∀ n : Nat, n < 53 → zlk zV23 73 (n : Int) = zwl.getD n 0 := by decide +kernel
theorem zF_ref : ∀ q ∈ zrefl, (1 ≤ q.1 ∧ q.1 ≤ 90 ∧ (q.1 < 55 ∨ 57 < q.1)) ∧ zlk zV23 q.1 q.2.1 = q.2.2 := by decide +kernel
theorem zF_no {r i : Int} (h : (zV23.all fun e => decide (e.1 ≠ r)) = true) : zlk zV23 r i = 0 := zlk_nm (fun e he => of_decide_eq_true (List.all_eq_true.mp h e he))
theorem i_inv {σ0 σ : mS} (g : zFT σ0) (g3 : σ0.2.1 (-3) = (100, 4) ∧ σ0.1 (-3) 0 = 23 ∧ σ0.1 (-3) 1 = 9 ∧ σ0.1 (-3) 2 = 63 ∧ σ0.1 (-3) 3 = 31) (gs : ∀ n : Nat, n < 11 → σ0.2.1 (-10 - (n : Int)) = (300, ((zstr.getD n []).length : Int)) ∧ ∀ j : Nat, j < (zstr.getD n []).length → σ0.1 (-10 - (n : Int)) (j : Int) = (zstr.getD n []).getD j 0) (h : zRp σ0 zX1 90 zV23 74847 σ) : zInv 0 (fun _ _ => 10) zA0 σ := by
  have v : ∀ r i, 1 ≤ r → r ≤ 90 → (r < 55 ∨ 57 < r) → σ.1 r i = zlk zV23 r i := fun r i a b c => rp_v h (by omega) b c
  have o := h.2.2.1
  have hc : σ.2.2.1 = 90 := h.1
  have v48 : ∀ p, 0 ≤ p → p < 64 → σ.1 48 p = 1 := fun p p0 p1 => by
    have k := zF_48 p.toNat (by omega)
    rw [Int.toNat_of_nonneg p0] at k
    rw [v 48 p (by decide) (by decide) (by decide), k]
  have v57 : ∀ p, 0 ≤ p → p < 64 → σ.1 57 p = 1 := fun p p0 p1 => by
    rw [h.2.2.2.2.1 57 p (by decide) (by decide), zF_no (by decide +kernel)]
    unfold zX1
    rw [if_neg (by omega), if_pos (by omega)]; rfl
  have v55 : ∀ i, 0 ≤ i → i < 2048 → σ.1 55 i = -1000000 := fun i i0 i1 => by
    rw [h.2.2.2.2.1 55 i (by decide) (by decide), zF_no (by decide +kernel)]
    unfold zX1
    rw [if_pos ⟨Or.inl rfl, i0, i1⟩]; rfl
  have v56 : ∀ i, 0 ≤ i → i < 2048 → σ.1 56 i = -1000000 := fun i i0 i1 => by
    rw [h.2.2.2.2.1 56 i (by decide) (by decide), zF_no (by decide +kernel)]
    unfold zX1
    rw [if_pos ⟨Or.inr rfl, i0, i1⟩]; rfl
  have z : ∀ r i, 1 ≤ r → r ≤ 90 → (r < 55 ∨ 57 < r) → (zV23.all fun e => decide (e.1 ≠ r)) = true → σ.1 r i = 0 := fun r i a b c d => by rw [v r i a b c, zF_no d]
  have hB : zB σ := by
    refine ⟨fun n hn => h.2.2.2.1 n hn, fun q hq => ?_, fun i i0 i1 => ?_, fun n hn => ?_, ?_, ?_, fun n hn => ?_⟩
    · obtain ⟨⟨a, b, c⟩, d⟩ := zF_ref q hq
      rw [v q.1 q.2.1 a b c, d]
    · have k := zF_52 i.toNat (by omega)
      rw [Int.toNat_of_nonneg i0] at k
      rw [v 52 i (by decide) (by decide) (by decide), k]
    · rw [v 73 n (by decide) (by decide) (by decide), zF_73 n hn]
    · rw [(o (-2) (by decide)).1, (o (-2) (by decide)).2]; exact g
    · rw [(o (-3) (by decide)).1, (o (-3) (by decide)).2]; exact g3
    · rw [(o (-10 - (n : Int)) (by omega)).1, (o (-10 - (n : Int)) (by omega)).2]; exact gs n hn
  have hA : σ.1 70 = zA0 := by
    funext i
    rw [v 70 i (by decide) (by decide) (by decide)]; rfl
  have hRd : zRoad 2 zA0 σ.1 := by
    refine ⟨fun p p0 p1 => ⟨?_, ?_, ?_⟩, fun t t0 t1 => ⟨?_, ?_⟩, ?_, fun j j0 j1 => ?_, ?_, ?_, fun j j0 j1 => ⟨?_, ?_, ?_⟩, ?_⟩
    · show σ.1 3 p = _
      rw [z 3 p (by decide) (by decide) (by decide) (by decide +kernel), zA0_i p0 (by omega)]
    · show σ.1 4 p = _
      rw [z 4 p (by decide) (by decide) (by decide) (by decide +kernel), zA0_i (by omega) (by omega)]
    · show σ.1 5 p = _
      have k := zF_5 p.toNat (by omega)
      rw [Int.toNat_of_nonneg p0] at k
      rw [v 5 p (by decide) (by decide) (by decide), k, ztA_eq_none (fun u u0 u1 => by rw [zA0_184] at u1; omega)]
    · show σ.1 6 t = _
      rw [z 6 t (by decide) (by decide) (by decide) (by decide +kernel), zA0_i (by omega) (by omega)]
    · show σ.1 7 t = _
      rw [z 7 t (by decide) (by decide) (by decide) (by decide +kernel), zA0_i (by omega) (by omega)]
    · rw [v 2 5 (by decide) (by decide) (by decide), zA0_184]; decide +kernel
    · show σ.1 8 j = _
      have k := zF_8 j.toNat (by omega)
      rw [Int.toNat_of_nonneg j0] at k
      rw [v 8 j (by decide) (by decide) (by decide), k]; rfl
    · rw [v 2 8 (by decide) (by decide) (by decide), zA0_186]; decide +kernel
    · rw [v 2 9 (by decide) (by decide) (by decide), zA0_187]; decide +kernel
    · show σ.1 10 j = _
      rw [z 10 j (by decide) (by decide) (by decide) (by decide +kernel), zA0_i (by omega) (by omega)]
    · show σ.1 11 j = _
      rw [z 11 j (by decide) (by decide) (by decide) (by decide +kernel), zA0_i (by omega) (by omega)]
    · show σ.1 12 j = _
      rw [z 12 j (by decide) (by decide) (by decide) (by decide +kernel), zA0_i (by omega) (by omega)]
    · rw [v 2 13 (by decide) (by decide) (by decide), zA0_185]; decide +kernel
  have hAir : zAir (zWd (fun _ _ => 10) zA0) σ := by
    refine ⟨fun p p0 p1 => by rw [v48 p p0 p1]; decide, fun s s0 s1 => ?_⟩
    have k := zF_47 s.toNat (by omega)
    rw [Int.toNat_of_nonneg s0] at k
    by_cases c : s = 0
    · subst c
      have e : σ.1 47 0 = 54 := by rw [v 47 0 (by decide) (by decide) (by decide)]; decide +kernel
      refine Or.inr ?_
      rw [e]
      refine ⟨⟨Or.inl rfl, by rw [hc]; decide, rp_k h (by decide) (by decide), rp_k h (by decide) (by decide), rp_k h (by decide) (by decide), rp_k h (by decide) (by decide), ?_, ?_, ?_⟩, ?_, fun p p0 p1 => ⟨?_, fun _ i i0 i1 => ⟨Or.inl ?_, Or.inl ?_⟩⟩⟩
      · rw [v 54 1 (by decide) (by decide) (by decide)]; decide +kernel
      · rw [v 54 2 (by decide) (by decide) (by decide)]; decide +kernel
      · rw [v 54 3 (by decide) (by decide) (by decide)]; decide +kernel
      · rw [v 54 0 (by decide) (by decide) (by decide)]; decide +kernel
      · show σ.1 57 p ≤ _
        rw [v57 p p0 p1, v48 p p0 p1]; decide
      · show σ.1 55 (p * 32 + i) = _
        exact v55 _ (by omega) (by omega)
      · show σ.1 56 (p * 32 + i) = _
        exact v56 _ (by omega) (by omega)
    · rw [if_neg (by omega)] at k
      exact Or.inl (by rw [v 47 s (by decide) (by decide) (by decide), k])
  have hL : zLaws σ 2 zA0 (fun _ _ => 10) := fun t t0 t1 => by rw [zA0_186] at t1; omega
  have hLm : ∀ t, 0 ≤ t → t < zA0 186 → zLm zA0 t ((fun _ _ => 10 : Int → (Int → Int) → Int) t) := fun t t0 t1 => by rw [zA0_186] at t1; omega
  have v1 : σ.1 68 1 = 0 := by rw [v 68 1 (by decide) (by decide) (by decide)]; decide +kernel
  have v43 : σ.1 68 43 = 0 := by rw [v 68 43 (by decide) (by decide) (by decide)]; decide +kernel
  have v10 : σ.1 68 10 = 0 := by rw [v 68 10 (by decide) (by decide) (by decide)]; decide +kernel
  refine ⟨⟨⟨hB, zA0_W, hRd, hL, hAir⟩, ⟨by rw [hc]; decide, by rw [hc]; decide⟩, Or.inl ?_⟩, ⟨hB, zA0_W, fun s p i => by rw [zA0_d]; decide, hA, zML_of zA0_W hLm, ⟨by rw [v1]; decide, Or.inl ?_⟩⟩, hLm, ⟨?_, fun j j0 j1 => ?_, ?_, ?_, ⟨?_, by rw [v10]; decide, by rw [v10]; decide⟩, fun j j0 j1 => ?_, ⟨?_, by rw [v43]; decide, by rw [v43]; decide⟩, fun j j0 j1 => by rw [v43] at j1; omega, fun p p0 p1 => by rw [v48 p p0 p1]; decide, by rw [v1]; decide⟩, ⟨?_, fun i i0 i1 => ?_⟩, ?_⟩
  · rw [v 58 4 (by decide) (by decide) (by decide)]; decide +kernel
  · rw [v 68 25 (by decide) (by decide) (by decide)]; decide +kernel
  · rw [v 1 14 (by decide) (by decide) (by decide), v 68 0 (by decide) (by decide) (by decide)]; decide +kernel
  · rw [z 67 j (by decide) (by decide) (by decide) (by decide +kernel), z 69 j (by decide) (by decide) (by decide) (by decide +kernel)]; decide
  · rw [v 1 12 (by decide) (by decide) (by decide), v 68 6 (by decide) (by decide) (by decide)]; decide +kernel
  · rw [v 1 13 (by decide) (by decide) (by decide), v 68 11 (by decide) (by decide) (by decide)]; decide +kernel
  · rw [v10, v 37 1 (by decide) (by decide) (by decide)]; decide +kernel
  · rw [z 74 j (by decide) (by decide) (by decide) (by decide +kernel), z 38 j (by decide) (by decide) (by decide) (by decide +kernel)]; decide
  · rw [v43, v 1 11 (by decide) (by decide) (by decide)]; decide +kernel
  · intro b hb t t0 t1 t2
    rcases hb with e | e | e <;> subst e
    · show σ.1 9 t = 0
      exact z 9 t (by decide) (by decide) (by decide) (by decide +kernel)
    · show σ.1 21 t = 0
      exact z 21 t (by decide) (by decide) (by decide) (by decide +kernel)
    · show σ.1 32 t = 0
      exact z 32 t (by decide) (by decide) (by decide) (by decide +kernel)
  · have e36 := z 36 i (by decide) (by decide) (by decide) (by decide +kernel)
    have e72 := z 72 i (by decide) (by decide) (by decide) (by decide +kernel)
    exact ⟨⟨by rw [e36, e72], Or.inl e72⟩, fun q => by rw [e72] at q; exact absurd q (by decide)⟩
  · have pb := zPh_bd (σ.1 47) 24
    have hs : σ.2.2.2 = 74847 := h.2.1
    exact ⟨by omega, by omega⟩
