/-! RAYS as numbers alone. A: what is kept (as the reference lays it out); S: (A, warmth by place and inch, bend, eye's place, eye's height, angle, trembling, seed, past things) -/
def ztAN (A : Int → Int) (p : Int) : Nat → Int
  | 0 => -1
  | n + 1 => if ztAN A p n = -1 then (if A (128 + (n : Int)) = p then (n : Int) else -1) else ztAN A p n
/-- the thing at a place -/
def ztA (A : Int → Int) (p : Int) : Int := ztAN A p (A 184).toNat
theorem ztAN_spec (A : Int → Int) (p : Int) : ∀ n : Nat, (ztAN A p n = -1 ∧ ∀ t : Nat, t < n → A (128 + (t : Int)) ≠ p) ∨ (∃ t : Nat, t < n ∧ ztAN A p n = (t : Int) ∧ A (128 + (t : Int)) = p ∧ ∀ u : Nat, u < t → A (128 + (u : Int)) ≠ p) := by
  intro n
  induction n with
  | zero => exact Or.inl ⟨rfl, fun t h => absurd h (Nat.not_lt_zero _)⟩
  | succ n ih =>
    rcases ih with ⟨e, h⟩ | ⟨t, ht, e, h1, h2⟩
    · by_cases c : A (128 + (n : Int)) = p
      · exact Or.inr ⟨n, Nat.lt_succ_self n, by simp only [ztAN, e, c, if_true], c, h⟩
      · refine Or.inl ⟨by simp only [ztAN, e, c, if_true, if_false], fun t ht => ?_⟩
        by_cases c2 : t = n
        · rw [c2]; exact c
        · exact h t (by omega)
    · refine Or.inr ⟨t, by omega, ?_, h1, h2⟩
      have : ztAN A p n ≠ -1 := by rw [e]; omega
      unfold ztAN
      rw [if_neg this, e]
theorem ztA_none {A : Int → Int} {p : Int} (h : ztA A p = -1) : ∀ t : Int, 0 ≤ t → t < A 184 → A (128 + t) ≠ p := by
  intro t h0 h1
  rcases ztAN_spec A p (A 184).toNat with ⟨_, e⟩ | ⟨u, hu, e, _, _⟩
  · have := e t.toNat (by omega)
    rwa [Int.toNat_of_nonneg h0] at this
  · exfalso; unfold ztA at h; omega
theorem ztA_some {A : Int → Int} {p : Int} (h : ztA A p ≠ -1) : 0 ≤ ztA A p ∧ ztA A p < A 184 ∧ A (128 + ztA A p) = p := by
  rcases ztAN_spec A p (A 184).toNat with ⟨e, _⟩ | ⟨u, hu, e, h1, _⟩
  · exact absurd e h
  · have e' : ztA A p = (u : Int) := e
    rw [e']
    exact ⟨by omega, by omega, h1⟩
theorem ztA_eq {A : Int → Int} {p t : Int} (h0 : 0 ≤ t) (h1 : t < A 184) (h2 : A (128 + t) = p) (h3 : ∀ u, 0 ≤ u → u < A 184 → A (128 + u) = p → u = t) : ztA A p = t := by
  by_cases c : ztA A p = -1
  · exact absurd h2 (ztA_none c t h0 h1)
  · obtain ⟨a, b, d⟩ := ztA_some c
    exact h3 _ a b d
theorem ztA_eq_none {A : Int → Int} {p : Int} (h : ∀ u, 0 ≤ u → u < A 184 → A (128 + u) ≠ p) : ztA A p = -1 := by
  by_cases c : ztA A p = -1
  · exact c
  · obtain ⟨a, b, d⟩ := ztA_some c
    exact absurd d (h _ a b)
def zcl (x : Int) : Int := if x < -2000 then -2000 else if 2000 < x then 2000 else x
def zpull (Wp : Int → Int → Int) (p i : Int) : Int := Wp p (if i - 1 < 0 then 0 else i - 1) - Wp p (if 31 < i + 1 then 31 else i + 1)
abbrev zSc : Type := (Int → Int) × (Int → Int → Int) × Int × Int × Int × Int × Int × Int × Int
def zA (S : zSc) : Int → Int := S.1
def zW (S : zSc) : Int → Int → Int := S.2.1
def zb (S : zSc) : Int := S.2.2.1
def ze (S : zSc) : Int := S.2.2.2.1
def zeh (S : zSc) : Int := S.2.2.2.2.1
def za (S : zSc) : Int := S.2.2.2.2.2.1
def zt (S : zSc) : Int := S.2.2.2.2.2.2.1
def zsd (S : zSc) : Int := S.2.2.2.2.2.2.2.1
def zpa (S : zSc) : Int := S.2.2.2.2.2.2.2.2
def zdraw (s : Int) : Int := (s * 1103 + 12345) % 1000003
/-- height, slope, seed behind k steps, whatever is in the way -/
def zray (S : zSc) : Nat → Int × Int × Int
  | 0 => (100 * zeh S + 50, za S, zsd S)
  | k + 1 =>
    ((zray S k).1 + (zray S k).2.1 + (if 0 < zt S then zdraw (zray S k).2.2 % (2 * zt S + 1) - zt S else 0),
     zcl ((zray S k).2.1 + zb S * zpull (zW S) (ze S + ((k : Int) + 1)) (((zray S k).1 + (zray S k).2.1 + (if 0 < zt S then zdraw (zray S k).2.2 % (2 * zt S + 1) - zt S else 0)) / 100)),
     zdraw (zray S k).2.2)
def zH (S : zSc) (k : Nat) : Int := (zray S k).1
def zs (S : zSc) (k : Nat) : Int := (zray S k).2.1
def zd (S : zSc) (k : Nat) : Int := (zray S k).2.2
theorem zH_zero (S : zSc) : zH S 0 = 100 * zeh S + 50 := rfl
theorem zs_zero (S : zSc) : zs S 0 = za S := rfl
theorem zd_zero (S : zSc) : zd S 0 = zsd S := rfl
theorem zH_succ (S : zSc) (k : Nat) : zH S (k + 1) = zH S k + zs S k + (if 0 < zt S then zdraw (zd S k) % (2 * zt S + 1) - zt S else 0) := rfl
theorem zs_succ (S : zSc) (k : Nat) : zs S (k + 1) = zcl (zs S k + zb S * zpull (zW S) (ze S + ((k : Int) + 1)) (zH S (k + 1) / 100)) := rfl
theorem zd_succ (S : zSc) (k : Nat) : zd S (k + 1) = zdraw (zd S k) := rfl
/-- below the ground; in the sky; in a thing -/
def zgr (S : zSc) (k : Nat) : Prop := zH S k < 100 * zA S (ze S + k)
def zsk (S : zSc) (k : Nat) : Prop := 3200 ≤ zH S k
def zin (S : zSc) (k : Nat) : Prop := zpa S = 0 ∧ ztA (zA S) (ze S + k) ≠ -1 ∧ zH S k < 100 * (zA S (ze S + k) + zA S (136 + ztA (zA S) (ze S + k)))
def zstop (S : zSc) (k : Nat) : Prop := zgr S k ∨ zsk S k ∨ zin S k ∨ ze S + k = 63
noncomputable section
/-- how many steps it goes -/
def zKf (S : zSc) : Nat → Nat → Nat
  | 0, k => k
  | f + 1, k => @ite Nat (zstop S (k + 1)) (Classical.propDecidable _) (k + 1) (zKf S f (k + 1))
def zK (S : zSc) : Nat := if ze S = 63 then 0 else zKf S 63 0
theorem zKf_eq {S : zSc} {n : Nat} (hn : zstop S n) : ∀ (f k : Nat), k < n → n ≤ k + f → (∀ j, k < j → j < n → ¬ zstop S j) → zKf S f k = n := by
  intro f
  induction f with
  | zero => intro k h1 h2; omega
  | succ f ih =>
    intro k h1 h2 h3
    unfold zKf
    by_cases c : k + 1 = n
    · rw [if_pos (by rw [c]; exact hn)]; exact c
    · rw [if_neg (h3 (k + 1) (by omega) (by omega))]
      exact ih (k + 1) (by omega) (by omega) (fun j a b => h3 j (by omega) b)
theorem zK_eq {S : zSc} {n : Nat} (he : ze S < 63) (hn : zstop S n) (h1 : 0 < n) (h2 : n ≤ 63) (h3 : ∀ j, 0 < j → j < n → ¬ zstop S j) : zK S = n := by
  unfold zK
  rw [if_neg (by omega)]
  exact zKf_eq hn 63 0 h1 (by omega) (fun j a b => h3 j a b)
theorem zK_zero {S : zSc} (he : ze S = 63) : zK S = 0 := by
  unfold zK; rw [if_pos he]
/-- where it ends: 0 ground, 1 a thing, 2 the sky -/
def zwh (S : zSc) : Int := if ze S = 63 then 2 else @ite Int (zgr S (zK S)) (Classical.propDecidable _) 0 (@ite Int (zsk S (zK S)) (Classical.propDecidable _) 2 (@ite Int (zin S (zK S)) (Classical.propDecidable _) 1 2))
def zpl (S : zSc) : Int := ze S + zK S
def zth (S : zSc) : Int := if zwh S = 1 then ztA (zA S) (zpl S) else -1
def zic (S : zSc) : Int := if zwh S = 1 then (zH S (zK S) - 100 * zA S (zpl S)) / 100 else -1
def zsl (S : zSc) : Int := zs S (zK S - 1)
end
def zlo (S : zSc) : Nat → Nat
  | 0 => 0
  | k + 1 => if zH S (k + 1) < zH S (zlo S k) then k + 1 else zlo S k
def zsg (x : Int) : Int := if x < 0 then -1 else if 0 < x then 1 else 0
def ztu (S : zSc) : Nat → Int × Int
  | 0 => (0, 0)
  | k + 1 => if zsg (zs S k) = 0 then ztu S k else ((ztu S k).1 + (if zsg (zs S k) = -(ztu S k).2 then 1 else 0), zsg (zs S k))
theorem zlo_le (S : zSc) : ∀ k, zlo S k ≤ k := by
  intro k
  induction k with
  | zero => exact Nat.le_refl _
  | succ k ih => unfold zlo; split <;> omega
/-- what numbers of a road can be -/
def zWF (A : Int → Int) : Prop := (∀ p, 0 ≤ p → p < 64 → 0 ≤ A p ∧ A p ≤ 31 ∧ 0 ≤ A (64 + p) ∧ A (64 + p) ≤ 9) ∧
  (0 ≤ A 184 ∧ A 184 ≤ 8) ∧ (∀ t, 0 ≤ t → t < A 184 → 0 ≤ A (128 + t) ∧ A (128 + t) ≤ 63 ∧ 1 ≤ A (136 + t) ∧ A (136 + t) ≤ 31) ∧ (∀ t u, 0 ≤ t → t < A 184 → 0 ≤ u → u < A 184 → A (128 + t) = A (128 + u) → t = u) ∧
  ((0 ≤ A 180 ∧ A 180 ≤ 23) ∧ (0 ≤ A 181 ∧ A 181 ≤ 9) ∧ (0 ≤ A 182 ∧ A 182 ≤ 63) ∧ (0 ≤ A 183 ∧ A 183 ≤ 31)) ∧
  (0 ≤ A 185 ∧ A 185 ≤ 12) ∧ (∀ j, 0 ≤ j → j < A 185 → -500 ≤ A (144 + 3 * j) ∧ A (144 + 3 * j) ≤ 500 ∧ 0 ≤ A (145 + 3 * j) ∧ A (145 + 3 * j) < A 184 ∧ -1 ≤ A (146 + 3 * j) ∧ A (146 + 3 * j) ≤ 31) ∧
  (0 ≤ A 186 ∧ A 186 ≤ 6) ∧ (-1 ≤ A 187 ∧ A 187 < A 186)
def zSok (S : zSc) : Prop := zWF (zA S) ∧ (∀ p i, -50 ≤ zW S p i ∧ zW S p i ≤ 99) ∧ (0 ≤ zb S ∧ zb S ≤ 9) ∧ (0 ≤ ze S ∧ ze S ≤ 63) ∧ (0 ≤ zeh S ∧ zeh S ≤ 31) ∧ (-500 ≤ za S ∧ za S ≤ 500) ∧ (0 ≤ zt S ∧ zt S ≤ 50) ∧ (0 ≤ zsd S ∧ zsd S ≤ 1000002)
theorem zcl_bd (x : Int) : -2000 ≤ zcl x ∧ zcl x ≤ 2000 := by unfold zcl; split <;> (try split) <;> omega
theorem zs_bd {S : zSc} (h : zSok S) (k : Nat) : -2000 ≤ zs S k ∧ zs S k ≤ 2000 := by
  cases k with
  | zero => rw [zs_zero]; have := h.2.2.2.2.2.1; omega
  | succ k => rw [zs_succ]; exact zcl_bd _
theorem zdraw_bd (s : Int) : 0 ≤ zdraw s ∧ zdraw s ≤ 1000002 := by unfold zdraw; omega
theorem zd_bd {S : zSc} (h : zSok S) (k : Nat) : 0 ≤ zd S k ∧ zd S k ≤ 1000002 := by
  cases k with
  | zero => rw [zd_zero]; exact h.2.2.2.2.2.2.2
  | succ k => rw [zd_succ]; exact zdraw_bd _
theorem zdr_bd {t x : Int} (h : 0 < t) : -t ≤ x % (2 * t + 1) - t ∧ x % (2 * t + 1) - t ≤ t := by
  have := Int.emod_nonneg x (show 2 * t + 1 ≠ 0 by omega)
  have := Int.emod_lt_of_pos x (show 0 < 2 * t + 1 by omega)
  omega
theorem zH_bd {S : zSc} (h : zSok S) (k : Nat) : -2050 * (k : Int) ≤ zH S k ∧ zH S k ≤ 3150 + 2050 * (k : Int) := by
  induction k with
  | zero => rw [zH_zero]; have := h.2.2.2.2.1; omega
  | succ k ih =>
    rw [zH_succ]
    have := zs_bd h k
    have ht := h.2.2.2.2.2.2.1
    by_cases c : 0 < zt S
    · rw [if_pos c]
      have := zdr_bd (x := zdraw (zd S k)) c
      omega
    · rw [if_neg c]; omega
theorem zpull_bd {S : zSc} (h : zSok S) (p i : Int) : -149 ≤ zpull (zW S) p i ∧ zpull (zW S) p i ≤ 149 := by
  unfold zpull
  have a := h.2.1 p (if i - 1 < 0 then 0 else i - 1)
  have b := h.2.1 p (if 31 < i + 1 then 31 else i + 1)
  omega
