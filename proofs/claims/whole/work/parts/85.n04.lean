/-! THE FIRST HOUR'S AIR IS MADE; loops by steps -/
theorem miter_s {α β : Type} {f : α → Option (α ⊕ β)} {N : Nat} {y : α} {Q : β → Prop} (h : wpo (f y) (zor (fun y' => wpo (miter f N y') Q) Q)) : wpo (miter f (N + 1) y) Q := by
  unfold miter
  refine wpo_call h ?_
  intro z hz
  cases z with
  | inl y' => exact hz
  | inr b => exact wpo_some.mpr hz
theorem miter_3 {α β : Type} {f : α → Option (α ⊕ β)} {y : α} {Q : β → Prop} (h : wpo (miter f (99997 + 1 + 1 + 1) y) Q) : wpo (miter f mN y) Q := by
  rw [mN_eq]; exact h
def zcl' (n : Nat) (V : List (Int × Int × Int)) (b i a v : Int) : Bool := decide (0 < b ∧ b ≤ (n : Int) ∧ (b < 55 ∨ 57 < b) ∧ (zshl.getD (b - 1).toNat (0, 0)).1 = a ∧ 0 ≤ i ∧ i < (zshl.getD (b - 1).toNat (0, 0)).2 ∧ zlk V b i = v)
theorem t_ld {β : Type} {σ0 σ : mS} {X : Int → Int → Int} {n : Nat} {V : List (Int × Int × Int)} {s a i b : Int} {f : Int → Option β} {Q : β → Prop} (v : Int) (h : zRp σ0 X n V s σ) (c : zcl' n V b i a v = true) (hc : wpo (f v) Q) : wpo ((ld a b i σ).bind f) Q := by
  obtain ⟨c1, c2, c3, c5, c6, c7, c8⟩ := of_decide_eq_true c
  have e : ld a b i σ = some v := by unfold ld; rw [rp_k h c1 c2, if_pos ⟨c5, c6, c7⟩, rp_v h c1 c2 c3, c8]
  rw [e]; exact hc
theorem zlk_nm {r i : Int} : ∀ {V : List (Int × Int × Int)}, (∀ e ∈ V, e.1 ≠ r) → zlk V r i = 0
  | [], _ => rfl
  | e :: V, h => by
    have h1 : e.1 ≠ r := h e List.mem_cons_self
    show (if r = e.1 ∧ _ then e.2.2 else zlk V r i) = 0
    rw [if_neg (fun c => h1 c.1.symm)]
    exact zlk_nm (fun e he => h e (List.mem_cons_of_mem _ he))
/-- the first hour's air: c numbers are cleared, a places are of age 1 -/
def zHx (c a : Int) (σ : mS) : mS := ((fun r i => if r = 55 then (if 0 ≤ i ∧ i < c then -1000000 else σ.1 r i) else if r = 56 then (if 0 ≤ i ∧ i < c then -1000000 else σ.1 r i) else if r = 57 then (if 0 ≤ i ∧ i < a then 1 else σ.1 r i) else σ.1 r i), σ.2)
theorem zHx_v {c a u i : Int} {σ : mS} : (zHx c a σ).1 u i = if u = 55 then (if 0 ≤ i ∧ i < c then -1000000 else σ.1 u i) else if u = 56 then (if 0 ≤ i ∧ i < c then -1000000 else σ.1 u i) else if u = 57 then (if 0 ≤ i ∧ i < a then 1 else σ.1 u i) else σ.1 u i := rfl
theorem zHx_o {c a u i : Int} {σ : mS} (h : u < 55 ∨ 57 < u) : (zHx c a σ).1 u i = σ.1 u i := by
  rw [zHx_v, if_neg (by omega), if_neg (by omega), if_neg (by omega)]
theorem zHx_55 {c a i : Int} {σ : mS} : (zHx c a σ).1 55 i = if 0 ≤ i ∧ i < c then -1000000 else σ.1 55 i := by
  rw [zHx_v, if_pos rfl]
theorem zHx_56 {c a i : Int} {σ : mS} : (zHx c a σ).1 56 i = if 0 ≤ i ∧ i < c then -1000000 else σ.1 56 i := by
  rw [zHx_v, if_neg (by decide), if_pos rfl]
theorem zHx_57 {c a i : Int} {σ : mS} : (zHx c a σ).1 57 i = if 0 ≤ i ∧ i < a then 1 else σ.1 57 i := by
  rw [zHx_v, if_neg (by decide), if_neg (by decide), if_pos rfl]
theorem zHx_eq {c a c' a' : Int} {σ : mS} {Y : Int → Int → Int} (ho : ∀ r i, r ≠ 55 → r ≠ 56 → r ≠ 57 → Y r i = (zHx c a σ).1 r i) (h5 : ∀ i, Y 55 i = if 0 ≤ i ∧ i < c' then -1000000 else σ.1 55 i) (h6 : ∀ i, Y 56 i = if 0 ≤ i ∧ i < c' then -1000000 else σ.1 56 i) (h7 : ∀ i, Y 57 i = if 0 ≤ i ∧ i < a' then 1 else σ.1 57 i) : (Y, σ.2) = zHx c' a' σ := by
  refine Prod.ext ?_ rfl
  funext r i
  show Y r i = (zHx c' a' σ).1 r i
  by_cases e5 : r = 55
  · rw [e5, h5, zHx_55]
  · by_cases e6 : r = 56
    · rw [e6, h6, zHx_56]
    · by_cases e7 : r = 57
      · rw [e7, h7, zHx_57]
      · rw [ho r i e5 e6 e7]
        rw [zHx_v, zHx_v, if_neg e5, if_neg e6, if_neg e7, if_neg e5, if_neg e6, if_neg e7]
/-- what the making of the first hour's air stands on -/
def zHk (σ : mS) : Prop := (σ.2.1 54 = (3, 4) ∧ σ.2.1 55 = (100, 2048) ∧ σ.2.1 56 = (100, 2048) ∧ σ.2.1 57 = (100, 64)) ∧ σ.1 54 1 = 55 ∧ σ.1 54 2 = 56 ∧ σ.1 54 3 = 57
theorem zHx_put {c a x : Int} {σ : mS} (c0 : 0 ≤ c) (hx : x = c + 1) : (mup (mup (zHx c a σ).1 55 c (-1000000)) 56 c (-1000000), σ.2) = zHx x a σ := by
  subst hx
  refine zHx_eq (c := c) (a := a) (fun r i e5 e6 e7 => ?_) (fun i => ?_) (fun i => ?_) (fun i => ?_)
  · rw [mup_cell e6, mup_cell e5]
  · rw [mup_cell (by decide), mup_if, zHx_55]
    by_cases d : i = c
    · rw [if_pos d, if_pos (by omega)]
    · rw [if_neg d]
      by_cases q : 0 ≤ i ∧ i < c
      · rw [if_pos q, if_pos (by omega)]
      · rw [if_neg q, if_neg (by omega)]
  · rw [mup_if, mup_cell (by decide), zHx_56]
    by_cases d : i = c
    · rw [if_pos d, if_pos (by omega)]
    · rw [if_neg d]
      by_cases q : 0 ≤ i ∧ i < c
      · rw [if_pos q, if_pos (by omega)]
      · rw [if_neg q, if_neg (by omega)]
  · rw [mup_cell (by decide), mup_cell (by decide), zHx_57]
theorem zHx_age {c a x : Int} {σ : mS} (a0 : 0 ≤ a) (hx : x = a + 1) : (mup (zHx c a σ).1 57 a 1, σ.2) = zHx c x σ := by
  subst hx
  refine zHx_eq (c := c) (a := a) (fun r i e5 e6 e7 => ?_) (fun i => ?_) (fun i => ?_) (fun i => ?_)
  · rw [mup_cell e7]
  · rw [mup_cell (by decide), zHx_55]
  · rw [mup_cell (by decide), zHx_56]
  · rw [mup_if, zHx_57]
    by_cases d : i = a
    · rw [if_pos d, if_pos (by omega)]
    · rw [if_neg d]
      by_cases q : 0 ≤ i ∧ i < a
      · rw [if_pos q, if_pos (by omega)]
      · rw [if_neg q, if_neg (by omega)]
theorem zHk_x {c a : Int} {σ : mS} (h : zHk σ) : zHk (zHx c a σ) := by
  obtain ⟨h1, h2, h3, h4⟩ := h
  exact ⟨h1, by rw [zHx_o (by decide)]; exact h2, by rw [zHx_o (by decide)]; exact h3, by rw [zHx_o (by decide)]; exact h4⟩
theorem w_clear_1 {c a : Int} {σ : mS} (h : zHk σ) (c0 : 0 ≤ c) (c1 : c < 2048) (cm : c < w32 (w32 (a + 1) * 32)) : B_HourAir_clear_4 54 a 1 c (zHx c a σ) = some (Sum.inl (c + 1, zHx (c + 1) a σ)) := by
  have hx := zHk_x (c := c) (a := a) h
  obtain ⟨⟨k4, k5, k6, k7⟩, f1, f2, f3⟩ := hx
  unfold B_HourAir_clear_4
  rw [if_pos cm]
  have e1 : gf 3 1 54 (zHx c a σ) = some 55 := by unfold gf; rw [k4, if_pos rfl, f1]
  have e2 : sd 100 55 c (-1000000) (zHx c a σ) = some (mup (zHx c a σ).1 55 c (-1000000), σ.2) := by
    unfold sd; rw [k5, if_pos ⟨rfl, by decide, c0, c1⟩]; rfl
  have e3 : gf 3 2 54 (mup (zHx c a σ).1 55 c (-1000000), σ.2) = some 56 := by
    unfold gf
    rw [show ((mup (zHx c a σ).1 55 c (-1000000), σ.2) : mS).2.1 54 = (3, 4) from k4, if_pos rfl]
    show some (mup (zHx c a σ).1 55 c (-1000000) 54 2) = _
    rw [mup_cell (by decide), f2]
  have e4 : sd 100 56 c (-1000000) (mup (zHx c a σ).1 55 c (-1000000), σ.2) = some (mup (mup (zHx c a σ).1 55 c (-1000000)) 56 c (-1000000), σ.2) := by
    unfold sd
    rw [show ((mup (zHx c a σ).1 55 c (-1000000), σ.2) : mS).2.1 56 = (100, 2048) from k6, if_pos ⟨rfl, by decide, c0, c1⟩]
    rfl
  rw [e1]
  show ((sd 100 55 c (-1000000) (zHx c a σ)).bind _) = _
  rw [e2]
  show ((gf 3 2 54 (mup (zHx c a σ).1 55 c (-1000000), σ.2)).bind _) = _
  rw [e3]
  show ((sd 100 56 c (-1000000) (mup (zHx c a σ).1 55 c (-1000000), σ.2)).bind _) = _
  rw [e4]
  show some (Sum.inl (w32 (c + 1), (mup (mup (zHx c a σ).1 55 c (-1000000)) 56 c (-1000000), σ.2))) = _
  rw [zHx_put c0 rfl, w32_in (by omega) (by omega)]
theorem w_clear_2 {c a : Int} {σ : mS} (h : zHk σ) (a0 : 0 ≤ a) (a1 : a < 64) (cm : ¬ c < w32 (w32 (a + 1) * 32)) : B_HourAir_clear_4 54 a 1 c (zHx c a σ) = some (Sum.inr (0, zHx c (a + 1) σ)) := by
  have hx := zHk_x (c := c) (a := a) h
  obtain ⟨⟨k4, k5, k6, k7⟩, f1, f2, f3⟩ := hx
  unfold B_HourAir_clear_4
  rw [if_neg cm]
  have e1 : gf 3 3 54 (zHx c a σ) = some 57 := by unfold gf; rw [k4, if_pos rfl, f3]
  have e2 : sd 100 57 a 1 (zHx c a σ) = some (mup (zHx c a σ).1 57 a 1, σ.2) := by
    unfold sd; rw [k7, if_pos ⟨rfl, by decide, a0, a1⟩]; rfl
  rw [e1]
  show ((sd 100 57 a 1 (zHx c a σ)).bind _) = _
  rw [e2]
  show some (Sum.inr (0, (mup (zHx c a σ).1 57 a 1, σ.2))) = _
  rw [zHx_age a0 rfl]
theorem w_mul {a : Int} (a0 : 0 ≤ a) (a1 : a < 64) : w32 (w32 (a + 1) * 32) = 32 * a + 32 := by
  rw [w32_in (x := a + 1) (by omega) (by omega), w32_in (by omega) (by omega)]
  omega
theorem w_clear {a : Int} {σ : mS} (h : zHk σ) (a0 : 0 ≤ a) (a1 : a < 64) : M_HourAir_clear 54 a 1 (zHx (32 * a) a σ) = some (0, zHx (32 * (a + 1)) (a + 1) σ) := by
  refine wpo_is ?_
  have hm := w_mul a0 a1
  unfold M_HourAir_clear M_HourAir_clear_4
  have e0 : w32 (a * 32) = 32 * a := by rw [w32_in (by omega) (by omega)]; omega
  rw [e0]
  refine loopN (fun m y => y = (32 * a + (m : Int), zHx (32 * a + (m : Int)) a σ)) 32 _ _ (by decide) ?_ ?_ ?_
  · show (32 * a, zHx (32 * a) a σ) = (32 * a + 0, zHx (32 * a + 0) a σ)
    rw [Int.add_zero]
  · intro m y hm2 hy
    subst hy
    refine ⟨_, w_clear_1 h (by omega) (by omega) (by omega), ?_⟩
    have e : 32 * a + (m : Int) + 1 = 32 * a + ((m + 1 : Nat) : Int) := by omega
    rw [e]
  · intro y hy
    subst hy
    refine ⟨_, w_clear_2 h a0 a1 (by omega), ?_⟩
    have e : 32 * a + ((32 : Nat) : Int) = 32 * (a + 1) := by omega
    rw [e]
theorem w_ofHour {σ : mS} (h : zHk σ) (k46 : σ.2.1 46 = (1, 5)) (k48 : σ.2.1 48 = (100, 64)) (f46 : σ.1 46 2 = 48) (v48 : ∀ p, 0 ≤ p → p < 64 → σ.1 48 p = 1) (v57 : ∀ p, 0 ≤ p → p < 64 → σ.1 57 p = 0) : M_Air_ofHour_26 46 54 0 σ = some (54, zHx 2048 64 σ) := by
  refine wpo_is ?_
  unfold M_Air_ofHour_26
  refine loopN (fun m y => y = ((m : Int), zHx (32 * (m : Int)) (m : Int) σ)) 64 _ _ (by decide) ?_ ?_ ?_
  · refine Prod.ext rfl ?_
    show σ = zHx 0 0 σ
    exact zHx_eq (c := 0) (a := 0) (Y := σ.1) (fun r i e5 e6 e7 => by rw [zHx_o (by omega)]) (fun i => by rw [if_neg (by omega)]) (fun i => by rw [if_neg (by omega)]) (fun i => by rw [if_neg (by omega)])
  · intro m y hm hy
    subst hy
    have hx := zHk_x (c := 32 * (m : Int)) (a := (m : Int)) h
    obtain ⟨⟨k4, k5, k6, k7⟩, f1, f2, f3⟩ := hx
    refine ⟨(((m + 1 : Nat) : Int), zHx (32 * ((m + 1 : Nat) : Int)) ((m + 1 : Nat) : Int) σ), ?_, rfl⟩
    show B_Air_ofHour_26 46 54 (m : Int) (zHx (32 * (m : Int)) (m : Int) σ) = _
    generalize hg : zHx (32 * (m : Int)) (m : Int) σ = τ at *
    have m0 : 0 ≤ (m : Int) ∧ (m : Int) < 64 := by omega
    have e1 : gf 3 3 54 τ = some 57 := by unfold gf; rw [k4, if_pos rfl, f3]
    have e2 : ld 100 57 (m : Int) τ = some 0 := by
      unfold ld; rw [k7, if_pos ⟨rfl, m0.1, m0.2⟩, ← hg, zHx_57, if_neg (by omega), v57 _ m0.1 m0.2]
    have t46 : τ.2.1 46 = (1, 5) := by rw [← hg]; exact k46
    have t48 : τ.2.1 48 = (100, 64) := by rw [← hg]; exact k48
    have e3 : gf 1 2 46 τ = some 48 := by
      unfold gf; rw [t46, if_pos rfl, ← hg, zHx_o (by decide), f46]
    have e4 : ld 100 48 (m : Int) τ = some 1 := by
      unfold ld; rw [t48, if_pos ⟨rfl, m0.1, m0.2⟩, ← hg, zHx_o (by decide), v48 _ m0.1 m0.2]
    have e5 : gk 3 54 τ = some () := by unfold gk; rw [k4, if_pos rfl]
    have e6 : M_HourAir_clear 54 (m : Int) 1 τ = some (0, zHx (32 * ((m : Int) + 1)) ((m : Int) + 1) σ) := by rw [← hg]; exact w_clear h m0.1 m0.2
    have e7 : w32 ((m : Int) + 1) = ((m + 1 : Nat) : Int) := by rw [w32_in (by omega) (by omega)]; omega
    have e8 : (m : Int) + 1 = ((m + 1 : Nat) : Int) := by omega
    unfold B_Air_ofHour_26
    rw [if_pos m0.2, e1]
    show ((ld 100 57 (m : Int) τ).bind _) = _
    rw [e2]
    show ((gf 1 2 46 τ).bind _) = _
    rw [e3]
    show ((ld 100 48 (m : Int) τ).bind _) = _
    rw [e4, Option.bind_some, if_neg (by decide : ¬ (0 : Int) = 1), Option.bind_some, e4]
    show ((gk 3 54 τ).bind _) = _
    rw [e5]
    show ((M_HourAir_clear 54 (m : Int) 1 τ).bind _) = _
    rw [e6]
    show some (Sum.inl (w32 ((m : Int) + 1), zHx (32 * ((m : Int) + 1)) ((m : Int) + 1) σ)) = _
    rw [e7, e8]
  · intro y hy
    subst hy
    refine ⟨(54, zHx 2048 64 σ), ?_, rfl⟩
    show B_Air_ofHour_26 46 54 ((64 : Nat) : Int) _ = _
    unfold B_Air_ofHour_26
    rw [if_neg (by decide)]
    rfl
/-- what lies in the first hour's air: nothing told yet, all places of age 1 -/
def zX0 : Int → Int → Int := fun _ _ => 0
def zX1 : Int → Int → Int := fun r i => if (r = 55 ∨ r = 56) ∧ 0 ≤ i ∧ i < 2048 then -1000000 else if r = 57 ∧ 0 ≤ i ∧ i < 64 then 1 else 0
theorem rp_hour {σ0 σ : mS} {V : List (Int × Int × Int)} {s : Int} (h : zRp σ0 zX0 57 V s σ) (c5 : ∀ e ∈ V, e.1 ≠ 55) (c6 : ∀ e ∈ V, e.1 ≠ 56) (c7 : ∀ e ∈ V, e.1 ≠ 57) : zRp σ0 zX1 57 V s (zHx 2048 64 σ) := by
  obtain ⟨h1, h2, h3, h4, h5, h6, h7⟩ := h
  have z5 : ∀ i, zlk V 55 i = 0 := fun i => zlk_nm c5
  have z6 : ∀ i, zlk V 56 i = 0 := fun i => zlk_nm c6
  have z7 : ∀ i, zlk V 57 i = 0 := fun i => zlk_nm c7
  have v : ∀ r i, 1 ≤ r → r ≤ 57 → σ.1 r i = zlk V r i := fun r i a b => by
    rw [h5 r i a b]; exact Int.add_zero _
  refine ⟨h1, h2, fun r hr => ⟨?_, (h3 r hr).2⟩, h4, fun r i r0 r1 => ?_, h6, fun r i hr => ?_⟩
  · funext i
    rw [zHx_o (by omega), (h3 r hr).1]
  · unfold zX1
    by_cases e5 : r = 55
    · subst e5
      rw [zHx_55, v 55 i (by decide) (by decide), z5]
      by_cases c : 0 ≤ i ∧ i < 2048
      · rw [if_pos c, if_pos ⟨Or.inl rfl, c⟩]; rfl
      · rw [if_neg c, if_neg (fun q => c q.2), if_neg (by omega)]; rfl
    · by_cases e6 : r = 56
      · subst e6
        rw [zHx_56, v 56 i (by decide) (by decide), z6]
        by_cases c : 0 ≤ i ∧ i < 2048
        · rw [if_pos c, if_pos ⟨Or.inr rfl, c⟩]; rfl
        · rw [if_neg c, if_neg (fun q => c q.2), if_neg (by omega)]; rfl
      · rw [if_neg (by omega)]
        by_cases e7 : r = 57
        · subst e7
          rw [zHx_57, v 57 i (by decide) (by decide), z7]
          by_cases c : 0 ≤ i ∧ i < 64
          · rw [if_pos c, if_pos ⟨rfl, c⟩]; rfl
          · rw [if_neg c, if_neg (fun q => c q.2)]; rfl
        · rw [if_neg (by omega), zHx_o (by omega), v r i r0 r1, Int.add_zero]
  · unfold zX1
    rw [if_neg (by omega), if_neg (by omega)]
