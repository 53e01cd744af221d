/-! THE PURE PART: what a run of the small machine's functions is to be shown of. wpo x Q: x is there, and Q of it -/
def wpo {α : Type} (x : Option α) (Q : α → Prop) : Prop := ∃ y, x = some y ∧ Q y
theorem wpo_some {α : Type} {y : α} {Q : α → Prop} : wpo (some y) Q ↔ Q y := ⟨fun ⟨z, h, q⟩ => by cases h; exact q, fun q => ⟨y, rfl, q⟩⟩
theorem wpo_bind {α β : Type} {x : Option α} {f : α → Option β} {Q : β → Prop} : wpo (x.bind f) Q ↔ wpo x (fun y => wpo (f y) Q) := by
  constructor
  · rintro ⟨z, h, q⟩
    cases x with
    | none => cases h
    | some y => exact ⟨y, rfl, z, h, q⟩
  · rintro ⟨y, rfl, z, h, q⟩
    exact ⟨z, h, q⟩
theorem wpo_mono {α : Type} {x : Option α} {Q R : α → Prop} (h : wpo x Q) (hi : ∀ y, Q y → R y) : wpo x R := by
  obtain ⟨y, e, q⟩ := h
  exact ⟨y, e, hi y q⟩
theorem wpo_eq {α : Type} {x : Option α} {y : α} {Q : α → Prop} (h : x = some y) (q : Q y) : wpo x Q := ⟨y, h, q⟩
theorem wpo_call {α β : Type} {x : Option α} {f : α → Option β} {Q : α → Prop} {R : β → Prop} (h : wpo x Q) (hi : ∀ y, Q y → wpo (f y) R) : wpo (x.bind f) R := wpo_bind.mpr (wpo_mono h hi)
theorem wpo_if {α : Type} {c : Prop} [Decidable c] {x y : Option α} {Q : α → Prop} (h1 : c → wpo x Q) (h2 : ¬ c → wpo y Q) : wpo (if c then x else y) Q := by
  by_cases h : c
  · rw [if_pos h]; exact h1 h
  · rw [if_neg h]; exact h2 h
/-- of one of both -/
def zor {α β : Type} (P : α → Prop) (Q : β → Prop) : α ⊕ β → Prop
  | .inl y => P y
  | .inr b => Q b
theorem zor_inl {α β : Type} {P : α → Prop} {Q : β → Prop} {y : α} : zor P Q (.inl y) = P y := rfl
theorem zor_inr {α β : Type} {P : α → Prop} {Q : β → Prop} {y : β} : zor P Q (.inr y) = Q y := rfl
/-- a loop by an invariant with a number that goes down -/
theorem miter_wpo {α β : Type} {f : α → Option (α ⊕ β)} {Q : β → Prop} (I : Nat → α → Prop)
    (hs : ∀ n y, I n y → wpo (f y) (zor (fun y' => ∃ m, m < n ∧ I m y') Q)) :
    ∀ (N n : Nat) (y : α), n < N → I n y → wpo (miter f N y) Q := by
  intro N
  induction N with
  | zero => intro n y h; exact absurd h (Nat.not_lt_zero _)
  | succ N ih =>
    intro n y h hI
    unfold miter
    refine wpo_call (hs n y hI) ?_
    intro z hz
    cases z with
    | inl y' =>
      obtain ⟨m, hm, hI'⟩ := hz
      exact ih m y' (by omega) hI'
    | inr b => exact wpo_some.mpr hz
theorem miter_mN {α β : Type} {f : α → Option (α ⊕ β)} {Q : β → Prop} (I : Nat → α → Prop)
    (hs : ∀ n y, I n y → wpo (f y) (zor (fun y' => ∃ m, m < n ∧ I m y') Q))
    (n : Nat) (y : α) (h : n < 100000) (hI : I n y) : wpo (miter f mN y) Q := miter_wpo I hs mN n y (by rw [mN_eq]; exact h) hI
theorem w32_in {x : Int} (h1 : -2147483648 ≤ x) (h2 : x ≤ 2147483647) : w32 x = x := by unfold w32; omega
theorem w64_in {x : Int} (h1 : -9223372036854775808 ≤ x) (h2 : x ≤ 9223372036854775807) : w64 x = x := by unfold w64; omega
theorem mup_same {h : Int → Int → Int} {r i v : Int} : mup h r i v r i = v := by unfold mup; rw [if_pos rfl, if_pos rfl]
theorem mup_cell {h : Int → Int → Int} {r i v r' i' : Int} (e : r' ≠ r) : mup h r i v r' i' = h r' i' := by unfold mup; rw [if_neg e]
theorem mup_slot {h : Int → Int → Int} {r i v i' : Int} (e : i' ≠ i) : mup h r i v r i' = h r i' := by unfold mup; rw [if_pos rfl, if_neg e]
theorem mup_if {h : Int → Int → Int} {r i v i' : Int} : mup h r i v r i' = if i' = i then v else h r i' := by unfold mup; rw [if_pos rfl]
theorem mup_fun {h : Int → Int → Int} {r i v r' : Int} (e : r' ≠ r) : mup h r i v r' = h r' := by funext j; exact mup_cell e
theorem wpo_gf {a b r : Int} {σ : mS} {Q : Int → Prop} : wpo (gf a b r σ) Q ↔ (σ.2.1 r).1 = a ∧ Q (σ.1 r b) := by
  unfold gf; constructor
  · rintro ⟨z, h, q⟩; split at h
    · cases h; exact ⟨by assumption, q⟩
    · cases h
  · rintro ⟨h, q⟩; exact ⟨_, if_pos h, q⟩
theorem wpo_gk {a r : Int} {σ : mS} {Q : Unit → Prop} : wpo (gk a r σ) Q ↔ (σ.2.1 r).1 = a ∧ Q () := by
  unfold gk; constructor
  · rintro ⟨z, h, q⟩; split at h
    · cases h; exact ⟨by assumption, q⟩
    · cases h
  · rintro ⟨h, q⟩; exact ⟨_, if_pos h, q⟩
theorem wpo_ld {k r i : Int} {σ : mS} {Q : Int → Prop} : wpo (ld k r i σ) Q ↔ ((σ.2.1 r).1 = k ∧ 0 ≤ i ∧ i < (σ.2.1 r).2) ∧ Q (σ.1 r i) := by
  unfold ld; constructor
  · rintro ⟨z, h, q⟩; split at h
    · cases h; exact ⟨by assumption, q⟩
    · cases h
  · rintro ⟨h, q⟩; exact ⟨_, if_pos h, q⟩
theorem wpo_pf {a b r v : Int} {σ : mS} {Q : mS → Prop} : wpo (pf a b r v σ) Q ↔ ((σ.2.1 r).1 = a ∧ 0 < r) ∧ Q (mup σ.1 r b v, σ.2) := by
  unfold pf; constructor
  · rintro ⟨z, h, q⟩; split at h
    · cases h; exact ⟨by assumption, q⟩
    · cases h
  · rintro ⟨h, q⟩; exact ⟨_, if_pos h, q⟩
theorem wpo_pz {a b r v : Int} {σ : mS} {Q : mS → Prop} : wpo (pz a b r v σ) Q ↔ ((σ.2.1 r).1 = a ∧ 0 < r ∧ (v = 0 ∨ v = 1)) ∧ Q (mup σ.1 r b v, σ.2) := by
  unfold pz; constructor
  · rintro ⟨z, h, q⟩; split at h
    · cases h; exact ⟨by assumption, q⟩
    · cases h
  · rintro ⟨h, q⟩; exact ⟨_, if_pos h, q⟩
theorem wpo_sd {k r i v : Int} {σ : mS} {Q : mS → Prop} : wpo (sd k r i v σ) Q ↔ ((σ.2.1 r).1 = k ∧ 0 < r ∧ 0 ≤ i ∧ i < (σ.2.1 r).2) ∧ Q (mup σ.1 r i (mnar k v), σ.2) := by
  unfold sd; constructor
  · rintro ⟨z, h, q⟩; split at h
    · cases h; exact ⟨by assumption, q⟩
    · cases h
  · rintro ⟨h, q⟩; exact ⟨_, if_pos h, q⟩
theorem wpo_sr {k r i v : Int} {σ : mS} {Q : mS → Prop} : wpo (sr k r i v σ) Q ↔ ((σ.2.1 r).1 = 200 + k ∧ 0 < r ∧ 0 ≤ i ∧ i < (σ.2.1 r).2 ∧ (v = 0 ∨ 0 < v ∧ (σ.2.1 v).1 = k)) ∧ Q (mup σ.1 r i v, σ.2) := by
  unfold sr; constructor
  · rintro ⟨z, h, q⟩; split at h
    · cases h; exact ⟨by assumption, q⟩
    · cases h
  · rintro ⟨h, q⟩; exact ⟨_, if_pos h, q⟩
theorem wpo_ln {r : Int} {σ : mS} {Q : Int → Prop} : wpo (ln r σ) Q ↔ (100 ≤ (σ.2.1 r).1 ∧ (σ.2.1 r).1 < 300) ∧ Q (σ.2.1 r).2 := by
  unfold ln; constructor
  · rintro ⟨z, h, q⟩; split at h
    · cases h; exact ⟨by assumption, q⟩
    · cases h
  · rintro ⟨h, q⟩; exact ⟨_, if_pos h, q⟩
theorem wpo_idv {x y : Int} {Q : Int → Prop} : wpo (idv x y) Q ↔ y ≠ 0 ∧ Q (w32 (Int.tdiv x y)) := by
  unfold idv; constructor
  · rintro ⟨z, h, q⟩; split at h
    · cases h
    · cases h; exact ⟨by assumption, q⟩
  · rintro ⟨h, q⟩; exact ⟨_, if_neg h, q⟩
theorem wpo_irm {x y : Int} {Q : Int → Prop} : wpo (irm x y) Q ↔ y ≠ 0 ∧ Q (Int.tmod x y) := by
  unfold irm; constructor
  · rintro ⟨z, h, q⟩; split at h
    · cases h
    · cases h; exact ⟨by assumption, q⟩
  · rintro ⟨h, q⟩; exact ⟨_, if_neg h, q⟩
theorem wpo_lrm {x y : Int} {Q : Int → Prop} : wpo (lrm x y) Q ↔ y ≠ 0 ∧ Q (Int.tmod x y) := by
  unfold lrm; constructor
  · rintro ⟨z, h, q⟩; split at h
    · cases h
    · cases h; exact ⟨by assumption, q⟩
  · rintro ⟨h, q⟩; exact ⟨_, if_neg h, q⟩
theorem wpo_ldv {x y : Int} {Q : Int → Prop} : wpo (ldv x y) Q ↔ y ≠ 0 ∧ Q (w64 (Int.tdiv x y)) := by
  unfold ldv; constructor
  · rintro ⟨z, h, q⟩; split at h
    · cases h
    · cases h; exact ⟨by assumption, q⟩
  · rintro ⟨h, q⟩; exact ⟨_, if_neg h, q⟩
theorem wpo_cpy {r p r' p' n : Int} {σ : mS} {Q : mS → Prop} : wpo (cpy r p r' p' n σ) Q ↔ ((σ.2.1 r).1 = 100 ∧ (σ.2.1 r').1 = 100 ∧ 0 < r' ∧ r ≠ r' ∧ 0 ≤ p ∧ 0 ≤ p' ∧ 0 ≤ n ∧ p + n ≤ (σ.2.1 r).2 ∧ p' + n ≤ (σ.2.1 r').2) ∧ Q ((fun q i => if q = r' then (if p' ≤ i ∧ i < p' + n then σ.1 r (p + (i - p')) else σ.1 q i) else σ.1 q i), σ.2) := by
  unfold cpy; constructor
  · rintro ⟨z, h, q⟩; split at h
    · cases h; exact ⟨by assumption, q⟩
    · cases h
  · rintro ⟨h, q⟩; exact ⟨_, if_pos h, q⟩
theorem mnar_int {v : Int} : mnar 100 v = v := rfl

def zshl : List (Int × Int) := [(10, 16), (7, 14), (100, 64), (100, 64), (100, 64), (100, 8), (100, 8), (100, 4), (204, 6), (100, 12), (100, 12), (100, 12), (207, 2), (7, 14), (100, 64), (100, 64), (100, 64), (100, 8), (100, 8), (100, 4), (204, 6), (100, 12), (100, 12), (100, 12), (7, 14), (100, 64), (100, 64), (100, 64), (100, 8), (100, 8), (100, 4), (204, 6), (100, 12), (100, 12), (100, 12), (102, 2), (9, 2), (100, 400), (6, 12), (100, 401), (100, 401), (100, 401), (100, 400), (100, 12), (100, 12), (1, 5), (203, 24), (100, 64), (100, 6), (100, 64), (5, 17), (100, 64), (100, 64), (3, 4), (100, 2048), (100, 2048), (100, 64), (2, 8), (100, 201), (100, 201), (100, 201), (8, 4), (100, 64), (100, 64), (100, 40), (100, 40), (100, 7), (11, 44), (100, 7), (100, 4994), (100, 9988), (102, 2), (101, 53), (101, 400), (100, 5), (100, 401), (100, 401), (100, 401), (100, 6), (100, 49152), (100, 24), (100, 64), (100, 201), (100, 201), (100, 64), (100, 64), (100, 64), (102, 64), (100, 40), (100, 40)]
def zrefl : List (Int × Int × Int) := [(2, 0, 3), (2, 1, 4), (2, 2, 5), (2, 3, 6), (2, 4, 7), (2, 6, 8), (2, 7, 9), (2, 10, 10), (2, 11, 11), (2, 12, 12), (1, 0, 2), (1, 1, 13), (14, 0, 15), (14, 1, 16), (14, 2, 17), (14, 3, 18), (14, 4, 19), (14, 6, 20), (14, 7, 21), (14, 10, 22), (14, 11, 23), (14, 12, 24), (13, 0, 14), (25, 0, 26), (25, 1, 27), (25, 2, 28), (25, 3, 29), (25, 4, 30), (25, 6, 31), (25, 7, 32), (25, 10, 33), (25, 11, 34), (25, 12, 35), (13, 1, 25), (1, 2, 36), (37, 0, 38), (1, 3, 37), (39, 0, 40), (39, 1, 41), (39, 2, 42), (39, 5, 43), (39, 7, 44), (39, 8, 45), (1, 4, 39), (46, 1, 47), (46, 2, 48), (46, 3, 49), (46, 4, 50), (46, 0, 2), (1, 5, 46), (51, 2, 52), (51, 10, 53), (51, 0, 2), (51, 1, 46), (54, 1, 55), (54, 2, 56), (54, 3, 57), (1, 6, 51), (58, 1, 59), (58, 2, 60), (58, 3, 61), (58, 0, 51), (1, 7, 58), (62, 2, 63), (62, 3, 64), (62, 0, 2), (62, 1, 51), (1, 8, 62), (1, 9, 65), (1, 10, 66), (1, 15, 67), (68, 2, 69), (68, 3, 70), (68, 4, 71), (68, 5, 72), (68, 7, 73), (68, 8, 74), (68, 9, 75), (68, 12, 76), (68, 13, 77), (68, 14, 78), (68, 22, 79), (68, 23, 80), (68, 24, 81), (68, 26, 82), (68, 35, 83), (68, 36, 84), (68, 37, 85), (68, 38, 86), (68, 39, 87), (68, 40, 88), (68, 41, 89), (68, 42, 90)]
def zwl : List Int := [119, 97, 114, 109, 32, 105, 102, 32, 111, 114, 32, 97, 110, 100, 32, 110, 111, 116, 32, 105, 110, 99, 104, 32, 97, 98, 111, 118, 101, 32, 112, 108, 97, 99, 101, 32, 103, 114, 111, 117, 110, 100, 32, 114, 105, 115, 101, 32, 104, 111, 117, 114, 32]
def zstr : List (List Int) := [[119, 97, 114, 109], [105, 102], [111, 114], [97, 110, 100], [110, 111, 116], [105, 110, 99, 104], [97, 98, 111, 118, 101], [112, 108, 97, 99, 101], [103, 114, 111, 117, 110, 100], [114, 105, 115, 101], [104, 111, 117, 114]]
/-- the cells that stand after both constructors: kinds, references, constants -/
def zB (σ : mS) : Prop := (∀ n : Nat, n < 90 → σ.2.1 ((n : Int) + 1) = zshl.getD n (0, 0)) ∧ (∀ q ∈ zrefl, σ.1 q.1 q.2.1 = q.2.2) ∧ (∀ i, 0 ≤ i → i < 64 → σ.1 52 i = -1) ∧ (∀ n : Nat, n < 53 → σ.1 73 (n : Int) = zwl.getD n 0) ∧
  (σ.2.1 (-2) = (100, 4) ∧ σ.1 (-2) 0 = 12 ∧ σ.1 (-2) 1 = 1 ∧ σ.1 (-2) 2 = 0 ∧ σ.1 (-2) 3 = 16) ∧ (σ.2.1 (-3) = (100, 4) ∧ σ.1 (-3) 0 = 23 ∧ σ.1 (-3) 1 = 9 ∧ σ.1 (-3) 2 = 63 ∧ σ.1 (-3) 3 = 31) ∧
  (∀ n : Nat, n < 11 → σ.2.1 (-10 - (n : Int)) = (300, ((zstr.getD n []).length : Int)) ∧ ∀ j : Nat, j < (zstr.getD n []).length → σ.1 (-10 - (n : Int)) (j : Int) = (zstr.getD n []).getD j 0)
theorem zk1 {σ : mS} (h : zB σ) : σ.2.1 1 = (10, 16) := h.1 0 (by decide)
theorem zk2 {σ : mS} (h : zB σ) : σ.2.1 2 = (7, 14) := h.1 1 (by decide)
theorem zk3 {σ : mS} (h : zB σ) : σ.2.1 3 = (100, 64) := h.1 2 (by decide)
theorem zk4 {σ : mS} (h : zB σ) : σ.2.1 4 = (100, 64) := h.1 3 (by decide)
theorem zk5 {σ : mS} (h : zB σ) : σ.2.1 5 = (100, 64) := h.1 4 (by decide)
theorem zk6 {σ : mS} (h : zB σ) : σ.2.1 6 = (100, 8) := h.1 5 (by decide)
theorem zk7 {σ : mS} (h : zB σ) : σ.2.1 7 = (100, 8) := h.1 6 (by decide)
theorem zk8 {σ : mS} (h : zB σ) : σ.2.1 8 = (100, 4) := h.1 7 (by decide)
theorem zk9 {σ : mS} (h : zB σ) : σ.2.1 9 = (204, 6) := h.1 8 (by decide)
theorem zk10 {σ : mS} (h : zB σ) : σ.2.1 10 = (100, 12) := h.1 9 (by decide)
theorem zk11 {σ : mS} (h : zB σ) : σ.2.1 11 = (100, 12) := h.1 10 (by decide)
theorem zk12 {σ : mS} (h : zB σ) : σ.2.1 12 = (100, 12) := h.1 11 (by decide)
theorem zk13 {σ : mS} (h : zB σ) : σ.2.1 13 = (207, 2) := h.1 12 (by decide)
theorem zk14 {σ : mS} (h : zB σ) : σ.2.1 14 = (7, 14) := h.1 13 (by decide)
theorem zk15 {σ : mS} (h : zB σ) : σ.2.1 15 = (100, 64) := h.1 14 (by decide)
theorem zk16 {σ : mS} (h : zB σ) : σ.2.1 16 = (100, 64) := h.1 15 (by decide)
theorem zk17 {σ : mS} (h : zB σ) : σ.2.1 17 = (100, 64) := h.1 16 (by decide)
theorem zk18 {σ : mS} (h : zB σ) : σ.2.1 18 = (100, 8) := h.1 17 (by decide)
theorem zk19 {σ : mS} (h : zB σ) : σ.2.1 19 = (100, 8) := h.1 18 (by decide)
theorem zk20 {σ : mS} (h : zB σ) : σ.2.1 20 = (100, 4) := h.1 19 (by decide)
theorem zk21 {σ : mS} (h : zB σ) : σ.2.1 21 = (204, 6) := h.1 20 (by decide)
theorem zk22 {σ : mS} (h : zB σ) : σ.2.1 22 = (100, 12) := h.1 21 (by decide)
theorem zk23 {σ : mS} (h : zB σ) : σ.2.1 23 = (100, 12) := h.1 22 (by decide)
theorem zk24 {σ : mS} (h : zB σ) : σ.2.1 24 = (100, 12) := h.1 23 (by decide)
theorem zk25 {σ : mS} (h : zB σ) : σ.2.1 25 = (7, 14) := h.1 24 (by decide)
theorem zk26 {σ : mS} (h : zB σ) : σ.2.1 26 = (100, 64) := h.1 25 (by decide)
theorem zk27 {σ : mS} (h : zB σ) : σ.2.1 27 = (100, 64) := h.1 26 (by decide)
theorem zk28 {σ : mS} (h : zB σ) : σ.2.1 28 = (100, 64) := h.1 27 (by decide)
theorem zk29 {σ : mS} (h : zB σ) : σ.2.1 29 = (100, 8) := h.1 28 (by decide)
theorem zk30 {σ : mS} (h : zB σ) : σ.2.1 30 = (100, 8) := h.1 29 (by decide)
theorem zk31 {σ : mS} (h : zB σ) : σ.2.1 31 = (100, 4) := h.1 30 (by decide)
theorem zk32 {σ : mS} (h : zB σ) : σ.2.1 32 = (204, 6) := h.1 31 (by decide)
theorem zk33 {σ : mS} (h : zB σ) : σ.2.1 33 = (100, 12) := h.1 32 (by decide)
theorem zk34 {σ : mS} (h : zB σ) : σ.2.1 34 = (100, 12) := h.1 33 (by decide)
theorem zk35 {σ : mS} (h : zB σ) : σ.2.1 35 = (100, 12) := h.1 34 (by decide)
theorem zk36 {σ : mS} (h : zB σ) : σ.2.1 36 = (102, 2) := h.1 35 (by decide)
theorem zk37 {σ : mS} (h : zB σ) : σ.2.1 37 = (9, 2) := h.1 36 (by decide)
theorem zk38 {σ : mS} (h : zB σ) : σ.2.1 38 = (100, 400) := h.1 37 (by decide)
theorem zk39 {σ : mS} (h : zB σ) : σ.2.1 39 = (6, 12) := h.1 38 (by decide)
theorem zk40 {σ : mS} (h : zB σ) : σ.2.1 40 = (100, 401) := h.1 39 (by decide)
theorem zk41 {σ : mS} (h : zB σ) : σ.2.1 41 = (100, 401) := h.1 40 (by decide)
theorem zk42 {σ : mS} (h : zB σ) : σ.2.1 42 = (100, 401) := h.1 41 (by decide)
theorem zk43 {σ : mS} (h : zB σ) : σ.2.1 43 = (100, 400) := h.1 42 (by decide)
theorem zk44 {σ : mS} (h : zB σ) : σ.2.1 44 = (100, 12) := h.1 43 (by decide)
theorem zk45 {σ : mS} (h : zB σ) : σ.2.1 45 = (100, 12) := h.1 44 (by decide)
theorem zk46 {σ : mS} (h : zB σ) : σ.2.1 46 = (1, 5) := h.1 45 (by decide)
theorem zk47 {σ : mS} (h : zB σ) : σ.2.1 47 = (203, 24) := h.1 46 (by decide)
theorem zk48 {σ : mS} (h : zB σ) : σ.2.1 48 = (100, 64) := h.1 47 (by decide)
theorem zk49 {σ : mS} (h : zB σ) : σ.2.1 49 = (100, 6) := h.1 48 (by decide)
theorem zk50 {σ : mS} (h : zB σ) : σ.2.1 50 = (100, 64) := h.1 49 (by decide)
theorem zk51 {σ : mS} (h : zB σ) : σ.2.1 51 = (5, 17) := h.1 50 (by decide)
theorem zk52 {σ : mS} (h : zB σ) : σ.2.1 52 = (100, 64) := h.1 51 (by decide)
theorem zk53 {σ : mS} (h : zB σ) : σ.2.1 53 = (100, 64) := h.1 52 (by decide)
theorem zk54 {σ : mS} (h : zB σ) : σ.2.1 54 = (3, 4) := h.1 53 (by decide)
theorem zk55 {σ : mS} (h : zB σ) : σ.2.1 55 = (100, 2048) := h.1 54 (by decide)
theorem zk56 {σ : mS} (h : zB σ) : σ.2.1 56 = (100, 2048) := h.1 55 (by decide)
theorem zk57 {σ : mS} (h : zB σ) : σ.2.1 57 = (100, 64) := h.1 56 (by decide)
theorem zk58 {σ : mS} (h : zB σ) : σ.2.1 58 = (2, 8) := h.1 57 (by decide)
theorem zk59 {σ : mS} (h : zB σ) : σ.2.1 59 = (100, 201) := h.1 58 (by decide)
theorem zk60 {σ : mS} (h : zB σ) : σ.2.1 60 = (100, 201) := h.1 59 (by decide)
theorem zk61 {σ : mS} (h : zB σ) : σ.2.1 61 = (100, 201) := h.1 60 (by decide)
theorem zk62 {σ : mS} (h : zB σ) : σ.2.1 62 = (8, 4) := h.1 61 (by decide)
theorem zk63 {σ : mS} (h : zB σ) : σ.2.1 63 = (100, 64) := h.1 62 (by decide)
theorem zk64 {σ : mS} (h : zB σ) : σ.2.1 64 = (100, 64) := h.1 63 (by decide)
theorem zk65 {σ : mS} (h : zB σ) : σ.2.1 65 = (100, 40) := h.1 64 (by decide)
theorem zk66 {σ : mS} (h : zB σ) : σ.2.1 66 = (100, 40) := h.1 65 (by decide)
theorem zk67 {σ : mS} (h : zB σ) : σ.2.1 67 = (100, 7) := h.1 66 (by decide)
theorem zk68 {σ : mS} (h : zB σ) : σ.2.1 68 = (11, 44) := h.1 67 (by decide)
theorem zk69 {σ : mS} (h : zB σ) : σ.2.1 69 = (100, 7) := h.1 68 (by decide)
theorem zk70 {σ : mS} (h : zB σ) : σ.2.1 70 = (100, 4994) := h.1 69 (by decide)
theorem zk71 {σ : mS} (h : zB σ) : σ.2.1 71 = (100, 9988) := h.1 70 (by decide)
theorem zk72 {σ : mS} (h : zB σ) : σ.2.1 72 = (102, 2) := h.1 71 (by decide)
theorem zk73 {σ : mS} (h : zB σ) : σ.2.1 73 = (101, 53) := h.1 72 (by decide)
theorem zk74 {σ : mS} (h : zB σ) : σ.2.1 74 = (101, 400) := h.1 73 (by decide)
theorem zk75 {σ : mS} (h : zB σ) : σ.2.1 75 = (100, 5) := h.1 74 (by decide)
theorem zk76 {σ : mS} (h : zB σ) : σ.2.1 76 = (100, 401) := h.1 75 (by decide)
theorem zk77 {σ : mS} (h : zB σ) : σ.2.1 77 = (100, 401) := h.1 76 (by decide)
theorem zk78 {σ : mS} (h : zB σ) : σ.2.1 78 = (100, 401) := h.1 77 (by decide)
theorem zk79 {σ : mS} (h : zB σ) : σ.2.1 79 = (100, 6) := h.1 78 (by decide)
theorem zk80 {σ : mS} (h : zB σ) : σ.2.1 80 = (100, 49152) := h.1 79 (by decide)
theorem zk81 {σ : mS} (h : zB σ) : σ.2.1 81 = (100, 24) := h.1 80 (by decide)
theorem zk82 {σ : mS} (h : zB σ) : σ.2.1 82 = (100, 64) := h.1 81 (by decide)
theorem zk83 {σ : mS} (h : zB σ) : σ.2.1 83 = (100, 201) := h.1 82 (by decide)
theorem zk84 {σ : mS} (h : zB σ) : σ.2.1 84 = (100, 201) := h.1 83 (by decide)
theorem zk85 {σ : mS} (h : zB σ) : σ.2.1 85 = (100, 64) := h.1 84 (by decide)
theorem zk86 {σ : mS} (h : zB σ) : σ.2.1 86 = (100, 64) := h.1 85 (by decide)
theorem zk87 {σ : mS} (h : zB σ) : σ.2.1 87 = (100, 64) := h.1 86 (by decide)
theorem zk88 {σ : mS} (h : zB σ) : σ.2.1 88 = (102, 64) := h.1 87 (by decide)
theorem zk89 {σ : mS} (h : zB σ) : σ.2.1 89 = (100, 40) := h.1 88 (by decide)
theorem zk90 {σ : mS} (h : zB σ) : σ.2.1 90 = (100, 40) := h.1 89 (by decide)
theorem zr2_0 {σ : mS} (h : zB σ) : σ.1 2 0 = 3 := h.2.1 (2, 0, 3) (List.mem_of_getElem? (i := 0) rfl)
theorem zr2_1 {σ : mS} (h : zB σ) : σ.1 2 1 = 4 := h.2.1 (2, 1, 4) (List.mem_of_getElem? (i := 1) rfl)
theorem zr2_2 {σ : mS} (h : zB σ) : σ.1 2 2 = 5 := h.2.1 (2, 2, 5) (List.mem_of_getElem? (i := 2) rfl)
theorem zr2_3 {σ : mS} (h : zB σ) : σ.1 2 3 = 6 := h.2.1 (2, 3, 6) (List.mem_of_getElem? (i := 3) rfl)
theorem zr2_4 {σ : mS} (h : zB σ) : σ.1 2 4 = 7 := h.2.1 (2, 4, 7) (List.mem_of_getElem? (i := 4) rfl)
theorem zr2_6 {σ : mS} (h : zB σ) : σ.1 2 6 = 8 := h.2.1 (2, 6, 8) (List.mem_of_getElem? (i := 5) rfl)
theorem zr2_7 {σ : mS} (h : zB σ) : σ.1 2 7 = 9 := h.2.1 (2, 7, 9) (List.mem_of_getElem? (i := 6) rfl)
theorem zr2_10 {σ : mS} (h : zB σ) : σ.1 2 10 = 10 := h.2.1 (2, 10, 10) (List.mem_of_getElem? (i := 7) rfl)
theorem zr2_11 {σ : mS} (h : zB σ) : σ.1 2 11 = 11 := h.2.1 (2, 11, 11) (List.mem_of_getElem? (i := 8) rfl)
theorem zr2_12 {σ : mS} (h : zB σ) : σ.1 2 12 = 12 := h.2.1 (2, 12, 12) (List.mem_of_getElem? (i := 9) rfl)
theorem zr1_0 {σ : mS} (h : zB σ) : σ.1 1 0 = 2 := h.2.1 (1, 0, 2) (List.mem_of_getElem? (i := 10) rfl)
theorem zr1_1 {σ : mS} (h : zB σ) : σ.1 1 1 = 13 := h.2.1 (1, 1, 13) (List.mem_of_getElem? (i := 11) rfl)
theorem zr14_0 {σ : mS} (h : zB σ) : σ.1 14 0 = 15 := h.2.1 (14, 0, 15) (List.mem_of_getElem? (i := 12) rfl)
theorem zr14_1 {σ : mS} (h : zB σ) : σ.1 14 1 = 16 := h.2.1 (14, 1, 16) (List.mem_of_getElem? (i := 13) rfl)
theorem zr14_2 {σ : mS} (h : zB σ) : σ.1 14 2 = 17 := h.2.1 (14, 2, 17) (List.mem_of_getElem? (i := 14) rfl)
theorem zr14_3 {σ : mS} (h : zB σ) : σ.1 14 3 = 18 := h.2.1 (14, 3, 18) (List.mem_of_getElem? (i := 15) rfl)
theorem zr14_4 {σ : mS} (h : zB σ) : σ.1 14 4 = 19 := h.2.1 (14, 4, 19) (List.mem_of_getElem? (i := 16) rfl)
theorem zr14_6 {σ : mS} (h : zB σ) : σ.1 14 6 = 20 := h.2.1 (14, 6, 20) (List.mem_of_getElem? (i := 17) rfl)
theorem zr14_7 {σ : mS} (h : zB σ) : σ.1 14 7 = 21 := h.2.1 (14, 7, 21) (List.mem_of_getElem? (i := 18) rfl)
theorem zr14_10 {σ : mS} (h : zB σ) : σ.1 14 10 = 22 := h.2.1 (14, 10, 22) (List.mem_of_getElem? (i := 19) rfl)
theorem zr14_11 {σ : mS} (h : zB σ) : σ.1 14 11 = 23 := h.2.1 (14, 11, 23) (List.mem_of_getElem? (i := 20) rfl)
theorem zr14_12 {σ : mS} (h : zB σ) : σ.1 14 12 = 24 := h.2.1 (14, 12, 24) (List.mem_of_getElem? (i := 21) rfl)
theorem zr13_0 {σ : mS} (h : zB σ) : σ.1 13 0 = 14 := h.2.1 (13, 0, 14) (List.mem_of_getElem? (i := 22) rfl)
theorem zr25_0 {σ : mS} (h : zB σ) : σ.1 25 0 = 26 := h.2.1 (25, 0, 26) (List.mem_of_getElem? (i := 23) rfl)
theorem zr25_1 {σ : mS} (h : zB σ) : σ.1 25 1 = 27 := h.2.1 (25, 1, 27) (List.mem_of_getElem? (i := 24) rfl)
theorem zr25_2 {σ : mS} (h : zB σ) : σ.1 25 2 = 28 := h.2.1 (25, 2, 28) (List.mem_of_getElem? (i := 25) rfl)
theorem zr25_3 {σ : mS} (h : zB σ) : σ.1 25 3 = 29 := h.2.1 (25, 3, 29) (List.mem_of_getElem? (i := 26) rfl)
theorem zr25_4 {σ : mS} (h : zB σ) : σ.1 25 4 = 30 := h.2.1 (25, 4, 30) (List.mem_of_getElem? (i := 27) rfl)
theorem zr25_6 {σ : mS} (h : zB σ) : σ.1 25 6 = 31 := h.2.1 (25, 6, 31) (List.mem_of_getElem? (i := 28) rfl)
theorem zr25_7 {σ : mS} (h : zB σ) : σ.1 25 7 = 32 := h.2.1 (25, 7, 32) (List.mem_of_getElem? (i := 29) rfl)
theorem zr25_10 {σ : mS} (h : zB σ) : σ.1 25 10 = 33 := h.2.1 (25, 10, 33) (List.mem_of_getElem? (i := 30) rfl)
theorem zr25_11 {σ : mS} (h : zB σ) : σ.1 25 11 = 34 := h.2.1 (25, 11, 34) (List.mem_of_getElem? (i := 31) rfl)
theorem zr25_12 {σ : mS} (h : zB σ) : σ.1 25 12 = 35 := h.2.1 (25, 12, 35) (List.mem_of_getElem? (i := 32) rfl)
theorem zr13_1 {σ : mS} (h : zB σ) : σ.1 13 1 = 25 := h.2.1 (13, 1, 25) (List.mem_of_getElem? (i := 33) rfl)
theorem zr1_2 {σ : mS} (h : zB σ) : σ.1 1 2 = 36 := h.2.1 (1, 2, 36) (List.mem_of_getElem? (i := 34) rfl)
theorem zr37_0 {σ : mS} (h : zB σ) : σ.1 37 0 = 38 := h.2.1 (37, 0, 38) (List.mem_of_getElem? (i := 35) rfl)
theorem zr1_3 {σ : mS} (h : zB σ) : σ.1 1 3 = 37 := h.2.1 (1, 3, 37) (List.mem_of_getElem? (i := 36) rfl)
theorem zr39_0 {σ : mS} (h : zB σ) : σ.1 39 0 = 40 := h.2.1 (39, 0, 40) (List.mem_of_getElem? (i := 37) rfl)
theorem zr39_1 {σ : mS} (h : zB σ) : σ.1 39 1 = 41 := h.2.1 (39, 1, 41) (List.mem_of_getElem? (i := 38) rfl)
theorem zr39_2 {σ : mS} (h : zB σ) : σ.1 39 2 = 42 := h.2.1 (39, 2, 42) (List.mem_of_getElem? (i := 39) rfl)
theorem zr39_5 {σ : mS} (h : zB σ) : σ.1 39 5 = 43 := h.2.1 (39, 5, 43) (List.mem_of_getElem? (i := 40) rfl)
theorem zr39_7 {σ : mS} (h : zB σ) : σ.1 39 7 = 44 := h.2.1 (39, 7, 44) (List.mem_of_getElem? (i := 41) rfl)
theorem zr39_8 {σ : mS} (h : zB σ) : σ.1 39 8 = 45 := h.2.1 (39, 8, 45) (List.mem_of_getElem? (i := 42) rfl)
theorem zr1_4 {σ : mS} (h : zB σ) : σ.1 1 4 = 39 := h.2.1 (1, 4, 39) (List.mem_of_getElem? (i := 43) rfl)
theorem zr46_1 {σ : mS} (h : zB σ) : σ.1 46 1 = 47 := h.2.1 (46, 1, 47) (List.mem_of_getElem? (i := 44) rfl)
theorem zr46_2 {σ : mS} (h : zB σ) : σ.1 46 2 = 48 := h.2.1 (46, 2, 48) (List.mem_of_getElem? (i := 45) rfl)
theorem zr46_3 {σ : mS} (h : zB σ) : σ.1 46 3 = 49 := h.2.1 (46, 3, 49) (List.mem_of_getElem? (i := 46) rfl)
theorem zr46_4 {σ : mS} (h : zB σ) : σ.1 46 4 = 50 := h.2.1 (46, 4, 50) (List.mem_of_getElem? (i := 47) rfl)
theorem zr46_0 {σ : mS} (h : zB σ) : σ.1 46 0 = 2 := h.2.1 (46, 0, 2) (List.mem_of_getElem? (i := 48) rfl)
theorem zr1_5 {σ : mS} (h : zB σ) : σ.1 1 5 = 46 := h.2.1 (1, 5, 46) (List.mem_of_getElem? (i := 49) rfl)
theorem zr51_2 {σ : mS} (h : zB σ) : σ.1 51 2 = 52 := h.2.1 (51, 2, 52) (List.mem_of_getElem? (i := 50) rfl)
theorem zr51_10 {σ : mS} (h : zB σ) : σ.1 51 10 = 53 := h.2.1 (51, 10, 53) (List.mem_of_getElem? (i := 51) rfl)
theorem zr51_0 {σ : mS} (h : zB σ) : σ.1 51 0 = 2 := h.2.1 (51, 0, 2) (List.mem_of_getElem? (i := 52) rfl)
theorem zr51_1 {σ : mS} (h : zB σ) : σ.1 51 1 = 46 := h.2.1 (51, 1, 46) (List.mem_of_getElem? (i := 53) rfl)
theorem zr54_1 {σ : mS} (h : zB σ) : σ.1 54 1 = 55 := h.2.1 (54, 1, 55) (List.mem_of_getElem? (i := 54) rfl)
theorem zr54_2 {σ : mS} (h : zB σ) : σ.1 54 2 = 56 := h.2.1 (54, 2, 56) (List.mem_of_getElem? (i := 55) rfl)
theorem zr54_3 {σ : mS} (h : zB σ) : σ.1 54 3 = 57 := h.2.1 (54, 3, 57) (List.mem_of_getElem? (i := 56) rfl)
theorem zr1_6 {σ : mS} (h : zB σ) : σ.1 1 6 = 51 := h.2.1 (1, 6, 51) (List.mem_of_getElem? (i := 57) rfl)
theorem zr58_1 {σ : mS} (h : zB σ) : σ.1 58 1 = 59 := h.2.1 (58, 1, 59) (List.mem_of_getElem? (i := 58) rfl)
theorem zr58_2 {σ : mS} (h : zB σ) : σ.1 58 2 = 60 := h.2.1 (58, 2, 60) (List.mem_of_getElem? (i := 59) rfl)
theorem zr58_3 {σ : mS} (h : zB σ) : σ.1 58 3 = 61 := h.2.1 (58, 3, 61) (List.mem_of_getElem? (i := 60) rfl)
theorem zr58_0 {σ : mS} (h : zB σ) : σ.1 58 0 = 51 := h.2.1 (58, 0, 51) (List.mem_of_getElem? (i := 61) rfl)
theorem zr1_7 {σ : mS} (h : zB σ) : σ.1 1 7 = 58 := h.2.1 (1, 7, 58) (List.mem_of_getElem? (i := 62) rfl)
theorem zr62_2 {σ : mS} (h : zB σ) : σ.1 62 2 = 63 := h.2.1 (62, 2, 63) (List.mem_of_getElem? (i := 63) rfl)
theorem zr62_3 {σ : mS} (h : zB σ) : σ.1 62 3 = 64 := h.2.1 (62, 3, 64) (List.mem_of_getElem? (i := 64) rfl)
theorem zr62_0 {σ : mS} (h : zB σ) : σ.1 62 0 = 2 := h.2.1 (62, 0, 2) (List.mem_of_getElem? (i := 65) rfl)
theorem zr62_1 {σ : mS} (h : zB σ) : σ.1 62 1 = 51 := h.2.1 (62, 1, 51) (List.mem_of_getElem? (i := 66) rfl)
theorem zr1_8 {σ : mS} (h : zB σ) : σ.1 1 8 = 62 := h.2.1 (1, 8, 62) (List.mem_of_getElem? (i := 67) rfl)
theorem zr1_9 {σ : mS} (h : zB σ) : σ.1 1 9 = 65 := h.2.1 (1, 9, 65) (List.mem_of_getElem? (i := 68) rfl)
theorem zr1_10 {σ : mS} (h : zB σ) : σ.1 1 10 = 66 := h.2.1 (1, 10, 66) (List.mem_of_getElem? (i := 69) rfl)
theorem zr1_15 {σ : mS} (h : zB σ) : σ.1 1 15 = 67 := h.2.1 (1, 15, 67) (List.mem_of_getElem? (i := 70) rfl)
theorem zr68_2 {σ : mS} (h : zB σ) : σ.1 68 2 = 69 := h.2.1 (68, 2, 69) (List.mem_of_getElem? (i := 71) rfl)
theorem zr68_3 {σ : mS} (h : zB σ) : σ.1 68 3 = 70 := h.2.1 (68, 3, 70) (List.mem_of_getElem? (i := 72) rfl)
theorem zr68_4 {σ : mS} (h : zB σ) : σ.1 68 4 = 71 := h.2.1 (68, 4, 71) (List.mem_of_getElem? (i := 73) rfl)
theorem zr68_5 {σ : mS} (h : zB σ) : σ.1 68 5 = 72 := h.2.1 (68, 5, 72) (List.mem_of_getElem? (i := 74) rfl)
theorem zr68_7 {σ : mS} (h : zB σ) : σ.1 68 7 = 73 := h.2.1 (68, 7, 73) (List.mem_of_getElem? (i := 75) rfl)
theorem zr68_8 {σ : mS} (h : zB σ) : σ.1 68 8 = 74 := h.2.1 (68, 8, 74) (List.mem_of_getElem? (i := 76) rfl)
theorem zr68_9 {σ : mS} (h : zB σ) : σ.1 68 9 = 75 := h.2.1 (68, 9, 75) (List.mem_of_getElem? (i := 77) rfl)
theorem zr68_12 {σ : mS} (h : zB σ) : σ.1 68 12 = 76 := h.2.1 (68, 12, 76) (List.mem_of_getElem? (i := 78) rfl)
theorem zr68_13 {σ : mS} (h : zB σ) : σ.1 68 13 = 77 := h.2.1 (68, 13, 77) (List.mem_of_getElem? (i := 79) rfl)
theorem zr68_14 {σ : mS} (h : zB σ) : σ.1 68 14 = 78 := h.2.1 (68, 14, 78) (List.mem_of_getElem? (i := 80) rfl)
theorem zr68_22 {σ : mS} (h : zB σ) : σ.1 68 22 = 79 := h.2.1 (68, 22, 79) (List.mem_of_getElem? (i := 81) rfl)
theorem zr68_23 {σ : mS} (h : zB σ) : σ.1 68 23 = 80 := h.2.1 (68, 23, 80) (List.mem_of_getElem? (i := 82) rfl)
theorem zr68_24 {σ : mS} (h : zB σ) : σ.1 68 24 = 81 := h.2.1 (68, 24, 81) (List.mem_of_getElem? (i := 83) rfl)
theorem zr68_26 {σ : mS} (h : zB σ) : σ.1 68 26 = 82 := h.2.1 (68, 26, 82) (List.mem_of_getElem? (i := 84) rfl)
theorem zr68_35 {σ : mS} (h : zB σ) : σ.1 68 35 = 83 := h.2.1 (68, 35, 83) (List.mem_of_getElem? (i := 85) rfl)
theorem zr68_36 {σ : mS} (h : zB σ) : σ.1 68 36 = 84 := h.2.1 (68, 36, 84) (List.mem_of_getElem? (i := 86) rfl)
theorem zr68_37 {σ : mS} (h : zB σ) : σ.1 68 37 = 85 := h.2.1 (68, 37, 85) (List.mem_of_getElem? (i := 87) rfl)
theorem zr68_38 {σ : mS} (h : zB σ) : σ.1 68 38 = 86 := h.2.1 (68, 38, 86) (List.mem_of_getElem? (i := 88) rfl)
theorem zr68_39 {σ : mS} (h : zB σ) : σ.1 68 39 = 87 := h.2.1 (68, 39, 87) (List.mem_of_getElem? (i := 89) rfl)
theorem zr68_40 {σ : mS} (h : zB σ) : σ.1 68 40 = 88 := h.2.1 (68, 40, 88) (List.mem_of_getElem? (i := 90) rfl)
theorem zr68_41 {σ : mS} (h : zB σ) : σ.1 68 41 = 89 := h.2.1 (68, 41, 89) (List.mem_of_getElem? (i := 91) rfl)
theorem zr68_42 {σ : mS} (h : zB σ) : σ.1 68 42 = 90 := h.2.1 (68, 42, 90) (List.mem_of_getElem? (i := 92) rfl)
/-- slots that hold no reference, and no constant -/
def zokr (r i : Int) : Bool := zrefl.all (fun q => !(q.1 == r && q.2.1 == i)) && !(r == 52) && !(r == 73) && decide (0 < r)
theorem zB_mup {σ : mS} {r i v : Int} (h : zB σ) (ok : zokr r i = true) : zB (mup σ.1 r i v, σ.2) := by
  have hk : (∀ q ∈ zrefl, ¬ (q.1 = r ∧ q.2.1 = i)) ∧ r ≠ 52 ∧ r ≠ 73 ∧ 0 < r := by
    simp only [zokr, Bool.and_eq_true, List.all_eq_true, Bool.not_eq_true', beq_eq_false_iff_ne, decide_eq_true_eq, Bool.and_eq_false_iff] at ok
    refine ⟨fun q hq ⟨e1, e2⟩ => ?_, ok.1.1.2, ok.1.2, ok.2⟩
    cases ok.1.1.1 q hq with
    | inl x => exact x e1
    | inr x => exact x e2
  obtain ⟨h1, h2, h3, h4, h5, h6, h7⟩ := h
  obtain ⟨k1, k2, k3, k4⟩ := hk
  have ne : ∀ r', r' ≤ 0 → r' ≠ r := fun r' h => by omega
  refine ⟨h1, ?_, ?_, ?_, ?_, ?_, ?_⟩
  · intro q hq
    have e := k1 q hq
    show mup σ.1 r i v q.1 q.2.1 = q.2.2
    by_cases e1 : q.1 = r
    · rw [e1, mup_slot (fun e2 => e ⟨e1, e2⟩), ← e1]; exact h2 q hq
    · rw [mup_cell e1]; exact h2 q hq
  · intro i' a b; show mup σ.1 r i v 52 i' = -1; rw [mup_cell (Ne.symm k2)]; exact h3 i' a b
  · intro n a; show mup σ.1 r i v 73 n = _; rw [mup_cell (Ne.symm k3)]; exact h4 n a
  · refine ⟨h5.1, ?_, ?_, ?_, ?_⟩ <;> (show mup σ.1 r i v (-2) _ = _; rw [mup_cell (ne _ (by decide))])
    · exact h5.2.1
    · exact h5.2.2.1
    · exact h5.2.2.2.1
    · exact h5.2.2.2.2
  · refine ⟨h6.1, ?_, ?_, ?_, ?_⟩ <;> (show mup σ.1 r i v (-3) _ = _; rw [mup_cell (ne _ (by decide))])
    · exact h6.2.1
    · exact h6.2.2.1
    · exact h6.2.2.2.1
    · exact h6.2.2.2.2
  · intro n hn
    refine ⟨(h7 n hn).1, fun j hj => ?_⟩
    show mup σ.1 r i v _ _ = _
    rw [mup_cell (ne _ (by omega))]
    exact (h7 n hn).2 j hj
theorem zokr_arr {r i : Int} (h : (zrefl.all (fun q => !(q.1 == r)) && !(r == 52) && !(r == 73) && decide (0 < r)) = true) : zokr r i = true := by
  unfold zokr
  simp only [Bool.and_eq_true, List.all_eq_true] at h ⊢
  refine ⟨⟨⟨fun q hq => ?_, h.1.1.2⟩, h.1.2⟩, h.2⟩
  have := h.1.1.1 q hq
  simp only [Bool.not_eq_true', beq_eq_false_iff_ne] at this ⊢
  simp [this]
theorem zokr_big {r i : Int} (h : 90 < r) : zokr r i = true := by
  apply zokr_arr
  have : ∀ q ∈ zrefl, q.1 ≤ 90 := by decide +kernel
  simp only [Bool.and_eq_true, List.all_eq_true, Bool.not_eq_true', beq_eq_false_iff_ne, decide_eq_true_eq]
  refine ⟨⟨⟨fun q hq => ?_, by omega⟩, by omega⟩, by omega⟩
  have := this q hq
  omega

