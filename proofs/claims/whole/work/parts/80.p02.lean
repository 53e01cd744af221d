/-! THE SMALL STACK of a law: what instructions do -/
def zkop (kd : Int) : Int := if kd = 5 then 43 else if kd = 6 then 45 else if kd = 7 then 42 else if kd = 8 then 47 else if kd = 9 then 60 else if kd = 10 then 62 else 61
def zst (c w : Int → Int) (x : Int × List Int) : Option (Int × List Int) :=
  if c x.1 % 16 ≤ 1 then (if 64 ≤ x.2.length then none else some (x.1 + 1, (if c x.1 % 16 = 0 then c x.1 / 16 else w (c x.1 / 16)) :: x.2))
  else if c x.1 % 16 ≤ 4 then (match x.2 with
    | [] => none
    | v :: r => if c x.1 % 16 = 2 then some (x.1 + 1, w32 (1 - v) :: r) else if (c x.1 % 16 = 4 ∧ v = 1) ∨ (c x.1 % 16 ≠ 4 ∧ v ≠ 1) then some (if x.1 < c x.1 / 16 then c x.1 / 16 else x.1 + 1, v :: r) else some (x.1 + 1, r))
  else (match x.2 with
    | y :: z :: r => (zop (zkop (c x.1 % 16)) z y).bind fun v => some (x.1 + 1, v :: r)
    | _ => none)
/-- n instructions, all below e -/
def zrn (c w : Int → Int) (e : Int) : Nat → Int × List Int → Option (Int × List Int) → Prop
  | 0, x, y => y = some x
  | n + 1, x, y => x.1 < e ∧ ((zst c w x = none ∧ y = none) ∨ ∃ x', zst c w x = some x' ∧ zrn c w e n x' y)
theorem zrn_comp {c w : Int → Int} {e : Int} {y : Option (Int × List Int)} : ∀ (n m : Nat) (x x' : Int × List Int), zrn c w e n x (some x') → zrn c w e m x' y → zrn c w e (n + m) x y := by
  intro n
  induction n with
  | zero => intro m x x' h1 h2; cases h1; rw [Nat.zero_add]; exact h2
  | succ n ih =>
    intro m x x' ⟨h1, h2⟩ h3
    rw [Nat.add_right_comm]
    refine ⟨h1, ?_⟩
    rcases h2 with ⟨_, h⟩ | ⟨z, h4, h5⟩
    · cases h
    · exact Or.inr ⟨z, h4, ih m z x' h5 h3⟩
theorem zrn_up {c w : Int → Int} {e e' : Int} (he : e ≤ e') {y : Option (Int × List Int)} : ∀ (n : Nat) (x : Int × List Int), zrn c w e n x y → zrn c w e' n x y := by
  intro n
  induction n with
  | zero => intro x h; exact h
  | succ n ih =>
    intro x ⟨h1, h2⟩
    refine ⟨by omega, ?_⟩
    rcases h2 with h | ⟨z, h4, h5⟩
    · exact Or.inl h
    · exact Or.inr ⟨z, h4, ih z h5⟩
theorem zrn_one {c w : Int → Int} {e : Int} {x x' : Int × List Int} (h1 : x.1 < e) (h : zst c w x = some x') : zrn c w e 1 x (some x') := ⟨h1, Or.inr ⟨x', h, rfl⟩⟩
theorem zrn_oneN {c w : Int → Int} {e : Int} {x : Int × List Int} (h1 : x.1 < e) (h : zst c w x = none) : zrn c w e 1 x none := ⟨h1, Or.inl ⟨h, rfl⟩⟩
/-- code that the small stack can run -/
def zCk (c : Int → Int) (i j : Int) : Prop := ∀ k, i ≤ k → k < j → (0 ≤ c k ∧ c k < 16100) ∧ c k % 16 ≤ 11 ∧ (c k % 16 = 1 → c k / 16 < 6)
/-- the instructions from i to j tell d, with np parts -/
def zF (c : Int → Int) (i j np : Int) (d : zDn) : Prop := i < j ∧ 1 ≤ np ∧ zCk c i j ∧
  ∀ c' : Int → Int, (∀ k, i ≤ k → k < j → c' k = c k) → ∀ w, zwok w → ∀ st : List Int, (st.length : Int) + np ≤ 64 →
    (∀ v, d w = some v → ∃ n, zrn c' w j n (i, st) (some (j, v :: st))) ∧ (d w = none → ∃ n, zrn c' w j n (i, st) none)
theorem zF_of {c c' : Int → Int} {i j np : Int} {d : zDn} (h : zF c i j np d) (e : ∀ k, i ≤ k → k < j → c' k = c k) : zF c' i j np d :=
  ⟨h.1, h.2.1, fun k a b => by rw [e k a b]; exact h.2.2.1 k a b, fun c2 e2 => h.2.2.2 c2 (fun k a b => (e2 k a b).trans (e k a b))⟩
theorem zF_leaf {c : Int → Int} {i kd n : Int} {d : zDn} (hc : c i = 16 * n + kd) (hn : 0 ≤ n ∧ n ≤ 1000) (hn6 : kd = 1 → n < 6) (hd : (kd = 0 ∧ d = fun _ => some n) ∨ (kd = 1 ∧ d = fun w => some (w n))) : zF c i (i + 1) 1 d := by
  have e1 : c i % 16 = kd := by omega
  have e2 : c i / 16 = n := by omega
  refine ⟨by omega, by omega, fun k a b => (by
    have : k = i := by omega
    rw [this, e1, e2]; omega), ?_⟩
  intro c' hc' w hw st hst
  have ec := hc' i (by omega) (by omega)
  have st' : ¬ 64 ≤ st.length := by omega
  rcases hd with ⟨k0, rfl⟩ | ⟨k0, rfl⟩
  · subst k0
    refine ⟨fun v hv => ⟨1, zrn_one (show i < i + 1 by omega) ?_⟩, fun h => by cases h⟩
    cases hv
    unfold zst
    simp only [ec, e1, e2, if_neg st', if_pos (show (0 : Int) ≤ 1 by decide), if_true]
  · subst k0
    refine ⟨fun v hv => ⟨1, zrn_one (show i < i + 1 by omega) ?_⟩, fun h => by cases h⟩
    cases hv
    unfold zst
    simp only [ec, e1, e2, if_neg st', if_pos (show (1 : Int) ≤ 1 by decide), if_neg (show ¬ (1 : Int) = 0 by decide)]
theorem zF_bin {c : Int → Int} {i j k p q kd : Int} {d e : zDn} (h1 : zF c i j p d) (h2 : zF c j k q e) (hc : c k = kd) (hk : 5 ≤ kd ∧ kd ≤ 11) : zF c i (k + 1) (p + q) (zbin (zkop kd) d e) := by
  obtain ⟨a1, a2, a3, a4⟩ := h1
  obtain ⟨b1, b2, b3, b4⟩ := h2
  have e1 : c k % 16 = kd := by omega
  refine ⟨by omega, by omega, fun m x y => ?_, ?_⟩
  · by_cases c1 : m < j
    · exact a3 m x c1
    · by_cases c2 : m < k
      · exact b3 m (by omega) c2
      · have : m = k := by omega
        rw [this]; omega
  · intro c' hc' w hw st hst
    obtain ⟨a5, a6⟩ := a4 c' (fun m x y => hc' m x (by omega)) w hw st (by omega)
    have ec : c' k = c k := hc' k (by omega) (by omega)
    unfold zbin
    cases ed : d w with
    | none =>
      obtain ⟨n, g⟩ := a6 ed
      exact ⟨fun v hv => (by cases hv), fun _ => ⟨n, zrn_up (by omega) n _ g⟩⟩
    | some x =>
      obtain ⟨n, g⟩ := a5 x ed
      have g := zrn_up (e' := k + 1) (by omega) n _ g
      obtain ⟨b5, b6⟩ := b4 c' (fun m x y => hc' m (by omega) (by omega)) w hw (x :: st) (by rw [List.length_cons]; omega)
      cases ee : e w with
      | none =>
        obtain ⟨m, g'⟩ := b6 ee
        exact ⟨fun v hv => (by cases hv), fun _ => ⟨n + m, zrn_comp n m _ _ g (zrn_up (by omega) m _ g')⟩⟩
      | some y =>
        obtain ⟨m, g'⟩ := b5 y ee
        have g2 := zrn_comp n m _ _ g (zrn_up (e' := k + 1) (by omega) m _ g')
        have es : zst c' w (k, y :: x :: st) = (zop (zkop kd) x y).bind fun v => some (k + 1, v :: st) := by
          unfold zst
          simp only [ec, e1]
          rw [if_neg (by omega), if_neg (by omega)]
        show (∀ v, zop (zkop kd) x y = some v → _) ∧ (zop (zkop kd) x y = none → _)
        refine ⟨fun v hv => ⟨n + m + 1, zrn_comp (n + m) 1 _ _ g2 (zrn_one (show k < k + 1 by omega) ?_)⟩, fun hv => ⟨n + m + 1, zrn_comp (n + m) 1 _ _ g2 (zrn_oneN (show k < k + 1 by omega) ?_)⟩⟩
        · rw [es, hv]; rfl
        · rw [es, hv]; rfl
theorem zF_con {c : Int → Int} {i j k p q kd s : Int} {d e : zDn} (h1 : zF c i j p d) (hc : c j = 16 * k + kd) (h2 : zF c (j + 1) k q e) (hk0 : 0 ≤ k ∧ k ≤ 1000) (hk : (kd = 4 ∧ s = 261) ∨ (kd = 3 ∧ s = 262)) : zF c i k (p + q) (zcon s d e) := by
  obtain ⟨a1, a2, a3, a4⟩ := h1
  obtain ⟨b1, b2, b3, b4⟩ := h2
  have e1 : c j % 16 = kd := by omega
  have e2 : c j / 16 = k := by omega
  refine ⟨by omega, by omega, fun m x y => ?_, ?_⟩
  · by_cases c1 : m < j
    · exact a3 m x c1
    · by_cases c2 : m = j
      · rw [c2]; omega
      · exact b3 m (by omega) y
  · intro c' hc' w hw st hst
    obtain ⟨a5, a6⟩ := a4 c' (fun m x y => hc' m x (by omega)) w hw st (by omega)
    have ec : c' j = c j := hc' j (by omega) (by omega)
    unfold zcon
    cases ed : d w with
    | none =>
      obtain ⟨n, g⟩ := a6 ed
      exact ⟨fun v hv => (by cases hv), fun _ => ⟨n, zrn_up (by omega) n _ g⟩⟩
    | some x =>
      obtain ⟨n, g⟩ := a5 x ed
      have g := zrn_up (e' := k) (by omega) n _ g
      have es : zst c' w (j, x :: st) = if (kd = 4 ∧ x = 1) ∨ (kd ≠ 4 ∧ x ≠ 1) then some (k, x :: st) else some (j + 1, st) := by
        unfold zst
        simp only [ec, e1, e2]
        rw [if_neg (by omega), if_pos (by omega), if_neg (by omega), if_pos (show j < k by omega)]
      show (∀ v, (if (s = 261 ∧ x = 1) ∨ (s ≠ 261 ∧ x ≠ 1) then some x else e w) = some v → _) ∧ ((if (s = 261 ∧ x = 1) ∨ (s ≠ 261 ∧ x ≠ 1) then some x else e w) = none → _)
      by_cases cc : (s = 261 ∧ x = 1) ∨ (s ≠ 261 ∧ x ≠ 1)
      · rw [if_pos cc]
        refine ⟨fun v hv => ?_, fun h => by cases h⟩
        cases hv
        exact ⟨n + 1, zrn_comp n 1 _ _ g (zrn_one (show j < k by omega) (by rw [es, if_pos (by omega)]))⟩
      · rw [if_neg cc]
        have g2 := zrn_comp n 1 _ _ g (zrn_one (x' := (j + 1, st)) (show j < k by omega) (by rw [es, if_neg (by omega)]))
        obtain ⟨b5, b6⟩ := b4 c' (fun m x y => hc' m (by omega) y) w hw st (by omega)
        refine ⟨fun v hv => ?_, fun hv => ?_⟩
        · obtain ⟨m, g'⟩ := b5 v hv
          exact ⟨n + 1 + m, zrn_comp (n + 1) m _ _ g2 g'⟩
        · obtain ⟨m, g'⟩ := b6 hv
          exact ⟨n + 1 + m, zrn_comp (n + 1) m _ _ g2 g'⟩
theorem zF_neg {c : Int → Int} {i j p : Int} {d : zDn} (h1 : zF c i j p d) (hd : zD1 d) (hc : c j = 2) : zF c i (j + 1) p (zneg d) := by
  obtain ⟨a1, a2, a3, a4⟩ := h1
  have e1 : c j % 16 = 2 := by omega
  refine ⟨by omega, a2, fun m x y => ?_, ?_⟩
  · by_cases c1 : m < j
    · exact a3 m x c1
    · have : m = j := by omega
      rw [this]; omega
  · intro c' hc' w hw st hst
    obtain ⟨a5, a6⟩ := a4 c' (fun m x y => hc' m x (by omega)) w hw st (by omega)
    have ec : c' j = c j := hc' j (by omega) (by omega)
    unfold zneg
    cases ed : d w with
    | none =>
      obtain ⟨n, g⟩ := a6 ed
      exact ⟨fun v hv => (by cases hv), fun _ => ⟨n, zrn_up (by omega) n _ g⟩⟩
    | some x =>
      obtain ⟨n, g⟩ := a5 x ed
      have g := zrn_up (e' := j + 1) (by omega) n _ g
      have es : zst c' w (j, x :: st) = some (j + 1, (1 - x) :: st) := by
        have x1 := hd w x ed
        have ew : w32 (1 - x) = 1 - x := w32_in (by omega) (by omega)
        unfold zst
        simp only [ec, e1, ew]
        rw [if_neg (by omega), if_pos (by omega), if_pos trivial]
      refine ⟨fun v hv => ?_, fun h => by cases h⟩
      have hv : some (1 - x) = some v := hv
      cases hv
      exact ⟨n + 1, zrn_comp n 1 _ _ g (zrn_one (show j < j + 1 by omega) es)⟩
