/-! THE LAW'S TEXT: a reading of tokens as a function, with what is read as a function of the six words -/
abbrev zDn : Type := (Int → Int) → Option Int
/-- a reading: 1 if it is done; the next token; parts; what it tells -/
abbrev zRe : Type := Nat × Nat × Nat × zDn
def zno (a p : Nat) : zRe := (0, a, p, fun _ => none)
def zchk (x : Int) : Option Int := if x ≤ 1000000000 ∧ -1000000000 ≤ x then some x else none
def zop (k x y : Int) : Option Int := if k = 43 then zchk (x + y) else if k = 45 then zchk (x - y) else if k = 42 then zchk (x * y) else if k = 47 then (if y = 0 then none else zchk (Int.tdiv x y)) else if k = 60 then some (if x < y then 1 else 0) else if k = 62 then some (if y < x then 1 else 0) else some (if x = y then 1 else 0)
def zbin (k : Int) (d e : zDn) : zDn := fun w => (d w).bind fun x => (e w).bind fun y => zop k x y
def zcon (k : Int) (d e : zDn) : zDn := fun w => (d w).bind fun x => if (k = 261 ∧ x = 1) ∨ (k ≠ 261 ∧ x ≠ 1) then some x else e w
def zneg (d : zDn) : zDn := fun w => (d w).bind fun x => some (1 - x)
def zLp (K : Nat → Int) (o1 o2 : Int) (cmb : Int → zDn → zDn → zDn) (sub : Nat → Nat → zRe) : Nat → Nat → Nat → zDn → zRe
  | 0, a, p, _ => zno a p
  | n + 1, a, p, d => if K a = o1 ∨ K a = o2 then (if (sub (a + 1) p).1 = 1 then zLp K o1 o2 cmb sub n (sub (a + 1) p).2.1 (sub (a + 1) p).2.2.1 (cmb (K a) d (sub (a + 1) p).2.2.2) else sub (a + 1) p) else (1, a, p, d)
def zCh (K : Nat → Int) (o1 o2 : Int) (cmb : Int → zDn → zDn → zDn) (sub : Nat → Nat → zRe) (a p : Nat) : zRe :=
  if (sub a p).1 = 1 then zLp K o1 o2 cmb sub 401 (sub a p).2.1 (sub a p).2.2.1 (sub a p).2.2.2 else sub a p
/-- brackets -/
def zBr (K : Nat → Int) (cl : Int) (g : Nat → Nat → zRe) (a p : Nat) : zRe :=
  if (g (a + 1) p).1 = 1 then (if K (g (a + 1) p).2.1 = cl then (1, (g (a + 1) p).2.1 + 1, (g (a + 1) p).2.2.1, (g (a + 1) p).2.2.2) else zno (g (a + 1) p).2.1 (g (a + 1) p).2.2.1) else g (a + 1) p
def zLeaf (K V : Nat → Int) (a p : Nat) : zRe := if ((K a = 257 ∧ V a ≤ 1000) ∨ (264 ≤ K a ∧ K a < 270)) ∧ p < 50 then (1, a + 1, p + 1, fun w => some (if K a = 257 then V a else w (K a - 264))) else zno a p
def zPart (K V : Nat → Int) (g : Nat → Nat → zRe) (a p : Nat) : zRe := if K a = 91 then zBr K 93 g a p else zLeaf K V a p
def zPart0 (K V : Nat → Int) (a p : Nat) : zRe := if K a = 91 then zno a p else zLeaf K V a p
/-- a part, where f brackets more may be opened; a term; a sum -/
def zPartF (K V : Nat → Int) : Nat → Nat → Nat → zRe
  | 0 => zPart0 K V
  | f + 1 => zPart K V (zCh K 43 45 zbin (zCh K 42 47 zbin (zPartF K V f)))
def zTermF (K V : Nat → Int) (f : Nat) : Nat → Nat → zRe := zCh K 42 47 zbin (zPartF K V f)
def zSumF (K V : Nat → Int) (f : Nat) : Nat → Nat → zRe := zCh K 43 45 zbin (zTermF K V f)
theorem zPartF_succ (K V : Nat → Int) (f : Nat) : zPartF K V (f + 1) = zPart K V (zSumF K V f) := rfl
/-- a comparison -/
def zCmp (K : Nat → Int) (s : Nat → Nat → zRe) (a p : Nat) : zRe :=
  if (s a p).1 = 1 then (if K (s a p).2.1 = 60 ∨ K (s a p).2.1 = 62 ∨ K (s a p).2.1 = 61 then
    (if (s ((s a p).2.1 + 1) (s a p).2.2.1).1 = 1 then (1, (s ((s a p).2.1 + 1) (s a p).2.2.1).2.1, (s ((s a p).2.1 + 1) (s a p).2.2.1).2.2.1, zbin (K (s a p).2.1) (s a p).2.2.2 (s ((s a p).2.1 + 1) (s a p).2.2.1).2.2.2) else s ((s a p).2.1 + 1) (s a p).2.2.1)
    else zno (s a p).2.1 (s a p).2.2.1) else s a p
/-- tokens that say not -/
def zNt (K : Nat → Int) : Nat → Nat → Nat
  | 0, a => a
  | n + 1, a => if K a = 263 then zNt K n (a + 1) else a
def zNg (m : Nat) (d : zDn) : zDn := if m % 2 = 1 then zneg d else d
def zPl (K : Nat → Int) (g : Nat → Nat → zRe) (s : Nat → Nat → zRe) (a p : Nat) : zRe := if K a = 40 then zBr K 41 g a p else zCmp K s a p
def zPl0 (K : Nat → Int) (s : Nat → Nat → zRe) (a p : Nat) : zRe := if K a = 40 then zno a p else zCmp K s a p
def zPlN (K : Nat → Int) (g : Nat → Nat → zRe) (a p : Nat) : zRe :=
  if (g (zNt K 401 a) p).1 = 1 then (1, (g (zNt K 401 a) p).2.1, (g (zNt K 401 a) p).2.2.1, zNg (zNt K 401 a - a) (g (zNt K 401 a) p).2.2.2) else g (zNt K 401 a) p
def zPlF (K V : Nat → Int) : Nat → Nat → Nat → zRe
  | 0 => zPlN K (zPl0 K (zSumF K V 0))
  | f + 1 => zPlN K (zPl K (zCh K 261 261 zcon (zCh K 262 262 zcon (zPlF K V f))) (zSumF K V (f + 1)))
def zBothF (K V : Nat → Int) (f : Nat) : Nat → Nat → zRe := zCh K 262 262 zcon (zPlF K V f)
def zTestF (K V : Nat → Int) (f : Nat) : Nat → Nat → zRe := zCh K 261 261 zcon (zBothF K V f)
theorem zPlF_succ (K V : Nat → Int) (f : Nat) : zPlF K V (f + 1) = zPlN K (zPl K (zTestF K V f) (zSumF K V (f + 1))) := rfl
/-- where a reading stops -/
def zRok (N : Nat) (Pd : zDn → Prop) (a p : Nat) (r : zRe) : Prop := (r.1 = 1 ∧ a < r.2.1 ∧ r.2.1 ≤ N ∧ p < r.2.2.1 ∧ r.2.2.1 ≤ 50 ∧ Pd r.2.2.2) ∨ (r.1 = 0 ∧ a ≤ r.2.1 ∧ r.2.1 ≤ N)
def zSub (N : Nat) (Pd : zDn → Prop) (s : Nat → Nat → zRe) : Prop := ∀ a p, a ≤ N → p ≤ 50 → zRok N Pd a p (s a p)
theorem zno_ok {N a p : Nat} {Pd : zDn → Prop} (h : a ≤ N) : zRok N Pd a p (zno a p) := Or.inr ⟨rfl, Nat.le_refl _, h⟩
theorem zLp_ok {K : Nat → Int} {N : Nat} {o1 o2 : Int} {cmb : Int → zDn → zDn → zDn} {sub : Nat → Nat → zRe} {Pd : zDn → Prop} (hK : K N ≠ o1 ∧ K N ≠ o2) (hs : zSub N Pd sub) (hc : ∀ k d e, (k = o1 ∨ k = o2) → Pd d → Pd e → Pd (cmb k d e)) : ∀ (n a p : Nat) (d : zDn) (a0 p0 : Nat), a ≤ N → p ≤ 50 → a0 < a → p0 < p → Pd d → N < a + n → zRok N Pd a0 p0 (zLp K o1 o2 cmb sub n a p d) := by
  intro n
  induction n with
  | zero => intro a p d a0 p0 h1 h2 h3 h4 h5 h6; omega
  | succ n ih =>
    intro a p d a0 p0 h1 h2 h3 h4 h5 h6
    unfold zLp
    by_cases c : K a = o1 ∨ K a = o2
    · rw [if_pos c]
      have ne : a ≠ N := by intro e; rw [e] at c; exact c.elim hK.1 hK.2
      rcases hs (a + 1) p (by omega) h2 with ⟨e1, e2, e3, e4, e5, e6⟩ | ⟨e1, e2, e3⟩
      · rw [if_pos e1]
        exact ih _ _ _ a0 p0 e3 e5 (by omega) (by omega) (hc _ _ _ c h5 e6) (by omega)
      · rw [if_neg (by omega)]
        exact Or.inr ⟨e1, by omega, e3⟩
    · rw [if_neg c]
      exact Or.inl ⟨rfl, h3, h1, h4, h2, h5⟩
theorem zCh_ok {K : Nat → Int} {N : Nat} {o1 o2 : Int} {cmb : Int → zDn → zDn → zDn} {sub : Nat → Nat → zRe} {Pd : zDn → Prop} (hN : N ≤ 400) (hK : K N ≠ o1 ∧ K N ≠ o2) (hs : zSub N Pd sub) (hc : ∀ k d e, (k = o1 ∨ k = o2) → Pd d → Pd e → Pd (cmb k d e)) : zSub N Pd (zCh K o1 o2 cmb sub) := by
  intro a p ha hp
  unfold zCh
  rcases hs a p ha hp with ⟨e1, e2, e3, e4, e5, e6⟩ | ⟨e1, e2, e3⟩
  · rw [if_pos e1]
    exact zLp_ok hK hs hc 401 _ _ _ a p e3 e5 e2 e4 e6 (by omega)
  · rw [if_neg (by omega)]
    exact Or.inr ⟨e1, e2, e3⟩
theorem zBr_ok {K : Nat → Int} {N : Nat} {cl : Int} {g : Nat → Nat → zRe} {Pd : zDn → Prop} (hK : K N ≠ cl) (hs : zSub N Pd g) {a p : Nat} (ha : a < N) (hp : p ≤ 50) : zRok N Pd a p (zBr K cl g a p) := by
  unfold zBr
  rcases hs (a + 1) p (by omega) hp with ⟨e1, e2, e3, e4, e5, e6⟩ | ⟨e1, e2, e3⟩
  · rw [if_pos e1]
    by_cases c : K (g (a + 1) p).2.1 = cl
    · rw [if_pos c]
      have ne : (g (a + 1) p).2.1 ≠ N := by intro e; rw [e] at c; exact hK c
      exact Or.inl ⟨rfl, by show a < _ + 1; omega, by show _ + 1 ≤ N; omega, e4, e5, e6⟩
    · rw [if_neg c]
      exact Or.inr ⟨rfl, by show a ≤ (g (a + 1) p).2.1; omega, e3⟩
  · rw [if_neg (by omega)]
    exact Or.inr ⟨e1, by omega, e3⟩
/-- words that may be asked -/
def zwok (w : Int → Int) : Prop := ∀ k, 0 ≤ k → k < 6 → -1000 ≤ w k ∧ w k ≤ 1000
def zDb (d : zDn) : Prop := ∀ w, zwok w → ∀ v, d w = some v → -1000000000 ≤ v ∧ v ≤ 1000000000
def zD1 (d : zDn) : Prop := ∀ w v, d w = some v → v = 0 ∨ v = 1
theorem zchk_some {x v : Int} (h : zchk x = some v) : v = x ∧ x ≤ 1000000000 ∧ -1000000000 ≤ x := by
  unfold zchk at h
  split at h
  · cases h; exact ⟨rfl, by assumption⟩
  · cases h
theorem zop_bd {k x y v : Int} (h : zop k x y = some v) : -1000000000 ≤ v ∧ v ≤ 1000000000 := by
  unfold zop at h
  split at h
  · have := zchk_some h; omega
  split at h
  · have := zchk_some h; omega
  split at h
  · have := zchk_some h; omega
  split at h
  · split at h
    · cases h
    · have := zchk_some h; omega
  split at h
  · cases h; split <;> omega
  split at h
  · cases h; split <;> omega
  · cases h; split <;> omega
theorem zbin_db {k : Int} {d e : zDn} : zDb (zbin k d e) := by
  intro w _ v h
  unfold zbin at h
  cases e1 : d w with
  | none => rw [e1] at h; cases h
  | some x =>
    cases e2 : e w with
    | none => rw [e1, e2] at h; cases h
    | some y => rw [e1, e2] at h; exact zop_bd h
theorem zbin_d1 {k : Int} {d e : zDn} (hk : k = 60 ∨ k = 62 ∨ k = 61) : zD1 (zbin k d e) := by
  intro w v h
  unfold zbin at h
  cases e1 : d w with
  | none => rw [e1] at h; cases h
  | some x =>
    cases e2 : e w with
    | none => rw [e1, e2] at h; cases h
    | some y =>
      rw [e1, e2] at h
      have h : zop k x y = some v := h
      unfold zop at h
      rcases hk with rfl | rfl | rfl
      · simp only [Int.reduceEq, if_false, if_true] at h; cases h; split <;> simp
      · simp only [Int.reduceEq, if_false, if_true] at h; cases h; split <;> simp
      · simp only [Int.reduceEq, if_false, if_true] at h; cases h; split <;> simp
theorem zcon_d1 {k : Int} {d e : zDn} (hd : zD1 d) (he : zD1 e) : zD1 (zcon k d e) := by
  intro w v h
  unfold zcon at h
  cases e1 : d w with
  | none => rw [e1] at h; cases h
  | some x =>
    rw [e1] at h
    have h : (if (k = 261 ∧ x = 1) ∨ (k ≠ 261 ∧ x ≠ 1) then some x else e w) = some v := h
    split at h
    · cases h; exact hd w _ e1
    · exact he w v h
theorem zNg_d1 {m : Nat} {d : zDn} (hd : zD1 d) : zD1 (zNg m d) := by
  unfold zNg
  split
  · intro w v h
    unfold zneg at h
    cases e1 : d w with
    | none => rw [e1] at h; cases h
    | some x =>
      rw [e1] at h
      have h : some (1 - x) = some v := h
      cases h
      have := hd w x e1
      omega
  · exact hd
/-- the tokens of a text: N of them and the end -/
def zTx (K V : Nat → Int) (N : Nat) : Prop := N ≤ 400 ∧ K N = 256 ∧ ∀ j, 0 ≤ V j
theorem zLeaf_ok {K V : Nat → Int} {N : Nat} (h : zTx K V N) {a p : Nat} (ha : a ≤ N) : zRok N zDb a p (zLeaf K V a p) := by
  unfold zLeaf
  by_cases c : ((K a = 257 ∧ V a ≤ 1000) ∨ (264 ≤ K a ∧ K a < 270)) ∧ p < 50
  · rw [if_pos c]
    have ne : a ≠ N := by intro e; rw [e, h.2.1] at c; omega
    refine Or.inl ⟨rfl, by show a < a + 1; omega, by show a + 1 ≤ N; omega, by show p < p + 1; omega, by show p + 1 ≤ 50; omega, ?_⟩
    intro w hw v hv
    have hv : some (if K a = 257 then V a else w (K a - 264)) = some v := hv
    cases hv
    have v0 := h.2.2 a
    by_cases c2 : K a = 257
    · rw [if_pos c2]
      rcases c.1 with c1 | c1
      · omega
      · omega
    · rw [if_neg c2]
      have := hw (K a - 264) (by omega) (by omega)
      omega
  · rw [if_neg c]; exact zno_ok ha
theorem zPartF_ok {K V : Nat → Int} {N : Nat} (h : zTx K V N) : ∀ f, zSub N zDb (zPartF K V f) ∧ zSub N zDb (zTermF K V f) ∧ zSub N zDb (zSumF K V f) := by
  have up : ∀ f, zSub N zDb (zPartF K V f) → zSub N zDb (zPartF K V f) ∧ zSub N zDb (zTermF K V f) ∧ zSub N zDb (zSumF K V f) := by
    intro f hp
    have h2 : zSub N zDb (zTermF K V f) := zCh_ok h.1 (by rw [h.2.1]; decide) hp (fun _ _ _ _ _ _ => zbin_db)
    exact ⟨hp, h2, zCh_ok h.1 (by rw [h.2.1]; decide) h2 (fun _ _ _ _ _ _ => zbin_db)⟩
  intro f
  induction f with
  | zero =>
    refine up 0 ?_
    intro a p ha hp
    show zRok N zDb a p (zPart0 K V a p)
    unfold zPart0
    split
    · exact zno_ok ha
    · exact zLeaf_ok h ha
  | succ f ih =>
    refine up (f + 1) ?_
    intro a p ha hp
    rw [zPartF_succ]
    unfold zPart
    split
    · rename_i c
      have ne : a ≠ N := by intro e; rw [e, h.2.1] at c; omega
      exact zBr_ok (by rw [h.2.1]; decide) ih.2.2 (by omega) hp
    · exact zLeaf_ok h ha
theorem zNt_ok {K : Nat → Int} {N : Nat} (hN : K N ≠ 263) : ∀ (n a : Nat), a ≤ N → N < a + n → a ≤ zNt K n a ∧ zNt K n a ≤ N ∧ K (zNt K n a) ≠ 263 := by
  intro n
  induction n with
  | zero => intro a h1 h2; omega
  | succ n ih =>
    intro a h1 h2
    unfold zNt
    by_cases c : K a = 263
    · rw [if_pos c]
      have ne : a ≠ N := by intro e; rw [e] at c; exact hN c
      have := ih (a + 1) (by omega) (by omega)
      exact ⟨by omega, this.2⟩
    · rw [if_neg c]; exact ⟨Nat.le_refl _, h1, c⟩
theorem zCmp_ok {K V : Nat → Int} {N : Nat} (h : zTx K V N) {s : Nat → Nat → zRe} (hs : zSub N zDb s) : zSub N zD1 (zCmp K s) := by
  intro a p ha hp
  unfold zCmp
  rcases hs a p ha hp with ⟨e1, e2, e3, e4, e5, e6⟩ | ⟨e1, e2, e3⟩
  · rw [if_pos e1]
    by_cases c : K (s a p).2.1 = 60 ∨ K (s a p).2.1 = 62 ∨ K (s a p).2.1 = 61
    · rw [if_pos c]
      have ne : (s a p).2.1 ≠ N := by intro e; rw [e, h.2.1] at c; omega
      rcases hs ((s a p).2.1 + 1) (s a p).2.2.1 (by omega) e5 with ⟨f1, f2, f3, f4, f5, f6⟩ | ⟨f1, f2, f3⟩
      · rw [if_pos f1]
        exact Or.inl ⟨rfl, by show a < (s ((s a p).2.1 + 1) (s a p).2.2.1).2.1; omega, f3, by show p < (s ((s a p).2.1 + 1) (s a p).2.2.1).2.2.1; omega, f5, zbin_d1 c⟩
      · rw [if_neg (by omega)]
        exact Or.inr ⟨f1, by omega, f3⟩
    · rw [if_neg c]
      exact Or.inr ⟨rfl, by show a ≤ (s a p).2.1; omega, e3⟩
  · rw [if_neg (by omega)]
    exact Or.inr ⟨e1, e2, e3⟩
theorem zPlN_ok {K V : Nat → Int} {N : Nat} (h : zTx K V N) {g : Nat → Nat → zRe} (hg : zSub N zD1 g) : zSub N zD1 (zPlN K g) := by
  intro a p ha hp
  have nt := zNt_ok (K := K) (by rw [h.2.1]; decide) 401 a ha (by have := h.1; omega)
  unfold zPlN
  rcases hg (zNt K 401 a) p nt.2.1 hp with ⟨e1, e2, e3, e4, e5, e6⟩ | ⟨e1, e2, e3⟩
  · rw [if_pos e1]
    exact Or.inl ⟨rfl, by show a < (g (zNt K 401 a) p).2.1; omega, e3, e4, e5, zNg_d1 e6⟩
  · rw [if_neg (by omega)]
    exact Or.inr ⟨e1, by omega, e3⟩
theorem zPlF_ok {K V : Nat → Int} {N : Nat} (h : zTx K V N) : ∀ f, zSub N zD1 (zPlF K V f) ∧ zSub N zD1 (zBothF K V f) ∧ zSub N zD1 (zTestF K V f) := by
  have up : ∀ f, zSub N zD1 (zPlF K V f) → zSub N zD1 (zPlF K V f) ∧ zSub N zD1 (zBothF K V f) ∧ zSub N zD1 (zTestF K V f) := by
    intro f hp
    have h2 : zSub N zD1 (zBothF K V f) := zCh_ok h.1 (by rw [h.2.1]; decide) hp (fun _ _ _ _ a b => zcon_d1 a b)
    exact ⟨hp, h2, zCh_ok h.1 (by rw [h.2.1]; decide) h2 (fun _ _ _ _ a b => zcon_d1 a b)⟩
  intro f
  induction f with
  | zero =>
    refine up 0 ?_
    refine zPlN_ok h ?_
    intro a p ha hp
    unfold zPl0
    split
    · exact zno_ok ha
    · exact zCmp_ok h (zPartF_ok h 0).2.2 a p ha hp
  | succ f ih =>
    refine up (f + 1) ?_
    rw [zPlF_succ]
    refine zPlN_ok h ?_
    intro a p ha hp
    unfold zPl
    split
    · rename_i c
      have ne : a ≠ N := by intro e; rw [e, h.2.1] at c; omega
      exact zBr_ok (by rw [h.2.1]; decide) ih.2.2 (by omega) hp
    · exact zCmp_ok h (zPartF_ok h (f + 1)).2.2 a p ha hp
