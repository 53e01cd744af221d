/-! the small machine: it goes on alike with more rounds, with more locals; it makes cells, and never takes one away -/
def ole {β : Type} (x y : Option β) : Prop := ∀ b, x = some b → y = some b
theorem ole_bind {α β : Type} {x : Option α} {f g : α → Option β} (h : ∀ a, ole (f a) (g a)) : ole (x.bind f) (x.bind g) := by
  intro b hb
  cases x with
  | none => cases hb
  | some a => exact h a b hb
theorem ole_bind2 {α β : Type} {x y : Option α} {f g : α → Option β} (hxy : ole x y) (h : ∀ a, ole (f a) (g a)) : ole (x.bind f) (y.bind g) := by
  intro b hb
  cases x with
  | none => cases hb
  | some a => rw [hxy a rfl]; exact h a b hb
theorem ole_none {β : Type} {y : Option β} : ole none y := fun _ h => by cases h
theorem ole_rfl {β : Type} {y : Option β} : ole y y := fun _ h => h
theorem ole_cond {β : Type} {c : Bool} {x y x' y' : Option β} (h : ole x x') (h' : ole y y') : ole (cond c x y) (cond c x' y') := by
  cases c
  · exact h'
  · exact h
theorem ole_ite {β : Type} {c : Prop} {dc : Decidable c} {x y x' y' : Option β} (h : ole x x') (h' : ole y y') : ole (if c then x else y) (if c then x' else y') := by
  by_cases hc : c
  · rw [if_pos hc, if_pos hc]; exact h
  · rw [if_neg hc, if_neg hc]; exact h'
theorem mbin_ole {β : Type} {a : Nat} {x y : Int} {K K' : Int → Option β} (h : ∀ v, ole (K v) (K' v)) : ole (mbin a x y K) (mbin a x y K') := by
  unfold mbin
  split <;> first | exact h _ | exact ole_bind h | exact ole_none
theorem mlbin_ole {β : Type} {a : Nat} {x y : Int} {K K' : Int → Option β} (h : ∀ v, ole (K v) (K' v)) : ole (mlbin a x y K) (mlbin a x y K') := by
  unfold mlbin
  split <;> first | exact h _ | exact ole_bind h | exact ole_none
theorem mif_ole {β : Type} {a : Nat} {x y : Int} {T F T' F' : Option β} (h : ole T T') (h' : ole F F') : ole (mif a x y T F) (mif a x y T' F') := by
  unfold mif
  split <;> first | exact ole_ite h h' | exact ole_ite h' h
theorem msw_ole {β : Type} {N N' : Nat → Option β} {d : Nat} {x : Int} (h : ∀ j, ole (N j) (N' j)) : ∀ t, ole (msw N d x t) (msw N' d x t)
  | [] => h d
  | (v, j) :: r => ole_ite (h j) (msw_ole h r)
/-- L' has all that L has -/
def lle (L L' : List mV) : Prop := L.length = L'.length ∧ ∀ (i : Nat) (v : mV), L[i]? = some v → v.1 ≠ 0 → L'[i]? = some v
theorem lle.rfl {L : List mV} : lle L L := ⟨Eq.refl _, fun _ _ h _ => h⟩
theorem mset_len (L : List mV) (a : Nat) (v : mV) : (mset L a v).length = L.length := by
  unfold mset
  split
  · cases v.1.beq 2 <;> simp
  · split <;> cases v.1.beq 2 <;> simp
theorem beq2 {n : Nat} (h : n ≠ 2) : n.beq 2 = false := by
  cases h' : n.beq 2 with
  | true => exact absurd (Nat.eq_of_beq_eq_true h') h
  | false => rfl
/-- what stands at a place behind a store -/
theorem mset_get {L : List mV} {a j : Nat} {v : mV} (ha : a < L.length) (h2 : v.1 = 2 → a + 1 < L.length) : (mset L a v)[j]? = if j = a then some v else if (v.1 = 2 ∧ j = a + 1) ∨ (j + 1 = a ∧ L[j]?.map Prod.fst = some 2) then some (0, 0) else L[j]? := by
  obtain ⟨tv, xv⟩ := v
  dsimp only at h2
  unfold mset
  cases a with
  | zero =>
    dsimp only
    by_cases h : tv = 2
    · have := h2 h
      simp only [h, show Nat.beq 2 2 = true from rfl, cond_true, List.getElem?_set, List.length_set]
      grind
    · simp only [beq2 h, cond_false, List.getElem?_set]
      grind
  | succ q =>
    dsimp only
    split
    · rename_i x hx
      by_cases h : tv = 2
      · have := h2 h
        simp only [h, show Nat.beq 2 2 = true from rfl, cond_true, List.getElem?_set, List.length_set]
        grind
      · simp only [beq2 h, cond_false, List.getElem?_set, List.length_set]
        grind
    · rename_i hx
      have hx' : ¬ L[q]?.map Prod.fst = some 2 := by
        intro e
        cases hq : L[q]? with
        | none => rw [hq] at e; cases e
        | some u =>
          rw [hq] at e
          obtain ⟨u1, u2⟩ := u
          simp at e
          subst e
          exact hx u2 hq
      by_cases h : tv = 2
      · have := h2 h
        simp only [h, show Nat.beq 2 2 = true from rfl, cond_true, List.getElem?_set, List.length_set]
        grind
      · simp only [beq2 h, cond_false, List.getElem?_set, List.length_set]
        grind
theorem mset_lle {L L' : List mV} {a : Nat} {v : mV} (h : lle L L') (ha : a < L.length) (h2 : v.1 = 2 → a + 1 < L.length) : lle (mset L a v) (mset L' a v) := by
  refine ⟨by rw [mset_len, mset_len]; exact h.1, fun j u hj hu => ?_⟩
  rw [mset_get ha h2] at hj
  rw [mset_get (by rw [← h.1]; exact ha) (fun q => by rw [← h.1]; exact h2 q)]
  by_cases e1 : j = a
  · rw [if_pos e1] at hj ⊢; exact hj
  · rw [if_neg e1] at hj ⊢
    by_cases e2 : (v.1 = 2 ∧ j = a + 1) ∨ (j + 1 = a ∧ L[j]?.map Prod.fst = some 2)
    · rw [if_pos e2] at hj
      cases hj
      exact absurd rfl hu
    · rw [if_neg e2] at hj
      have h3 := h.2 j u hj hu
      rw [if_neg, h3]
      rintro (q | ⟨q1, q2⟩)
      · exact e2 (Or.inl q)
      · rw [h3] at q2
        exact e2 (Or.inr ⟨q1, by rw [hj]; exact q2⟩)
section Sim
variable {β : Type} {C C' : Nat → List mV → mS → Option (Int × mS)} {N N' : Nat → List mV → List mV → mS → Option β} {R R' : Int → mS → Option β}
set_option maxHeartbeats 4000000 in
theorem mstep_sim (hC : ∀ k as σ, ole (C k as σ) (C' k as σ)) (hN : ∀ i L L' st σ, lle L L' → ole (N i L st σ) (N' i L' st σ)) (hR : ∀ v σ, ole (R v σ) (R' v σ)) (mi : mI) (hb1 : mi.1 = 1 → mi.2.2.1 ≠ 0) (i : Nat) {L L' : List mV} (hL : lle L L') (st : List mV) (σ : mS) : ole (mstep C N R mi i L st σ) (mstep C' N' R' mi i L' st σ) := by
  obtain ⟨op, a, b, c, t⟩ := mi
  match op with
  | 0 => exact hN _ _ _ _ _ hL
  | 1 =>
    intro z hz
    simp only [mstep] at hz ⊢
    cases hl : L[a]? with
    | none => rw [hl] at hz; cases hz
    | some v =>
      obtain ⟨tv, xv⟩ := v
      rw [hl] at hz
      dsimp only at hz
      by_cases h0 : tv = 0
      · subst h0
        cases hb : Nat.beq 0 b with
        | false => rw [hb] at hz; cases hz
        | true => exact absurd (Nat.eq_of_beq_eq_true hb).symm (hb1 rfl)
      · rw [hL.2 a _ hl h0]
        exact ole_cond (hN _ _ _ _ _ hL) ole_none z hz
  | 2 =>
    simp only [mstep]
    cases st with
    | nil => exact ole_none
    | cons v st =>
      obtain ⟨tv, xv⟩ := v
      dsimp only
      rw [← hL.1]
      intro z hz
      cases hb : (tv.beq b && (a + (cond (b.beq 2) 1 0)).blt L.length) with
      | false => rw [hb] at hz; cases hz
      | true =>
        rw [hb] at hz
        refine hN _ _ _ _ _ (mset_lle hL ?_ ?_) z hz
        · simp only [Bool.and_eq_true] at hb
          have := Nat.blt_eq.mp hb.2
          omega
        · intro h2
          simp only [Bool.and_eq_true] at hb
          have := Nat.blt_eq.mp hb.2
          dsimp only at h2
          subst h2
          simpa using this
  | 3 =>
    simp only [mstep]
    intro z hz
    cases hl : L[a]? with
    | none => rw [hl] at hz; cases hz
    | some v =>
      rw [hl] at hz
      split at hz
      · rename_i u hu
        cases hu
        rw [hL.2 a _ hl Nat.one_ne_zero]
        exact hN _ _ _ _ _ (mset_lle hL (List.getElem?_eq_some_iff.mp hl).1 (fun q => by cases q)) z hz
      · cases hz
  | 4 => simp only [mstep]; split <;> first | exact mbin_ole (fun _ => hN _ _ _ _ _ hL) | exact ole_none
  | 5 => simp only [mstep]; split <;> first | exact mlbin_ole (fun _ => hN _ _ _ _ _ hL) | exact ole_none
  | 6 => simp only [mstep]; split <;> first | exact hN _ _ _ _ _ hL | exact ole_none
  | 7 => simp only [mstep]; split <;> first | exact mif_ole (hN _ _ _ _ _ hL) (hN _ _ _ _ _ hL) | exact ole_none
  | 8 => simp only [mstep]; split <;> first | exact mif_ole (hN _ _ _ _ _ hL) (hN _ _ _ _ _ hL) | exact ole_none
  | 9 => exact hN _ _ _ _ _ hL
  | 10 => simp only [mstep]; split <;> first | exact mif_ole (hN _ _ _ _ _ hL) (hN _ _ _ _ _ hL) | exact ole_none
  | 11 => simp only [mstep]; split <;> first | exact ole_bind (fun _ => mif_ole (hN _ _ _ _ _ hL) (hN _ _ _ _ _ hL)) | exact ole_none
  | 12 => simp only [mstep]; split <;> first | exact msw_ole (fun _ => hN _ _ _ _ _ hL) _ | exact ole_none
  | 13 => simp only [mstep]; split <;> first | exact ole_bind (fun _ => hN _ _ _ _ _ hL) | exact ole_none
  | 14 => simp only [mstep]; split <;> first | exact ole_bind (fun _ => hN _ _ _ _ _ hL) | exact ole_none
  | 15 => simp only [mstep]; split <;> first | exact ole_bind (fun _ => hN _ _ _ _ _ hL) | exact ole_none
  | 16 => simp only [mstep]; split <;> first | exact ole_bind (fun _ => hN _ _ _ _ _ hL) | exact ole_none
  | 17 => simp only [mstep]; split <;> first | exact ole_bind (fun _ => hN _ _ _ _ _ hL) | exact ole_none
  | 18 => exact hN _ _ _ _ _ hL
  | 19 => simp only [mstep]; split <;> first | exact ole_bind (fun _ => hN _ _ _ _ _ hL) | exact ole_none
  | 20 =>
    simp only [mstep]
    refine ole_cond ?_ ole_none
    split
    · exact ole_bind2 (hC _ _ _) (fun _ => hN _ _ _ _ _ hL)
    · exact ole_bind (fun _ => ole_bind2 (hC _ _ _) (fun _ => hN _ _ _ _ _ hL))
    · exact ole_none
  | 21 => simp only [mstep]; split <;> first | exact hR _ _ | exact ole_ite (hR _ _) ole_none | exact ole_none
  | 22 => simp only [mstep]; split <;> first | exact hN _ _ _ _ _ hL | exact ole_none
  | 23 => simp only [mstep]; split <;> first | exact ole_cond (ole_bind (fun _ => hN _ _ _ _ _ hL)) ole_none | exact ole_none
  | 24 => simp only [mstep]; split <;> first | exact ole_cond (ole_bind (fun _ => hN _ _ _ _ _ hL)) ole_none | exact ole_none
  | 25 => simp only [mstep]; split <;> first | exact ole_cond (ole_bind (fun _ => hN _ _ _ _ _ hL)) ole_none | exact ole_none
  | 26 => simp only [mstep]; split <;> first | exact ole_cond (ole_bind (fun _ => hN _ _ _ _ _ hL)) ole_none | exact ole_none
  | 27 => simp only [mstep]; split <;> first | exact ole_cond (ole_bind (fun _ => hN _ _ _ _ _ hL)) ole_none | exact ole_none
  | 28 => simp only [mstep]; split <;> first | exact ole_bind (fun _ => hN _ _ _ _ _ hL) | exact ole_none
  | 29 => simp only [mstep]; split <;> first | exact ole_cond (hN _ _ _ _ _ hL) ole_none | exact ole_none
  | n + 30 => exact ole_none
end Sim
/-- x comes to b, and b stands for r: then y comes to r with rounds enough -/
def ele {β γ : Type} (K : β → Prop) (r : γ) (x : Option β) (y : Nat → Option γ) : Prop := ∀ b, x = some b → K b → ∃ n, y n = some r
section Ele
variable {β γ : Type} {K : β → Prop} {r : γ}
theorem ele_none {y : Nat → Option γ} : ele K r none y := fun _ h => by cases h
theorem ele_bind {α : Type} {x : Option α} {f : α → Option β} {g : Nat → α → Option γ} (h : ∀ a, ele K r (f a) (fun n => g n a)) : ele K r (x.bind f) (fun n => x.bind (g n)) := by
  intro b hb hk
  cases x with
  | none => cases hb
  | some a => exact h a b hb hk
theorem ele_cond {c : Bool} {x y : Option β} {x' y' : Nat → Option γ} (h : ele K r x x') (h' : ele K r y y') : ele K r (cond c x y) (fun n => cond c (x' n) (y' n)) := by
  cases c
  · exact h'
  · exact h
theorem ele_ite {c : Prop} {dc : Decidable c} {x y : Option β} {x' y' : Nat → Option γ} (h : ele K r x x') (h' : ele K r y y') : ele K r (if c then x else y) (fun n => if c then x' n else y' n) := by
  by_cases hc : c
  · simp only [if_pos hc]; exact h
  · simp only [if_neg hc]; exact h'
theorem mbin_ele {a : Nat} {x y : Int} {F : Int → Option β} {F' : Nat → Int → Option γ} (h : ∀ v, ele K r (F v) (fun n => F' n v)) : ele K r (mbin a x y F) (fun n => mbin a x y (F' n)) := by
  unfold mbin
  split <;> first | exact h _ | exact ele_bind h | exact ele_none
theorem mlbin_ele {a : Nat} {x y : Int} {F : Int → Option β} {F' : Nat → Int → Option γ} (h : ∀ v, ele K r (F v) (fun n => F' n v)) : ele K r (mlbin a x y F) (fun n => mlbin a x y (F' n)) := by
  unfold mlbin
  split <;> first | exact h _ | exact ele_bind h | exact ele_none
theorem mif_ele {a : Nat} {x y : Int} {T F : Option β} {T' F' : Nat → Option γ} (h : ele K r T T') (h' : ele K r F F') : ele K r (mif a x y T F) (fun n => mif a x y (T' n) (F' n)) := by
  unfold mif
  split <;> first | exact ele_ite h h' | exact ele_ite h' h
theorem msw_ele {N : Nat → Option β} {N' : Nat → Nat → Option γ} {d : Nat} {x : Int} (h : ∀ j, ele K r (N j) (fun n => N' n j)) : ∀ t, ele K r (msw N d x t) (fun n => msw (N' n) d x t)
  | [] => h d
  | (v, j) :: q => ele_ite (h j) (msw_ele h q)
theorem ele_call {x : Option (Int × mS)} {y : Nat → Option (Int × mS)} {f : Int × mS → Option β} {g : Nat → Int × mS → Option γ} (hx : ∀ p, x = some p → ∃ n, y n = some p) (h : ∀ a, ele K r (f a) (fun n => g n a)) (my : ∀ n n', n ≤ n' → ole (y n) (y n')) (mg : ∀ a n n', n ≤ n' → ole (g n a) (g n' a)) : ele K r (x.bind f) (fun n => (y n).bind (g n)) := by
  intro b hb hk
  cases hxe : x with
  | none => rw [hxe] at hb; cases hb
  | some p =>
    rw [hxe] at hb
    obtain ⟨n1, e1⟩ := hx p hxe
    obtain ⟨n2, e2⟩ := h p b hb hk
    refine ⟨max n1 n2, ?_⟩
    show (y (max n1 n2)).bind (g (max n1 n2)) = some r
    rw [my n1 _ (Nat.le_max_left _ _) p e1]
    exact mg p n2 _ (Nat.le_max_right _ _) r e2
variable {C : Nat → List mV → mS → Option (Int × mS)} {C' : Nat → Nat → List mV → mS → Option (Int × mS)} {N : Nat → List mV → List mV → mS → Option β} {N' : Nat → Nat → List mV → List mV → mS → Option γ} {R : Int → mS → Option β} {R' : Int → mS → Option γ}
set_option maxHeartbeats 4000000 in
theorem mstep_ele (hC : ∀ k as σ p, C k as σ = some p → ∃ n, C' n k as σ = some p) (hN : ∀ i L st σ, ele K r (N i L st σ) (fun n => N' n i L st σ)) (hR : ∀ v σ, ele K r (R v σ) (fun _ => R' v σ)) (mC : ∀ k as σ n n', n ≤ n' → ole (C' n k as σ) (C' n' k as σ)) (mN : ∀ i L st σ n n', n ≤ n' → ole (N' n i L st σ) (N' n' i L st σ)) (mi : mI) (i : Nat) (L st : List mV) (σ : mS) : ele K r (mstep C N R mi i L st σ) (fun n => mstep (C' n) (N' n) R' mi i L st σ) := by
  obtain ⟨op, a, b, c, t⟩ := mi
  match op with
  | 0 => exact hN _ _ _ _
  | 1 =>
    simp only [mstep]
    split
    · exact ele_cond (hN _ _ _ _) ele_none
    · exact ele_none
  | 2 =>
    simp only [mstep]
    split
    · exact ele_cond (hN _ _ _ _) ele_none
    · exact ele_none
  | 3 => simp only [mstep]; split <;> first | exact hN _ _ _ _ | exact ele_none
  | 4 => simp only [mstep]; split <;> first | exact mbin_ele (fun _ => hN _ _ _ _) | exact ele_none
  | 5 => simp only [mstep]; split <;> first | exact mlbin_ele (fun _ => hN _ _ _ _) | exact ele_none
  | 6 => simp only [mstep]; split <;> first | exact hN _ _ _ _ | exact ele_none
  | 7 => simp only [mstep]; split <;> first | exact mif_ele (hN _ _ _ _) (hN _ _ _ _) | exact ele_none
  | 8 => simp only [mstep]; split <;> first | exact mif_ele (hN _ _ _ _) (hN _ _ _ _) | exact ele_none
  | 9 => exact hN _ _ _ _
  | 10 => simp only [mstep]; split <;> first | exact mif_ele (hN _ _ _ _) (hN _ _ _ _) | exact ele_none
  | 11 => simp only [mstep]; split <;> first | exact ele_bind (fun _ => mif_ele (hN _ _ _ _) (hN _ _ _ _)) | exact ele_none
  | 12 => simp only [mstep]; split <;> first | exact msw_ele (fun _ => hN _ _ _ _) _ | exact ele_none
  | 13 => simp only [mstep]; split <;> first | exact ele_bind (fun _ => hN _ _ _ _) | exact ele_none
  | 14 => simp only [mstep]; split <;> first | exact ele_bind (fun _ => hN _ _ _ _) | exact ele_none
  | 15 => simp only [mstep]; split <;> first | exact ele_bind (fun _ => hN _ _ _ _) | exact ele_none
  | 16 => simp only [mstep]; split <;> first | exact ele_bind (fun _ => hN _ _ _ _) | exact ele_none
  | 17 => simp only [mstep]; split <;> first | exact ele_bind (fun _ => hN _ _ _ _) | exact ele_none
  | 18 => exact hN _ _ _ _
  | 19 => simp only [mstep]; split <;> first | exact ele_bind (fun _ => hN _ _ _ _) | exact ele_none
  | 20 =>
    simp only [mstep]
    refine ele_cond ?_ ele_none
    split
    · exact ele_call (hC _ _ _) (fun _ => hN _ _ _ _) (mC _ _ _) (fun _ => mN _ _ _ _)
    · exact ele_bind (fun _ => ele_call (hC _ _ _) (fun _ => hN _ _ _ _) (mC _ _ _) (fun _ => mN _ _ _ _))
    · exact ele_none
  | 21 => simp only [mstep]; split <;> first | exact hR _ _ | exact ele_ite (hR _ _) ele_none | exact ele_none
  | 22 => simp only [mstep]; split <;> first | exact hN _ _ _ _ | exact ele_none
  | 23 => simp only [mstep]; split <;> first | exact ele_cond (ele_bind (fun _ => hN _ _ _ _)) ele_none | exact ele_none
  | 24 => simp only [mstep]; split <;> first | exact ele_cond (ele_bind (fun _ => hN _ _ _ _)) ele_none | exact ele_none
  | 25 => simp only [mstep]; split <;> first | exact ele_cond (ele_bind (fun _ => hN _ _ _ _)) ele_none | exact ele_none
  | 26 => simp only [mstep]; split <;> first | exact ele_cond (ele_bind (fun _ => hN _ _ _ _)) ele_none | exact ele_none
  | 27 => simp only [mstep]; split <;> first | exact ele_cond (ele_bind (fun _ => hN _ _ _ _)) ele_none | exact ele_none
  | 28 => simp only [mstep]; split <;> first | exact ele_bind (fun _ => hN _ _ _ _) | exact ele_none
  | 29 => simp only [mstep]; split <;> first | exact ele_cond (hN _ _ _ _) ele_none | exact ele_none
  | n + 30 => exact ele_none
end Ele
/-- every load names a tag -/
def mGood (P : mP) : Prop := ∀ (k i : Nat) (mi : mI), (P k).1[i]? = some mi → mi.1 = 1 → mi.2.2.1 ≠ 0
set_option maxRecDepth 100000 in
theorem mProg_goodb : mProgL.all (fun q => q.1.all (fun mi => !(mi.1.beq 1 && mi.2.2.1.beq 0))) = true := by decide +kernel
theorem mProg_good : mGood mProg := by
  intro k i mi h h1 h2
  have hm := List.mem_of_getElem? h
  unfold mProg at hm
  cases hk : mProgL[k]? with
  | none => rw [hk] at hm; exact absurd hm List.not_mem_nil
  | some q =>
    rw [hk] at hm
    have h3 := List.all_eq_true.mp (List.all_eq_true.mp mProg_goodb q (List.mem_of_getElem? hk)) mi hm
    rw [h1, h2] at h3
    cases h3
/-- the machine: n instructions at most, calls within one another at most d; a call's arguments fit the locals -/
def mgr (P : mP) : Nat → Nat → Nat → Nat → List mV → List mV → mS → Option (Int × mS)
  | 0, _, _, _, _, _, _ => none
  | n + 1, d, k, i, L, st, σ => match (P k).1[i]? with
    | none => none
    | some mi => mstep (fun k' as σ => match d with
      | 0 => none
      | d' + 1 => cond ((mexp as).length.ble (P k').2) (mgr P n d' k' 0 (mInit (P k').2 as) [] σ) none) (fun i L st σ => mgr P n d k i L st σ) (fun v σ => some (v, σ)) mi i L st σ
theorem mgr_sim {P : mP} (hP : mGood P) : ∀ (n n' d d' k i : Nat) (L L' st : List mV) (σ : mS), n ≤ n' → d ≤ d' → lle L L' → ole (mgr P n d k i L st σ) (mgr P n' d' k i L' st σ) := by
  intro n
  induction n with
  | zero => intro n' d d' k i L L' st σ _ _ _; exact ole_none
  | succ n ih =>
    intro n' d d' k i L L' st σ hn hd hL
    cases n' with
    | zero => omega
    | succ n' =>
      unfold mgr
      cases hmi : (P k).1[i]? with
      | none => exact ole_none
      | some mi =>
        refine mstep_sim ?_ ?_ (fun _ _ => ole_rfl) mi (hP k i mi hmi) i hL st σ
        · intro k' as σ
          cases d with
          | zero => exact ole_none
          | succ d =>
            cases d' with
            | zero => omega
            | succ d' => exact ole_cond (ih n' d d' k' 0 _ _ [] σ (by omega) (by omega) lle.rfl) ole_none
        · intro i L L' st σ hL
          exact ih n' d d' k i L L' st σ (by omega) hd hL
/-- with rounds enough the method comes from here to the end r -/
def mG (d k i : Nat) (L st : List mV) (σ : mS) (r : Int × mS) : Prop := ∃ n, mgr mProg n d k i L st σ = some r
theorem mG.lle {d k i : Nat} {L L' st : List mV} {σ : mS} {r : Int × mS} (h : mG d k i L st σ r) (hL : lle L L') : mG d k i L' st σ r := by
  obtain ⟨n, hn⟩ := h
  exact ⟨n, mgr_sim mProg_good n n d d k i L L' st σ (Nat.le_refl _) (Nat.le_refl _) hL r hn⟩
/-- a call of the method k, calls within it d deep at most -/
def mEx (d k : Nat) (as : List mV) (σ : mS) (r : Int × mS) : Prop := (mexp as).length ≤ (mProg k).2 ∧ mG d k 0 (mInit (mProg k).2 as) [] σ r
theorem mG.up {d d' k i : Nat} {L st : List mV} {σ : mS} {r : Int × mS} (h : mG d k i L st σ r) (hd : d ≤ d') : mG d' k i L st σ r := by
  obtain ⟨n, hn⟩ := h
  exact ⟨n, mgr_sim mProg_good n n d d' k i L L st σ (Nat.le_refl _) hd lle.rfl r hn⟩
theorem mblk_ok {β : Type} {k d : Nat} {cut : Nat → Bool} {C : Nat → List mV → mS → Option (Int × mS)} {F : Nat → List mV → List mV → mS → Option β} {R : Int → mS → Option β} (K : β → Int × mS → Prop)
    (hC : ∀ k' as σ p, C k' as σ = some p → mEx d k' as σ p) (hF : ∀ i L st σ b r, F i L st σ = some b → K b r → mG (d + 1) k i L st σ r) (hR : ∀ v σ b r, R v σ = some b → K b r → r = (v, σ)) :
    ∀ (n i : Nat) (L st : List mV) (σ : mS) (b : β) (r : Int × mS), mblk (mProg k).1 cut C F R n i L st σ = some b → K b r → mG (d + 1) k i L st σ r := by
  intro n
  induction n with
  | zero => intro i L st σ b r h; cases h
  | succ n ih =>
    intro i L st σ b r h hK
    unfold mblk at h
    cases hmi : (mProg k).1[i]? with
    | none => rw [hmi] at h; cases h
    | some mi =>
      rw [hmi] at h
      obtain ⟨n', hn'⟩ := mstep_ele (K := fun b => K b r) (r := r) (C' := fun n k' as σ => cond ((mexp as).length.ble (mProg k').2) (mgr mProg n d k' 0 (mInit (mProg k').2 as) [] σ) none) (N' := fun n i L st σ => mgr mProg n (d + 1) k i L st σ) (R' := fun v σ => some (v, σ)) (fun k' as σ p hp => by
          obtain ⟨e1, n1, e2⟩ := hC k' as σ p hp
          exact ⟨n1, by rw [Nat.ble_eq_true_of_le e1]; exact e2⟩) (fun i L st σ => by
          intro b hb hk
          cases hc : cut i with
          | true => rw [hc] at hb; exact hF i L st σ b r hb hk
          | false => rw [hc] at hb; exact ih i L st σ b r hb hk)
        (fun v σ => by
          intro b hb hk
          exact ⟨0, by rw [hR v σ b r hb hk]⟩)
        (fun k' as σ n n' hn => ole_cond (mgr_sim mProg_good n n' d d k' 0 _ _ [] σ hn (Nat.le_refl _) lle.rfl) ole_none) (fun i L st σ n n' hn => mgr_sim mProg_good n n' _ _ k i L L st σ hn (Nat.le_refl _) lle.rfl) mi i L st σ b h hK
      refine ⟨n' + 1, ?_⟩
      unfold mgr
      rw [hmi]
      exact hn'
/-- a loop of the functions beside the machine's -/
theorem miter_ok {α β : Type} {f : α → Option (α ⊕ β)} {K : β → Int × mS → Prop} {G : α → Int × mS → Prop} (h : ∀ a x r, f a = some x → Sum.elim G K x r → G a r) : ∀ (n : Nat) (a : α) (b : β) (r : Int × mS), miter f n a = some b → K b r → G a r := by
  intro n
  induction n with
  | zero => intro a b r h0; cases h0
  | succ n ih =>
    intro a b r h0 hK
    unfold miter at h0
    cases hf : f a with
    | none => rw [hf] at h0; cases h0
    | some x =>
      rw [hf] at h0
      cases x with
      | inl a' => exact h a (.inl a') r hf (ih a' b r h0 hK)
      | inr b' => cases h0; exact h a (.inr b) r hf hK
