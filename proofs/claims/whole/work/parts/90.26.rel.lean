/-! the small machine's state beside the machine's -/
def encO (ad : List Nat) (ro : Int → Nat) (x : Int) : Option Nat := if x = 0 then none else if 0 < x then some (ad.getD (x - 1).toNat 0) else some (ro x)
def encV (ad : List Nat) (ro : Int → Nat) (v : mV) : Value := match v.1 with
  | 1 => .int (Int32.ofInt v.2)
  | 2 => .long (Int64.ofInt v.2)
  | _ => va_rf (encO ad ro v.2)
def okV (n : Int) (v : mV) : Prop := match v.1 with
  | 1 => rgI v.2
  | 2 => rgL v.2
  | 3 => v.2 ≤ n
  | _ => False
/-- a field's value, by its type -/
def encF (ad : List Nat) (ro : Int → Nat) (ty : FieldType) (x : Int) : Value := if mfg ty = 3 then va_rf (encO ad ro x) else .int (Int32.ofInt x)
def okF (n : Int) (ty : FieldType) (x : Int) : Prop := (mfg ty = 3 → x ≤ n) ∧ (mfg ty ≠ 3 → rgI x)
def mAd (ws : va_W) : List Nat := ws.map Prod.fst
/-- a cell that was made, beside the machine's -/
def mCell (ad : List Nat) (ro : Int → Nat) (σ : mS) (tys : List (ClassId × FieldType)) (r : Int) (e : va_E) : Prop :=
  (∃ (c : Nat) (q : vw_C), mCl[c]? = some q ∧ σ.2.1 r = ((c : Int) + 1, (q.2.2 : Int)) ∧ e = .inr (c, (List.range q.2.2).map fun k => encF ad ro (mY c k) (σ.1 r k)) ∧ ∀ k : Nat, k < q.2.2 → okF σ.2.2.1 (mY c k) (σ.1 r k)) ∨
  (∃ (ty : FieldType) (kd : Int) (n : Nat) (cA : ClassId) (f : Nat → Int32) (t0 : Nat), (kd = 100 ∧ ty = .int ∨ kd = 101 ∧ ty = .byte ∨ kd = 102 ∧ ty = .boolean) ∧ σ.2.1 r = (kd, (n : Int)) ∧ e = .inl (cA, n, .inl f) ∧ tys[t0]? = some (cA, ty) ∧ n < 2147483648 ∧ ∀ j : Nat, j < n → f j = Int32.ofInt (σ.1 r j) ∧ rgI (σ.1 r j)) ∨
  (∃ (c : Nat) (q : vw_C) (n : Nat) (cA : ClassId) (f : Nat → Option Nat) (t0 : Nat), mCl[c]? = some q ∧ σ.2.1 r = (201 + (c : Int), (n : Int)) ∧ e = .inl (cA, n, .inr (.inr (.inr (.inr f)))) ∧ tys[t0]? = some (cA, .object q.1) ∧ n < 2147483648 ∧ ∀ j : Nat, j < n → f j = encO ad ro (σ.1 r j) ∧ σ.1 r j ≤ σ.2.2.1)
def mRel (D : va_G) (A : Nat → Prop) (ro : Int → Nat) (h0 : Int → Int → Int) (sh0 : Int → Int × Int) (σ : mS) (ws : va_W) (tys : List (ClassId × FieldType)) (s : State) (H : Heap) : Prop :=
  ((ws.length : Int) = σ.2.2.1 ∧ (∀ r, r ≤ 0 → σ.1 r = h0 r ∧ σ.2.1 r = sh0 r) ∧ ∀ r, σ.2.2.1 < r → σ.2.1 r = (0, 0)) ∧ va_P D mCl ws H ∧ va_D A ws ∧ va_K D mCl tys s ∧ ∀ (j : Nat) (q : Nat × va_E), ws[j]? = some q → mCell (mAd ws) ro σ tys ((j : Int) + 1) q.2
/-- the locals -/
def mLoc (ad : List Nat) (ro : Int → Nat) (n : Int) (ls : Array Slot) (L : List mV) : Prop := ls.size = L.length ∧ lv_wf ls ∧ ∀ (i : Nat) (v : mV), L[i]? = some v → v.1 ≠ 0 → okV n v ∧ ls[i]? = some (.val (encV ad ro v))
/-- what is known of the cells that were there before, and of the tables -/
def mKW (A : Nat → Prop) (ro : Int → Nat) (h0 : Int → Int → Int) (sh0 : Int → Int × Int) (s : State) : Prop :=
  ((∀ r, r ≤ 0 → (sh0 r).1 = 0 ∨ ((sh0 r).1 = 100 ∧ r < 0) ∨ ((sh0 r).1 = 300 ∧ r < 0)) ∧ ∀ r, r ≤ 0 → 0 ≤ (sh0 r).2 ∧ (sh0 r).2 < 2147483648) ∧
  (∀ r, r ≤ 0 → (sh0 r).1 = 100 → va_T .int (ro r) (sh0 r).2.toNat (fun j => .int (Int32.ofInt (h0 r j))) A s s.heap ∧ ∀ j, rgI (h0 r j)) ∧
  (∃ adV : Int → Nat, ∀ r, r ≤ 0 → (sh0 r).1 = 300 → va_O "java/lang/String" (ro r) A s s.heap ∧ va_OF "java/lang/String" "coder" "B" (.int 0) (ro r) A s s.heap ∧ va_OF "java/lang/String" "value" "[B" (.ref (adV r)) (ro r) A s s.heap ∧ va_T .byte (adV r) (sh0 r).2.toNat (fun j => .int (Int32.ofInt (h0 r j))) A s s.heap ∧ ∀ j, 0 ≤ h0 r j ∧ h0 r j < 128) ∧
  (∀ o, ∀ q ∈ mSl o, q.2.1 < 0 ∧ ∃ tx, vk_R (mO o) q.1 tx (ro q.2.1) s) ∧
  (va_Z "RoadWater" "FIRST_TERMS" "[I" (.ref (ro (-2))) A s s.heap ∧ va_Z "RoadWater" "HIGHEST_TERMS" "[I" (.ref (ro (-3))) A s s.heap ∧ va_Z "java/lang/String" "COMPACT_STRINGS" "Z" (.int 1) A s s.heap ∧ va_Zq "jdk/internal/util/Preconditions" "SIOOBE_FORMATTER" "Ljava/util/function/BiFunction;" A s s.heap) ∧
  (va_Nw (.fieldLinkNest "RoadWater$Road" 51 "RoadWater" "FIRST_TERMS" "[I" "RoadWater") s ∧ (∀ q ∈ mTl, va_Nw (.methodLinkNest (mO q.1) q.2.1 (mYn q.2.2) "RoadWater") s) ∧ va_Nw (.castable "[I" "java/lang/Cloneable") s ∧ ∀ o, ∀ q ∈ mAl o, ∀ r, mCl[q.2.1 - 1]? = some r → va_AO r.1 s)
theorem mKW.move {A : Nat → Prop} {ro : Int → Nat} {h0 : Int → Int → Int} {sh0 : Int → Int × Int} {s U : State} (h : mKW A ro h0 sh0 s) (hq : ∀ a : Nat, a < s.heap.size → ¬ A a → U.heap[a]? = s.heap[a]?) (hW : s.WarmedH U.vm) : mKW A ro h0 sh0 U := by
  obtain ⟨h1, h2, ⟨adV, h3⟩, h4, ⟨h5, h6, h7, h7b⟩, h8, h9, h10, h11⟩ := h
  refine ⟨h1, fun r a b => ⟨((h2 r a b).1.kept hq).moved hW.alike, (h2 r a b).2⟩, ⟨adV, fun r a b => ?_⟩, fun o q hm => ⟨(h4 o q hm).1, ?_⟩, ⟨(h5.kept hq).moved hW.alike, (h6.kept hq).moved hW.alike, (h7.kept hq).moved hW.alike, (h7b.kept hq).moved hW.alike⟩, h8.warmF hW, fun q hm => (h9 q hm).warmM hW, h10.warmC hW, fun o q hm r hr => (h11 o q hm r hr).moved hW.alike⟩
  · obtain ⟨g1, g2, g3, g4, g5⟩ := h3 r a b
    exact ⟨va_O.moved hW.alike (g1.kept hq), va_OF.moved hW.alike (g2.kept hq), va_OF.moved hW.alike (g3.kept hq), (g4.kept hq).moved hW.alike, g5⟩
  · obtain ⟨tx, ht⟩ := (h4 o q hm).2
    exact ⟨tx, ht.warm hW⟩
theorem encO_pre {ad ad' : List Nat} {ro : Int → Nat} {x : Int} (h : ad <+: ad') (hx : x ≤ (ad.length : Int)) : encO ad' ro x = encO ad ro x := by
  unfold encO
  by_cases h0 : x = 0
  · rw [if_pos h0, if_pos h0]
  · rw [if_neg h0, if_neg h0]
    by_cases h1 : 0 < x
    · rw [if_pos h1, if_pos h1]
      obtain ⟨t, rfl⟩ := h
      have : (x - 1).toNat < ad.length := by omega
      simp only [List.getD_eq_getElem?_getD]
      rw [List.getElem?_append_left this]
    · rw [if_neg h1, if_neg h1]
theorem encV_pre {ad ad' : List Nat} {ro : Int → Nat} {v : mV} (h : ad <+: ad') (hv : okV (ad.length : Int) v) : encV ad' ro v = encV ad ro v := by
  obtain ⟨t, x⟩ := v
  match t, hv with
  | 1, _ => rfl
  | 2, _ => rfl
  | 3, hv => show va_rf (encO ad' ro x) = va_rf (encO ad ro x); rw [encO_pre h hv]
theorem okV_up {n n' : Int} {v : mV} (h : okV n v) (hn : n ≤ n') : okV n' v := by
  obtain ⟨t, x⟩ := v
  match t, h with
  | 1, h => exact h
  | 2, h => exact h
  | 3, h => exact Int.le_trans h hn
theorem encV_cat {ad : List Nat} {ro : Int → Nat} {n : Int} {v : mV} (h : okV n v) : (encV ad ro v).category = if v.1 = 2 then 2 else 1 := by
  obtain ⟨t, x⟩ := v
  match t, h with
  | 1, _ => rfl
  | 2, _ => rfl
  | 3, _ =>
    show (va_rf (encO ad ro x)).category = 1
    cases encO ad ro x <;> rfl
theorem mcat_eq {ad : List Nat} {ro : Int → Nat} {n : Int} : ∀ {st : List mV}, (∀ v ∈ st, okV n v) → ((st.map (encV ad ro)).map fun v => v.category).sum = mcat st := by
  intro st
  induction st with
  | nil => intro _; rfl
  | cons v st ih =>
    intro h
    have h1 := h v List.mem_cons_self
    have h2 := ih (fun u hu => h u (List.mem_cons_of_mem _ hu))
    simp only [List.map_cons, List.sum_cons]
    rw [h2, encV_cat h1]
    obtain ⟨t, x⟩ := v
    match t, h1 with
    | 1, _ => rfl
    | 2, _ => rfl
    | 3, _ => rfl
theorem mLoc_has {ad : List Nat} {ro : Int → Nat} {n : Int} {ls : Array Slot} {L : List mV} (h : mLoc ad ro n ls L) : lv_has ls L.length ((List.range L.length).filterMap fun i => match L[i]? with
    | some v => if v.1 = 0 then none else some (i, encV ad ro v)
    | none => none) := by
  refine ⟨h.1, h.2.1, fun q hq => ?_⟩
  obtain ⟨i, hi, he⟩ := List.mem_filterMap.mp hq
  cases hl : L[i]? with
  | none => rw [hl] at he; cases he
  | some v =>
    rw [hl] at he
    dsimp only at he
    by_cases h0 : v.1 = 0
    · rw [if_pos h0] at he; cases he
    · rw [if_neg h0] at he
      cases he
      exact (h.2.2 i v hl h0).2
theorem mLoc_in {ad : List Nat} {ro : Int → Nat} {L : List mV} {i : Nat} {v : mV} (h : L[i]? = some v) (h0 : v.1 ≠ 0) : (i, encV ad ro v) ∈ ((List.range L.length).filterMap fun i => match L[i]? with
    | some v => if v.1 = 0 then none else some (i, encV ad ro v)
    | none => none) := by
  refine List.mem_filterMap.mpr ⟨i, List.mem_range.mpr (List.getElem?_eq_some_iff.mp h).1, ?_⟩
  rw [h]
  dsimp only
  rw [if_neg h0]
/-- behind a store of one word -/
theorem mLoc_set1 {ad : List Nat} {ro : Int → Nat} {n : Int} {ls ls' : Array Slot} {L : List mV} {a : Nat} {v : mV} (h : mLoc ad ro n ls L) (ha : a < L.length) (hv : okV n v) (h2 : v.1 ≠ 2) (h' : lv_has ls' L.length ((a, encV ad ro v) :: ((List.range L.length).filterMap fun i => match L[i]? with
    | some v => if v.1 = 0 then none else some (i, encV ad ro v)
    | none => none).filter (fun q => !(q.1 == a) && !(q.1 + 1 == a && q.2.category == 2)))) : mLoc ad ro n ls' (mset L a v) := by
  refine ⟨by rw [mset_len]; exact h'.1, h'.2.1, fun j u hj hu => ?_⟩
  rw [mset_get ha (fun q => absurd q h2)] at hj
  by_cases e1 : j = a
  · rw [if_pos e1] at hj
    cases hj
    subst e1
    exact ⟨hv, h'.2.2 _ List.mem_cons_self⟩
  · rw [if_neg e1] at hj
    by_cases e2 : (v.1 = 2 ∧ j = a + 1) ∨ (j + 1 = a ∧ L[j]?.map Prod.fst = some 2)
    · rw [if_pos e2] at hj; cases hj; exact absurd rfl hu
    · rw [if_neg e2] at hj
      have h3 := (h.2.2 j u hj hu).1
      refine ⟨h3, h'.2.2 (j, encV ad ro u) (List.mem_cons_of_mem _ (List.mem_filter.mpr ⟨mLoc_in hj hu, ?_⟩))⟩
      have h4 : ¬ (j + 1 = a ∧ (encV ad ro u).category = 2) := by
        rintro ⟨q1, q2⟩
        rw [encV_cat h3] at q2
        by_cases q3 : u.1 = 2
        · exact e2 (Or.inr ⟨q1, by rw [hj]; exact congrArg some q3⟩)
        · rw [if_neg q3] at q2; cases q2
      simp only [Bool.and_eq_true, Bool.not_eq_true', beq_eq_false_iff_ne, Bool.and_eq_false_iff]
      refine ⟨e1, ?_⟩
      by_cases q1 : j + 1 = a
      · exact Or.inr (fun q2 => h4 ⟨q1, q2⟩)
      · exact Or.inl q1
theorem mLoc_set2 {ad : List Nat} {ro : Int → Nat} {n : Int} {ls ls' : Array Slot} {L : List mV} {a : Nat} {v : mV} (h : mLoc ad ro n ls L) (ha : a + 1 < L.length) (hv : okV n v) (h2 : v.1 = 2) (h' : lv_has ls' L.length ((a, encV ad ro v) :: ((List.range L.length).filterMap fun i => match L[i]? with
    | some v => if v.1 = 0 then none else some (i, encV ad ro v)
    | none => none).filter (fun q => !(q.1 == a) && (!(q.1 == a + 1) && !(q.1 + 1 == a && q.2.category == 2))))) : mLoc ad ro n ls' (mset L a v) := by
  refine ⟨by rw [mset_len]; exact h'.1, h'.2.1, fun j u hj hu => ?_⟩
  rw [mset_get (by omega) (fun _ => ha)] at hj
  by_cases e1 : j = a
  · rw [if_pos e1] at hj
    cases hj
    subst e1
    exact ⟨hv, h'.2.2 _ List.mem_cons_self⟩
  · rw [if_neg e1] at hj
    by_cases e2 : (v.1 = 2 ∧ j = a + 1) ∨ (j + 1 = a ∧ L[j]?.map Prod.fst = some 2)
    · rw [if_pos e2] at hj; cases hj; exact absurd rfl hu
    · rw [if_neg e2] at hj
      have h3 := (h.2.2 j u hj hu).1
      refine ⟨h3, h'.2.2 (j, encV ad ro u) (List.mem_cons_of_mem _ (List.mem_filter.mpr ⟨mLoc_in hj hu, ?_⟩))⟩
      have h4 : ¬ (j + 1 = a ∧ (encV ad ro u).category = 2) := by
        rintro ⟨q1, q2⟩
        rw [encV_cat h3] at q2
        by_cases q3 : u.1 = 2
        · exact e2 (Or.inr ⟨q1, by rw [hj]; exact congrArg some q3⟩)
        · rw [if_neg q3] at q2; cases q2
      have h5 : j ≠ a + 1 := fun q => e2 (Or.inl ⟨h2, q⟩)
      simp only [Bool.and_eq_true, Bool.not_eq_true', beq_eq_false_iff_ne, Bool.and_eq_false_iff]
      refine ⟨e1, h5, ?_⟩
      by_cases q1 : j + 1 = a
      · exact Or.inr (fun q2 => h4 ⟨q1, q2⟩)
      · exact Or.inl q1
theorem mLoc_up {ad ad' : List Nat} {ro : Int → Nat} {n n' : Int} {ls : Array Slot} {L : List mV} (h : mLoc ad ro n ls L) (hp : ad <+: ad') (hn : (ad.length : Int) = n) (hn' : n ≤ n') : mLoc ad' ro n' ls L := by
  refine ⟨h.1, h.2.1, fun i v hi hv => ?_⟩
  obtain ⟨h1, h2⟩ := h.2.2 i v hi hv
  refine ⟨okV_up h1 hn', ?_⟩
  rw [h2, encV_pre hp (by rw [hn]; exact h1)]
theorem st_up {ad ad' : List Nat} {ro : Int → Nat} {n : Int} {st : List mV} (h : ∀ v ∈ st, okV n v) (hp : ad <+: ad') (hn : (ad.length : Int) = n) : st.map (encV ad' ro) = st.map (encV ad ro) := List.map_congr_left fun v hv => encV_pre hp (by rw [hn]; exact h v hv)
/-- the state of a frame beside the machine's -/
def mB (D : va_G) (A : Nat → Prop) (ro : Int → Nat) (h0 : Int → Int → Int) (sh0 : Int → Int × Int) (ad0 : List Nat) (k : Nat) (s : State) (H : Heap) (locs : List Loc) (ls : Array Slot) (L st : List mV) (σ : mS) (ws : va_W) (tys : List (ClassId × FieldType)) : Prop :=
  mRel D A ro h0 sh0 σ ws tys s H ∧ va_S A s.heap H locs ∧ mLoc (mAd ws) ro σ.2.2.1 ls L ∧ L.length = mMx k ∧ (∀ v ∈ st, okV σ.2.2.1 v) ∧ ad0 <+: mAd ws
section RelLaws
variable {D : va_G} {A : Nat → Prop} {ro : Int → Nat} {h0 : Int → Int → Int} {sh0 : Int → Int × Int} {ad0 : List Nat} {k : Nat} {s : State} {H : Heap} {locs : List Loc} {ls : Array Slot} {L st : List mV} {σ : mS} {ws : va_W} {tys : List (ClassId × FieldType)}
theorem mB.st' {st' : List mV} (h : mB D A ro h0 sh0 ad0 k s H locs ls L st σ ws tys) (hs : ∀ v ∈ st', okV σ.2.2.1 v) : mB D A ro h0 sh0 ad0 k s H locs ls L st' σ ws tys := ⟨h.1, h.2.1, h.2.2.1, h.2.2.2.1, hs, h.2.2.2.2.2⟩
theorem mB.ok (h : mB D A ro h0 sh0 ad0 k s H locs ls L st σ ws tys) : ∀ v ∈ st, okV σ.2.2.1 v := h.2.2.2.2.1
theorem mB.push {v : mV} (h : mB D A ro h0 sh0 ad0 k s H locs ls L st σ ws tys) (hv : okV σ.2.2.1 v) : mB D A ro h0 sh0 ad0 k s H locs ls L (v :: st) σ ws tys :=
  h.st' (fun u hu => (List.mem_cons.mp hu).elim (fun q => by rw [q]; exact hv) (h.ok u))
theorem mB.pop {v : mV} (h : mB D A ro h0 sh0 ad0 k s H locs ls L (v :: st) σ ws tys) : mB D A ro h0 sh0 ad0 k s H locs ls L st σ ws tys :=
  h.st' (fun u hu => h.ok u (List.mem_cons_of_mem _ hu))
theorem mB.top {v : mV} (h : mB D A ro h0 sh0 ad0 k s H locs ls L (v :: st) σ ws tys) : okV σ.2.2.1 v := h.ok v List.mem_cons_self
theorem mB.lenAd (h : mB D A ro h0 sh0 ad0 k s H locs ls L st σ ws tys) : ((mAd ws).length : Int) = σ.2.2.1 := by
  unfold mAd
  rw [List.length_map]
  exact h.1.1.1
theorem mAd_get {j : Nat} {q : Nat × va_E} (h : ws[j]? = some q) : (mAd ws)[j]? = some q.1 := by
  unfold mAd
  rw [List.getElem?_map, h]
  rfl
theorem encO_at {r : Int} {q : Nat × va_E} (hr : 0 < r) (h : ws[(r - 1).toNat]? = some q) : encO (mAd ws) ro r = some q.1 := by
  unfold encO
  rw [if_neg (by omega), if_pos hr]
  simp only [List.getD_eq_getElem?_getD]
  rw [mAd_get h]
  rfl
/-- a cell by its number -/
theorem mRel.cell (h : mRel D A ro h0 sh0 σ ws tys s H) {r : Int} (hr : 0 < r) (hk : σ.2.1 r ≠ (0, 0)) : ∃ q, ws[(r - 1).toNat]? = some q ∧ mCell (mAd ws) ro σ tys r q.2 ∧ r ≤ σ.2.2.1 := by
  obtain ⟨⟨h1, h2, h3⟩, -, -, -, h4⟩ := h
  have hle : r ≤ σ.2.2.1 := by
    rcases Int.lt_or_le σ.2.2.1 r with q | q
    · exact absurd (h3 r q) hk
    · exact q
  have hlt : (r - 1).toNat < ws.length := by omega
  refine ⟨ws[(r - 1).toNat], List.getElem?_eq_getElem hlt, ?_, hle⟩
  have h5 := h4 (r - 1).toNat _ (List.getElem?_eq_getElem hlt)
  rw [show (((r - 1).toNat : Nat) : Int) + 1 = r from by omega] at h5
  exact h5
/-- an object by its number -/
theorem mRel.obj (h : mRel D A ro h0 sh0 σ ws tys s H) (kw : mKW A ro h0 sh0 s) {r : Int} {c : Nat} {q : vw_C} (hc : mCl[c]? = some q) (hk : (σ.2.1 r).1 = (c : Int) + 1) : 0 < r ∧ r ≤ σ.2.2.1 ∧ (σ.2.1 r).2 = (q.2.2 : Int) ∧ ∃ a, ws[(r - 1).toNat]? = some (a, .inr (c, (List.range q.2.2).map fun k => encF (mAd ws) ro (mY c k) (σ.1 r k))) ∧ encO (mAd ws) ro r = some a ∧ ∀ k : Nat, k < q.2.2 → okF σ.2.2.1 (mY c k) (σ.1 r k) := by
  have hcl : c < 11 := (List.getElem?_eq_some_iff.mp hc).1
  have hr : 0 < r := by
    rcases Int.lt_or_le 0 r with g | g
    · exact g
    · rw [(h.1.2.1 r g).2] at hk
      rcases kw.1.1 r g with e | ⟨e, -⟩ | ⟨e, -⟩ <;> omega
  obtain ⟨⟨a, e⟩, g1, g2, g3⟩ := h.cell hr (fun g => by rw [g] at hk; simp at hk; omega)
  refine ⟨hr, g3, ?_⟩
  rcases g2 with ⟨c', q', e1, e2, e3, e4⟩ | ⟨ty, kd, n, cA, f, t0, e1, e2, -⟩ | ⟨c', q', n, cA, f, t0, e1, e2, -⟩
  · have hcc : c' = c := by rw [e2] at hk; simp at hk; omega
    subst hcc
    cases hc.symm.trans e1
    dsimp only at e3
    subst e3
    exact ⟨by rw [e2], a, g1, encO_at hr g1, e4⟩
  · rw [e2] at hk
    rcases e1 with ⟨e, -⟩ | ⟨e, -⟩ | ⟨e, -⟩ <;> (subst e; simp at hk; omega)
  · rw [e2] at hk
    have : c' < 11 := (List.getElem?_eq_some_iff.mp e1).1
    simp at hk
    omega
/-- an array of numbers, by its number, among those that were made -/
theorem mRel.arr (h : mRel D A ro h0 sh0 σ ws tys s H) {r kd : Int} {ty : FieldType} (hr : 0 < r) (hkd : kd = 100 ∧ ty = .int ∨ kd = 101 ∧ ty = .byte ∨ kd = 102 ∧ ty = .boolean) (hk : (σ.2.1 r).1 = kd) : r ≤ σ.2.2.1 ∧ ∃ (a n : Nat) (cA : ClassId) (f : Nat → Int32) (t0 : Nat), ws[(r - 1).toNat]? = some (a, .inl (cA, n, .inl f)) ∧ encO (mAd ws) ro r = some a ∧ (σ.2.1 r).2 = (n : Int) ∧ tys[t0]? = some (cA, ty) ∧ n < 2147483648 ∧ ∀ j : Nat, j < n → f j = Int32.ofInt (σ.1 r j) ∧ rgI (σ.1 r j) := by
  obtain ⟨⟨a, e⟩, g1, g2, g3⟩ := h.cell hr (fun g => by rw [g] at hk; simp at hk; rcases hkd with ⟨q, -⟩ | ⟨q, -⟩ | ⟨q, -⟩ <;> omega)
  refine ⟨g3, ?_⟩
  rcases g2 with ⟨c', q', e1, e2, e3, e4⟩ | ⟨ty', kd', n, cA, f, t0, e1, e2, e3, e4, e5, e6⟩ | ⟨c', q', n, cA, f, t0, e1, e2, -⟩
  · rw [e2] at hk
    have : c' < 11 := (List.getElem?_eq_some_iff.mp e1).1
    simp at hk
    rcases hkd with ⟨q, -⟩ | ⟨q, -⟩ | ⟨q, -⟩ <;> omega
  · have hkk : kd' = kd := by rw [e2] at hk; exact hk
    subst hkk
    have hty : ty' = ty := by
      rcases hkd with ⟨q, z⟩ | ⟨q, z⟩ | ⟨q, z⟩ <;> rcases e1 with ⟨q', z'⟩ | ⟨q', z'⟩ | ⟨q', z'⟩ <;> first | (rw [z, z']; done) | (exfalso; omega)
    subst hty
    dsimp only at e3
    subst e3
    exact ⟨a, n, cA, f, t0, g1, encO_at hr g1, by rw [e2], e4, e5, e6⟩
  · rw [e2] at hk
    simp at hk
    rcases hkd with ⟨q, -⟩ | ⟨q, -⟩ | ⟨q, -⟩ <;> omega
/-- an array of references -/
theorem mRel.arq (h : mRel D A ro h0 sh0 σ ws tys s H) (kw : mKW A ro h0 sh0 s) {r : Int} {c : Nat} {q : vw_C} (hc : mCl[c]? = some q) (hk : (σ.2.1 r).1 = 201 + (c : Int)) : 0 < r ∧ r ≤ σ.2.2.1 ∧ ∃ (a n : Nat) (cA : ClassId) (f : Nat → Option Nat) (t0 : Nat), ws[(r - 1).toNat]? = some (a, .inl (cA, n, .inr (.inr (.inr (.inr f))))) ∧ encO (mAd ws) ro r = some a ∧ (σ.2.1 r).2 = (n : Int) ∧ tys[t0]? = some (cA, .object q.1) ∧ n < 2147483648 ∧ ∀ j : Nat, j < n → f j = encO (mAd ws) ro (σ.1 r j) ∧ σ.1 r j ≤ σ.2.2.1 := by
  have hcl : c < 11 := (List.getElem?_eq_some_iff.mp hc).1
  have hr : 0 < r := by
    rcases Int.lt_or_le 0 r with g | g
    · exact g
    · rw [(h.1.2.1 r g).2] at hk
      rcases kw.1.1 r g with e | ⟨e, -⟩ | ⟨e, -⟩ <;> omega
  obtain ⟨⟨a, e⟩, g1, g2, g3⟩ := h.cell hr (fun g => by rw [g] at hk; simp at hk; omega)
  refine ⟨hr, g3, ?_⟩
  rcases g2 with ⟨c', q', e1, e2, e3, e4⟩ | ⟨ty, kd, n, cA, f, t0, e1, e2, -⟩ | ⟨c', q', n, cA, f, t0, e1, e2, e3, e4, e5, e6⟩
  · rw [e2] at hk
    have : c' < 11 := (List.getElem?_eq_some_iff.mp e1).1
    simp at hk
    omega
  · rw [e2] at hk
    rcases e1 with ⟨e, -⟩ | ⟨e, -⟩ | ⟨e, -⟩ <;> (subst e; simp at hk; omega)
  · have hcc : c' = c := by rw [e2] at hk; simp at hk; omega
    subst hcc
    cases hc.symm.trans e1
    dsimp only at e3
    subst e3
    exact ⟨a, n, cA, f, t0, g1, encO_at hr g1, by rw [e2], e4, e5, e6⟩
theorem mAd_set {j : Nat} {a : Nat} {e e' : va_E} (h : ws[j]? = some (a, e)) : mAd (ws.set j (a, e')) = mAd ws := by
  unfold mAd
  rw [List.map_set]
  apply List.ext_getElem?
  intro i
  rw [List.getElem?_set]
  by_cases hi : j = i
  · subst hi
    rw [if_pos rfl, List.getElem?_map, h]
    have : j < (List.map Prod.fst ws).length := by rw [List.length_map]; exact (List.getElem?_eq_some_iff.mp h).1
    rw [if_pos this]
    rfl
  · rw [if_neg hi]
/-- a store into the cell r -/
theorem mRel.put (h : mRel D A ro h0 sh0 σ ws tys s H) {r : Int} {a : Nat} {e e' : va_E} {g : Int → Int → Int} {H1 : Heap} (hr : 0 < r) (hw : ws[(r - 1).toNat]? = some (a, e)) (hg : ∀ r', r' ≠ r → g r' = σ.1 r') (hP : va_P D mCl (ws.set (r - 1).toNat (a, e')) H1) (hD : va_D A (ws.set (r - 1).toNat (a, e'))) (hc : mCell (mAd ws) ro (g, σ.2) tys r e') : mRel D A ro h0 sh0 (g, σ.2) (ws.set (r - 1).toNat (a, e')) tys s H1 := by
  obtain ⟨⟨h1, h2, h3⟩, -, -, hK, h4⟩ := h
  refine ⟨⟨by rw [List.length_set]; exact h1, fun r' hr' => ⟨by rw [← (h2 r' hr').1]; exact hg r' (by omega), (h2 r' hr').2⟩, h3⟩, hP, hD, hK, fun j q hj => ?_⟩
  rw [mAd_set hw]
  rw [List.getElem?_set] at hj
  by_cases hi : (r - 1).toNat = j
  · rw [if_pos hi] at hj
    have hlt : (r - 1).toNat < ws.length := (List.getElem?_eq_some_iff.mp hw).1
    rw [if_pos (by omega)] at hj
    cases hj
    rw [show ((j : Nat) : Int) + 1 = r from by omega]
    exact hc
  · rw [if_neg hi] at hj
    have h5 := h4 j q hj
    have hne : (j : Int) + 1 ≠ r := by omega
    have e1 := hg _ hne
    rcases h5 with ⟨c', q', e1', e2, e3, e4⟩ | ⟨ty, kd, n, cA, f, t0, e1', e2, e3, e4, e5, e6⟩ | ⟨c', q', n, cA, f, t0, e1', e2, e3, e4, e5, e6⟩
    · exact Or.inl ⟨c', q', e1', e2, by dsimp only; rw [e1]; exact e3, by dsimp only; rw [e1]; exact e4⟩
    · exact Or.inr (Or.inl ⟨ty, kd, n, cA, f, t0, e1', e2, e3, e4, e5, by dsimp only; rw [e1]; exact e6⟩)
    · exact Or.inr (Or.inr ⟨c', q', n, cA, f, t0, e1', e2, e3, e4, e5, by dsimp only; rw [e1]; exact e6⟩)
theorem mAd_push {q : Nat × va_E} : mAd (ws ++ [q]) = mAd ws ++ [q.1] := by
  unfold mAd
  rw [List.map_append]
  rfl
theorem encF_pre {ad ad' : List Nat} {ty : FieldType} {x n : Int} (h : ad <+: ad') (hn : (ad.length : Int) = n) (hx : okF n ty x) : encF ad' ro ty x = encF ad ro ty x := by
  unfold encF
  by_cases h3 : mfg ty = 3
  · rw [if_pos h3, if_pos h3, encO_pre h (by rw [hn]; exact hx.1 h3)]
  · rw [if_neg h3, if_neg h3]
/-- the cells keep what they are when others come -/
theorem mCell.up {ad ad' : List Nat} {σ' : mS} {tys' : List (ClassId × FieldType)} {r : Int} {x : va_E} (h : mCell ad ro σ tys r x) (hp : ad <+: ad') (hn : (ad.length : Int) = σ.2.2.1) (hn' : σ.2.2.1 ≤ σ'.2.2.1) (h1 : σ'.1 r = σ.1 r) (h2 : σ'.2.1 r = σ.2.1 r) (ht : tys <+: tys') : mCell ad' ro σ' tys' r x := by
  have hty : ∀ (t0 : Nat) (q : ClassId × FieldType), tys[t0]? = some q → tys'[t0]? = some q := by
    intro t0 q hq
    obtain ⟨t, rfl⟩ := ht
    rw [List.getElem?_append_left (List.getElem?_eq_some_iff.mp hq).1]
    exact hq
  rcases h with ⟨c', q', e1', e2, e3, e4⟩ | ⟨ty, kd, n, cA, f, t0, e1', e2, e3, e4, e5, e6⟩ | ⟨c', q', n, cA, f, t0, e1', e2, e3, e4, e5, e6⟩
  · refine Or.inl ⟨c', q', e1', by rw [h2]; exact e2, ?_, fun k hk => ?_⟩
    · rw [e3, h1]
      congr 2
      refine List.map_congr_left fun k hk => ?_
      exact (encF_pre hp hn (e4 k (List.mem_range.mp hk))).symm
    · rw [h1]
      exact ⟨fun g => Int.le_trans ((e4 k hk).1 g) hn', (e4 k hk).2⟩
  · exact Or.inr (Or.inl ⟨ty, kd, n, cA, f, t0, e1', by rw [h2]; exact e2, e3, hty t0 _ e4, e5, by rw [h1]; exact e6⟩)
  · refine Or.inr (Or.inr ⟨c', q', n, cA, f, t0, e1', by rw [h2]; exact e2, e3, hty t0 _ e4, e5, fun j hj => ?_⟩)
    rw [h1, (e6 j hj).1]
    exact ⟨(encO_pre hp (by rw [hn]; exact (e6 j hj).2)).symm, Int.le_trans (e6 j hj).2 hn'⟩
/-- a new cell -/
theorem mRel.new (h : mRel D A ro h0 sh0 σ ws tys s H) {a : Nat} {x : va_E} {σ' : mS} {tys' : List (ClassId × FieldType)} {H1 : Heap} (h1 : ∀ r, r ≠ σ.2.2.1 + 1 → σ'.1 r = σ.1 r ∧ σ'.2.1 r = σ.2.1 r) (hn : σ'.2.2.1 = σ.2.2.1 + 1) (ht : tys <+: tys') (hK : va_K D mCl tys' s) (hP : va_P D mCl (ws ++ [(a, x)]) H1) (hD : va_D A (ws ++ [(a, x)])) (hc : mCell (mAd (ws ++ [(a, x)])) ro σ' tys' (σ.2.2.1 + 1) x) : mRel D A ro h0 sh0 σ' (ws ++ [(a, x)]) tys' s H1 := by
  obtain ⟨⟨g1, g2, g3⟩, -, -, -, g4⟩ := h
  refine ⟨⟨by rw [List.length_append, hn]; simp; omega, fun r hr => ?_, fun r hr => ?_⟩, hP, hD, hK, fun j q hj => ?_⟩
  · have := h1 r (by omega)
    rw [this.1, this.2]
    exact g2 r hr
  · rw [(h1 r (by omega)).2]
    exact g3 r (by omega)
  · rw [List.getElem?_append] at hj
    by_cases hl : j < ws.length
    · rw [if_pos hl] at hj
      have := h1 ((j : Int) + 1) (by omega)
      refine (g4 j q hj).up (by rw [mAd_push]; exact List.prefix_append _ _) (by unfold mAd; rw [List.length_map]; exact g1) (by omega) this.1 this.2 ht
    · rw [if_neg hl] at hj
      have hj0 : j = ws.length := by
        have := (List.getElem?_eq_some_iff.mp hj).1
        simp at this
        omega
      subst hj0
      simp at hj
      subst hj
      rw [show ((ws.length : Nat) : Int) + 1 = σ.2.2.1 + 1 from by omega]
      exact hc
/-- what the caller holds goes on over more cells -/
theorem mB.moved {H' : Heap} {locs' : List Loc} {σ' : mS} {ws' : va_W} {tys' : List (ClassId × FieldType)} (h : mB D A ro h0 sh0 ad0 k s H locs ls L st σ ws tys) (hp : mAd ws <+: mAd ws') (hn : σ.2.2.1 ≤ σ'.2.2.1) (hR : mRel D A ro h0 sh0 σ' ws' tys' s H') (hS : va_S A s.heap H' locs') : mB D A ro h0 sh0 ad0 k s H' locs' ls L st σ' ws' tys' ∧ st.map (encV (mAd ws') ro) = st.map (encV (mAd ws) ro) :=
  ⟨⟨hR, hS, mLoc_up h.2.2.1 hp h.lenAd hn, h.2.2.2.1, fun v hv => okV_up (h.ok v hv) hn, h.2.2.2.2.2.trans hp⟩, st_up h.ok hp h.lenAd⟩
end RelLaws
