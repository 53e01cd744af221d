/-! each instruction by its check: the heap, calls -/
theorem bind_some {α β : Type} {x : Option α} {f : α → Option β} {z : β} (h : x.bind f = some z) : ∃ a, x = some a ∧ f a = some z := by
  cases x with
  | none => cases h
  | some a => exact ⟨a, rfl, h⟩
theorem cond_some {β : Type} {c : Bool} {x : Option β} {z : β} (h : cond c x none = some z) : c = true ∧ x = some z := by
  cases c
  · cases h
  · exact ⟨rfl, h⟩
theorem cl_at {a : Nat} {q : vw_C} (h1 : 1 ≤ a) : ((a : Nat) : Int) = ((a - 1 : Nat) : Int) + 1 := by omega
/-- there are no arrays of other kinds -/
theorem no_kind {D : va_G} {A : Nat → Prop} {ro : Int → Nat} {h0 : Int → Int → Int} {sh0 : Int → Int × Int} {σ : mS} {ws : va_W} {tys : List (ClassId × FieldType)} {s : State} {H : Heap} (h : mRel D A ro h0 sh0 σ ws tys s H) (kw : mKW A ro h0 sh0 s) {r : Int} (h1 : 212 ≤ (σ.2.1 r).1) (h2 : (σ.2.1 r).1 < 300) : False := by
  rcases Int.lt_or_le 0 r with g | g
  · obtain ⟨q, -, g2, -⟩ := h.cell g (fun w => by rw [w] at h1; simp at h1)
    rcases g2 with ⟨c', q', e1, e2, -⟩ | ⟨ty, kd, n, cA, f, t0, e1, e2, -⟩ | ⟨c', q', n, cA, f, t0, e1, e2, -⟩
    · have : c' < 11 := (List.getElem?_eq_some_iff.mp e1).1
      rw [e2] at h1; simp at h1; omega
    · rw [e2] at h1; simp at h1
      rcases e1 with ⟨e, -⟩ | ⟨e, -⟩ | ⟨e, -⟩ <;> omega
    · have : c' < 11 := (List.getElem?_eq_some_iff.mp e1).1
      rw [e2] at h1; simp at h1; omega
  · rw [(h.1.2.1 r g).2] at h1 h2
    rcases kw.1.1 r g with w | ⟨w, -⟩ | ⟨w, -⟩ <;> omega
section Ops2
variable {l : Launch} {D : va_G} {A : Nat → Prop} {ro : Int → Nat} {h0 : Int → Int → Int} {sh0 : Int → Int × Int} {p : Program} {e : Env} {R : Room} {s : State} {m : MethodId} {args : Array Value} {below : List Frame} {meth : Method} {c : Code} {Q : State → Prop} {n0 t0 : Int} {ad0 : List Nat} {k i : Nat} {L st : List mV} {σ : mS} {N : Nat → List mV → List mV → mS → Option (Int × mS)} {z : Int × mS} {ins : Instr} {len a b : Nat} {x : Int} {t : List (Int × Nat)}
theorem ms_6 (cx : mCx k p s m args meth c) (nxt : ∀ (i : Nat) (L st : List mV) (σ1 : mS), N i L st σ1 = some z → NN σ1 → 0 ≤ σ1.2.2.1 → (mNp l D A ro h0 sh0 p e R s m args below meth c Q n0 t0 ad0 k (mPc k i) (L) (st) (σ1))) (hNN : NN σ) (hnn : 0 ≤ σ.2.2.1) (hd : decode (mBy k) (mPc k i) = .ok (ins, len)) (hck : mck6 k i ins len a b x t = true) (h : (match (generalizing := false) a, st with
    | 0, (1, x) :: st => N (i + 1) L ((1, w32 (-x)) :: st) σ
    | 1, (1, x) :: st => N (i + 1) L ((2, x) :: st) σ
    | 2, (2, x) :: st => N (i + 1) L ((1, w32 x) :: st) σ
    | 3, (1, x) :: st => N (i + 1) L ((1, w8 x) :: st) σ
    | 4, (2, y) :: (2, x) :: st => N (i + 1) L ((1, lcp x y) :: st) σ
    | _, _ => none) = some z) : (mNp l D A ro h0 sh0 p e R s m args below meth c Q n0 t0 ad0 k (mPc k i) (L) (st) (σ)) := by
  have hN := fun st h => nxt (i + 1) L st σ h hNN hnn
  unfold mck6 at hck
  split at hck
  · obtain ⟨e1, e2⟩ := mnx_spec hck
    subst e1; rw [e2] at hN
    split at h <;> first | (cases h; done) | contradiction | exact wr_ineg cx hd (hN _ h)
  · obtain ⟨e1, e2⟩ := mnx_spec hck
    subst e1; rw [e2] at hN
    split at h <;> first | (cases h; done) | contradiction | exact wr_i2l cx hd (hN _ h)
  · obtain ⟨e1, e2⟩ := mnx_spec hck
    subst e1; rw [e2] at hN
    split at h <;> first | (cases h; done) | contradiction | exact wr_l2i cx hd (hN _ h)
  · obtain ⟨e1, e2⟩ := mnx_spec hck
    subst e1; rw [e2] at hN
    split at h <;> first | (cases h; done) | contradiction | exact wr_i2b cx hd (hN _ h)
  · obtain ⟨e1, e2⟩ := mnx_spec hck
    subst e1; rw [e2] at hN
    split at h <;> first | (cases h; done) | contradiction | exact wr_lcmp cx hd (hN _ h)
  · cases hck
theorem ms_13 (cx : mCx k p s m args meth c) (kw : mKW A ro h0 sh0 s) (nxt : ∀ (i : Nat) (L st : List mV) (σ1 : mS), N i L st σ1 = some z → NN σ1 → 0 ≤ σ1.2.2.1 → (mNp l D A ro h0 sh0 p e R s m args below meth c Q n0 t0 ad0 k (mPc k i) (L) (st) (σ1))) (hNN : NN σ) (hnn : 0 ≤ σ.2.2.1) (hd : decode (mBy k) (mPc k i) = .ok (ins, len)) (hck : mck13 k i ins len a b x t = true) {r : Int} (h : ((gf a b r σ).bind fun v => N (i + 1) L ((x.toNat, v) :: st) σ) = some z) : (mNp l D A ro h0 sh0 p e R s m args below meth c Q n0 t0 ad0 k (mPc k i) (L) ((3, r) :: st) (σ)) := by
  obtain ⟨v, h1, h2⟩ := bind_some h
  unfold gf at h1
  by_cases hk : (σ.2.1 r).1 = (a : Int)
  · rw [if_pos hk] at h1
    cases h1
    unfold mck13 at hck
    split at hck
    · simp only [Bool.and_eq_true, decide_eq_true_eq] at hck
      obtain ⟨e1, e2⟩ := mnx_spec hck.1.1.1
      obtain ⟨q, q1, q2, q3, q4, q5⟩ := fl_spec hck.1.1.2 hck.1.2
      have hN := nxt _ _ _ _ h2 hNN hnn
      subst e1; rw [e2] at hN
      have e4 := hck.2
      subst e4
      exact wr_getfield cx kw hd q1 q2 q4 q5 (by rw [hk]; omega) hN
    · cases hck
  · rw [if_neg hk] at h1; cases h1
theorem ms_14g (cx : mCx k p s m args meth c) (kw : mKW A ro h0 sh0 s) {r : Int} {v : mV} (hd : decode (mBy k) (mPc k i) = .ok (ins, len)) (hck : mck14 k i ins len a b x t = true) (hk : (σ.2.1 r).1 = (a : Int)) (hv : (x = 1 ∧ v.1 = 1) ∨ (x = 4 ∧ v.1 = 1 ∧ (v.2 = 0 ∨ v.2 = 1)) ∨ (x = 3 ∧ v.1 = 3)) (hN : (mNp l D A ro h0 sh0 p e R s m args below meth c Q n0 t0 ad0 k (mPc k (i + 1)) (L) (st) ((mup σ.1 r b v.2, σ.2)))) : (mNp l D A ro h0 sh0 p e R s m args below meth c Q n0 t0 ad0 k (mPc k i) (L) (v :: (3, r) :: st) (σ)) := by
  unfold mck14 at hck
  split at hck
  · simp only [Bool.and_eq_true, decide_eq_true_eq] at hck
    obtain ⟨e1, e2⟩ := mnx_spec hck.1.1.1.1
    obtain ⟨q, q1, q2, q3, q4, q5⟩ := fl_spec hck.1.1.1.2 hck.1.1.2
    subst e1; rw [e2] at hN
    have e4 := hck.1.2
    subst e4
    have hfin : (q.2.1 b).2.2.2 = false ∨ ((q.2.1 b).2.2.2 = true ∧ (mYn k).name = "<init>" ∧ (q.2.1 b).1 = mO (mI0 k).1) := by
      have h5 := hck.2
      obtain ⟨C, T, M⟩ := q
      simp only [mfin, mdec, q1, Bool.or_eq_true, Bool.not_eq_true', Bool.and_eq_true, decide_eq_true_eq] at h5
      dsimp only
      cases hT : (T b).2.2.2 with
      | false => exact Or.inl rfl
      | true =>
        rcases h5 with h6 | h6
        · rw [hT] at h6; cases h6
        · exact Or.inr ⟨rfl, h6.1, h6.2⟩
    exact wr_putfield cx kw hd q1 q2 q4 q5 (by rw [hk]; omega) hfin hv hN
  · cases hck
theorem ms_14 (cx : mCx k p s m args meth c) (kw : mKW A ro h0 sh0 s) (nxt : ∀ (i : Nat) (L st : List mV) (σ1 : mS), N i L st σ1 = some z → NN σ1 → 0 ≤ σ1.2.2.1 → (mNp l D A ro h0 sh0 p e R s m args below meth c Q n0 t0 ad0 k (mPc k i) (L) (st) (σ1))) (hNN : NN σ) (hnn : 0 ≤ σ.2.2.1) (hd : decode (mBy k) (mPc k i) = .ok (ins, len)) (hck : mck14 k i ins len a b x t = true) (h : (match (generalizing := false) x, st with
    | 4, (1, v) :: (3, r) :: st => (pz a b r v σ).bind fun σ => N (i + 1) L st σ
    | 1, (1, v) :: (3, r) :: st => (pf a b r v σ).bind fun σ => N (i + 1) L st σ
    | 3, (3, v) :: (3, r) :: st => (pf a b r v σ).bind fun σ => N (i + 1) L st σ
    | _, _ => none) = some z) : (mNp l D A ro h0 sh0 p e R s m args below meth c Q n0 t0 ad0 k (mPc k i) (L) (st) (σ)) := by
  split at h
  · obtain ⟨σ1, h1, h2⟩ := bind_some h
    have h3 := (leS_pz h1) hNN
    unfold pz at h1
    split at h1
    · rename_i hc
      cases h1
      exact ms_14g cx kw hd hck hc.1 (Or.inr (Or.inl ⟨rfl, rfl, hc.2.2⟩)) (nxt _ _ _ _ h2 h3.1 hnn)
    · cases h1
  · obtain ⟨σ1, h1, h2⟩ := bind_some h
    have h3 := (leS_pf h1) hNN
    unfold pf at h1
    split at h1
    · rename_i hc
      cases h1
      exact ms_14g cx kw hd hck hc.1 (Or.inl ⟨rfl, rfl⟩) (nxt _ _ _ _ h2 h3.1 hnn)
    · cases h1
  · obtain ⟨σ1, h1, h2⟩ := bind_some h
    have h3 := (leS_pf h1) hNN
    unfold pf at h1
    split at h1
    · rename_i hc
      cases h1
      exact ms_14g cx kw hd hck hc.1 (Or.inr (Or.inr ⟨rfl, rfl⟩)) (nxt _ _ _ _ h2 h3.1 hnn)
    · cases h1
  · cases h
theorem ms_15 (cx : mCx k p s m args meth c) (kw : mKW A ro h0 sh0 s) (nxt : ∀ (i : Nat) (L st : List mV) (σ1 : mS), N i L st σ1 = some z → NN σ1 → 0 ≤ σ1.2.2.1 → (mNp l D A ro h0 sh0 p e R s m args below meth c Q n0 t0 ad0 k (mPc k i) (L) (st) (σ1))) (hNN : NN σ) (hnn : 0 ≤ σ.2.2.1) (hd : decode (mBy k) (mPc k i) = .ok (ins, len)) (hck : mck15 k i ins len a b x t = true) {r j : Int} (h : ((ld a r j σ).bind fun v => N (i + 1) L ((b, v) :: st) σ) = some z) : (mNp l D A ro h0 sh0 p e R s m args below meth c Q n0 t0 ad0 k (mPc k i) (L) ((1, j) :: (3, r) :: st) (σ)) := by
  obtain ⟨v, h1, h2⟩ := bind_some h
  unfold ld at h1
  split at h1
  · rename_i hc
    cases h1
    have hN := nxt _ _ _ _ h2 hNN hnn
    unfold mck15 at hck
    split at hck
    · obtain ⟨e1, e2⟩ := mnx_spec hck
      subst e1; rw [e2] at hN
      exact wr_iald cx kw hd hc.1 hc.2.1 hc.2.2 hN
    · obtain ⟨e1, e2⟩ := mnx_spec hck
      subst e1; rw [e2] at hN
      exact wr_bald cx kw (Or.inl rfl) hd hc.1 hc.2.1 hc.2.2 hN
    · obtain ⟨e1, e2⟩ := mnx_spec hck
      subst e1; rw [e2] at hN
      exact wr_bald cx kw (Or.inr rfl) hd hc.1 hc.2.1 hc.2.2 hN
    · simp only [Bool.and_eq_true] at hck
      obtain ⟨e1, e2⟩ := mnx_spec hck.1.1
      subst e1; rw [e2] at hN
      have g1 := Nat.le_of_ble_eq_true hck.1.2
      have g2 := Nat.blt_eq.mp hck.2
      by_cases hlt : a < 212
      · have hc' : a - 201 < 11 := by omega
        have hc2 : mCl[a - 201]? = some mCl[a - 201] := List.getElem?_eq_getElem hc'
        exact wr_aald cx kw hd hc2 (by rw [hc.1]; omega) hc.2.1 hc.2.2 hN
      · intro z1 z2 H locs ls ws tys hB
        exact absurd (no_kind hB.1 kw (r := r) (by rw [hc.1]; omega) (by rw [hc.1]; omega)) id
    · cases hck
  · cases h1
theorem ms_16 (cx : mCx k p s m args meth c) (kw : mKW A ro h0 sh0 s) (nxt : ∀ (i : Nat) (L st : List mV) (σ1 : mS), N i L st σ1 = some z → NN σ1 → 0 ≤ σ1.2.2.1 → (mNp l D A ro h0 sh0 p e R s m args below meth c Q n0 t0 ad0 k (mPc k i) (L) (st) (σ1))) (hNN : NN σ) (hnn : 0 ≤ σ.2.2.1) (hd : decode (mBy k) (mPc k i) = .ok (ins, len)) (hck : mck16 k i ins len a b x t = true) (h : (match (generalizing := false) b, st with
    | 1, (1, v) :: (1, j) :: (3, r) :: st => (sd a r j v σ).bind fun σ => N (i + 1) L st σ
    | 3, (3, v) :: (1, j) :: (3, r) :: st => (sr a r j v σ).bind fun σ => N (i + 1) L st σ
    | _, _ => none) = some z) : (mNp l D A ro h0 sh0 p e R s m args below meth c Q n0 t0 ad0 k (mPc k i) (L) (st) (σ)) := by
  split at h
  · obtain ⟨σ1, h1, h2⟩ := bind_some h
    have h3 := (leS_sd h1) hNN
    unfold sd at h1
    split at h1
    · rename_i hc
      cases h1
      have hN := nxt _ _ _ _ h2 h3.1 hnn
      unfold mck16 at hck
      split at hck
      · obtain ⟨e1, e2⟩ := mnx_spec hck
        subst e1; rw [e2] at hN
        exact wr_iast cx hd hc.1 hc.2.1 hc.2.2.1 hc.2.2.2 hN
      · obtain ⟨e1, e2⟩ := mnx_spec hck
        subst e1; rw [e2] at hN
        exact wr_bast cx hd hc.1 hc.2.1 hc.2.2.1 hc.2.2.2 hN
      · obtain ⟨e1, e2⟩ := mnx_spec hck
        subst e1; rw [e2] at hN
        exact wr_zast cx hd hc.1 hc.2.1 hc.2.2.1 hc.2.2.2 hN
      · contradiction
      · cases hck
    · cases h1
  · obtain ⟨σ1, h1, h2⟩ := bind_some h
    have h3 := (leS_sr h1) hNN
    unfold sr at h1
    split at h1
    · rename_i hc
      cases h1
      have hN := nxt _ _ _ _ h2 h3.1 hnn
      obtain ⟨a', ha'⟩ : ∃ a' : Nat, a' = a := ⟨a, rfl⟩
      unfold mck16 at hck
      split at hck
      · contradiction
      · contradiction
      · contradiction
      · subst ha'
        simp only [Bool.and_eq_true] at hck
        obtain ⟨e1, e2⟩ := mnx_spec hck.1.1
        subst e1; rw [e2] at hN
        have g1 := Nat.le_of_ble_eq_true hck.1.2
        have g2 := Nat.blt_eq.mp hck.2
        by_cases hlt : a' < 12
        · have hc' : a' - 1 < 11 := by omega
          have hc2 : mCl[a' - 1]? = some mCl[a' - 1] := List.getElem?_eq_getElem hc'
          exact wr_aast cx kw hd hc2 (by rw [hc.1]; omega) hc.2.2.1 hc.2.2.2.1 (hc.2.2.2.2.imp id (fun w => ⟨w.1, by rw [w.2]; omega⟩)) hN
        · intro z1 z2 H locs ls ws tys hB
          exact absurd (no_kind hB.1 kw (by rw [hc.1]; omega) (by rw [hc.1]; omega)) id
      · cases hck
    · cases h1
  · cases h
theorem ms_17 (cx : mCx k p s m args meth c) (kw : mKW A ro h0 sh0 s) (nxt : ∀ (i : Nat) (L st : List mV) (σ1 : mS), N i L st σ1 = some z → NN σ1 → 0 ≤ σ1.2.2.1 → (mNp l D A ro h0 sh0 p e R s m args below meth c Q n0 t0 ad0 k (mPc k i) (L) (st) (σ1))) (hNN : NN σ) (hnn : 0 ≤ σ.2.2.1) (hd : decode (mBy k) (mPc k i) = .ok (ins, len)) (hck : mck17 k i ins len a b x t = true) {r : Int} (h : ((ln r σ).bind fun v => N (i + 1) L ((1, v) :: st) σ) = some z) : (mNp l D A ro h0 sh0 p e R s m args below meth c Q n0 t0 ad0 k (mPc k i) (L) ((3, r) :: st) (σ)) := by
  obtain ⟨v, h1, h2⟩ := bind_some h
  unfold ln at h1
  split at h1
  · rename_i hc
    cases h1
    have hN := nxt _ _ _ _ h2 hNN hnn
    unfold mck17 at hck
    split at hck
    · obtain ⟨e1, e2⟩ := mnx_spec hck
      subst e1; rw [e2] at hN
      exact wr_alen cx kw hd hc hN
    · cases hck
  · cases h1
theorem ms_18 (cx : mCx k p s m args meth c) (hA : ∀ q, s.heap.size ≤ q → A q) (nxt : ∀ (i : Nat) (L st : List mV) (σ1 : mS), N i L st σ1 = some z → NN σ1 → 0 ≤ σ1.2.2.1 → (mNp l D A ro h0 sh0 p e R s m args below meth c Q n0 t0 ad0 k (mPc k i) (L) (st) (σ1))) (hgr : ∀ i L st σ1, N i L st σ1 = some z → leS σ1 z.2) (hcR : (z.2.2.2.1 - n0).toNat ≤ R.cells) (hsR : (z.2.2.2.2 - t0).toNat ≤ R.slots) (hNN : NN σ) (hnn : 0 ≤ σ.2.2.1) (hd : decode (mBy k) (mPc k i) = .ok (ins, len)) (hck : mck18 k i ins len a b x t = true) (h : N (i + 1) L ((3, σ.2.2.1 + 1) :: st) (mnew a b σ) = some z) : (mNp l D A ro h0 sh0 p e R s m args below meth c Q n0 t0 ad0 k (mPc k i) (L) (st) (σ)) := by
  have h3 := (leS_new (σ := σ) (a := (a : Int)) (n := (b : Int)) (by omega)) hNN
  have h4 := hgr _ _ _ _ h h3.1
  have hN := nxt _ _ _ _ h h3.1 (by show 0 ≤ σ.2.2.1 + 1; omega)
  have h5 : σ.2.2.1 + 1 ≤ z.2.2.2.1 := h4.2.1
  have h6 : σ.2.2.2 + (b : Int) ≤ z.2.2.2.2 := h4.2.2
  unfold mck18 at hck
  split at hck
  · simp only [Bool.and_eq_true] at hck
    obtain ⟨e1, e2⟩ := mnx_spec hck.1.1
    subst e1; rw [e2] at hN
    cases hc : mCl[a - 1]? with
    | none => rw [hc] at hck; exact absurd hck.2 Bool.false_ne_true
    | some q =>
      obtain ⟨C, T, M⟩ := q
      have hck2 := hck.2
      rw [hc] at hck2
      simp only [Bool.and_eq_true] at hck2
      have eM := Nat.eq_of_beq_eq_true hck2.1
      have e1' := Nat.le_of_ble_eq_true hck2.2
      subst eM
      rw [show ((a : Nat) : Int) = ((a - 1 : Nat) : Int) + 1 from by omega] at hN
      exact wr_new cx hA hd hc (cll_spec hck.1.2 hc) (fun _ => by omega) (fun _ => by dsimp only; omega) hN
  · cases hck
theorem ms_19 (cx : mCx k p s m args meth c) (kw : mKW A ro h0 sh0 s) (hA : ∀ q, s.heap.size ≤ q → A q) (nxt : ∀ (i : Nat) (L st : List mV) (σ1 : mS), N i L st σ1 = some z → NN σ1 → 0 ≤ σ1.2.2.1 → (mNp l D A ro h0 sh0 p e R s m args below meth c Q n0 t0 ad0 k (mPc k i) (L) (st) (σ1))) (hgr : ∀ i L st σ1, N i L st σ1 = some z → leS σ1 z.2) (hcR : (z.2.2.2.1 - n0).toNat ≤ R.cells) (hsR : (z.2.2.2.2 - t0).toNat ≤ R.slots) (hNN : NN σ) (hnn : 0 ≤ σ.2.2.1) (hd : decode (mBy k) (mPc k i) = .ok (ins, len)) (hck : mck19 k i ins len a b x t = true) {n : Int} (h : ((na a n σ).bind fun σ' => N (i + 1) L ((3, σ'.2.2.1) :: st) σ') = some z) : (mNp l D A ro h0 sh0 p e R s m args below meth c Q n0 t0 ad0 k (mPc k i) (L) ((1, n) :: st) (σ)) := by
  obtain ⟨σ1, h1, h2⟩ := bind_some h
  have h3 := (leS_na h1) hNN
  unfold na at h1
  split at h1
  · rename_i hc
    cases h1
    have h4 := hgr _ _ _ _ h2 h3.1
    have hN := nxt _ _ _ _ h2 h3.1 (by show 0 ≤ σ.2.2.1 + 1; omega)
    have h5 : σ.2.2.1 + 1 ≤ z.2.2.2.1 := h4.2.1
    have h6 : σ.2.2.2 + n ≤ z.2.2.2.2 := h4.2.2
    unfold mck19 at hck
    split at hck
    · obtain ⟨e1, e2⟩ := mnx_spec hck
      subst e1; rw [e2] at hN
      exact wr_newa cx hA (Or.inl ⟨rfl, rfl⟩) rfl wx_arr_int hd hc (fun _ => by omega) (fun _ => by omega) hN
    · obtain ⟨e1, e2⟩ := mnx_spec hck
      subst e1; rw [e2] at hN
      exact wr_newa cx hA (Or.inr (Or.inl ⟨rfl, rfl⟩)) rfl wx_arr_byte hd hc (fun _ => by omega) (fun _ => by omega) hN
    · obtain ⟨e1, e2⟩ := mnx_spec hck
      subst e1; rw [e2] at hN
      exact wr_newa cx hA (Or.inr (Or.inr ⟨rfl, rfl⟩)) rfl wx_arr_boolean hd hc (fun _ => by omega) (fun _ => by omega) hN
    · simp only [Bool.and_eq_true] at hck
      obtain ⟨e1, e2⟩ := mnx_spec hck.1.1.1
      subst e1; rw [e2] at hN
      obtain ⟨q, q1, q2, w, q3, q4⟩ := al_spec hck.1.1.2
      have g1 := Nat.le_of_ble_eq_true hck.1.2
      rw [show ((a : Nat) : Int) = 201 + ((a - 200 - 1 : Nat) : Int) from by omega] at hN
      exact wr_newq cx hA hd q1 q2 (kw.2.2.2.2.2.2.2.2 _ w q3 q (by rw [q4]; exact q1)) hc (fun _ => by omega) (fun _ => by omega) hN
    · cases hck
  · cases h1
theorem ms_22 (cx : mCx k p s m args meth c) (nxt : ∀ (i : Nat) (L st : List mV) (σ1 : mS), N i L st σ1 = some z → NN σ1 → 0 ≤ σ1.2.2.1 → (mNp l D A ro h0 sh0 p e R s m args below meth c Q n0 t0 ad0 k (mPc k i) (L) (st) (σ1))) (hNN : NN σ) (hnn : 0 ≤ σ.2.2.1) (hd : decode (mBy k) (mPc k i) = .ok (ins, len)) (hck : mck22 k i ins len a b x t = true) (h : (match (generalizing := false) a, st with
    | 0, (1, v) :: st => N (i + 1) L ((1, v) :: (1, v) :: st) σ
    | 0, (3, v) :: st => N (i + 1) L ((3, v) :: (3, v) :: st) σ
    | 1, (1, v) :: (3, u) :: st => N (i + 1) L ((1, v) :: (3, u) :: (1, v) :: (3, u) :: st) σ
    | 2, (1, _) :: st => N (i + 1) L st σ
    | 2, (3, _) :: st => N (i + 1) L st σ
    | _, _ => none) = some z) : (mNp l D A ro h0 sh0 p e R s m args below meth c Q n0 t0 ad0 k (mPc k i) (L) (st) (σ)) := by
  have hN := fun st h => nxt (i + 1) L st σ h hNN hnn
  unfold mck22 at hck
  split at hck
  · obtain ⟨e1, e2⟩ := mnx_spec hck
    subst e1; rw [e2] at hN
    split at h <;> first | (cases h; done) | contradiction | exact wr_dup1 cx hd (hN _ h) | exact wr_dup3 cx hd (hN _ h)
  · obtain ⟨e1, e2⟩ := mnx_spec hck
    subst e1; rw [e2] at hN
    split at h <;> first | (cases h; done) | contradiction | exact wr_dup2 cx hd (hN _ h)
  · obtain ⟨e1, e2⟩ := mnx_spec hck
    subst e1; rw [e2] at hN
    split at h <;> first | (cases h; done) | contradiction | exact wr_pop1 cx hd (hN _ h) | exact wr_pop3 cx hd (hN _ h)
  · cases hck
theorem ms_23 (cx : mCx k p s m args meth c) (kw : mKW A ro h0 sh0 s) (nxt : ∀ (i : Nat) (L st : List mV) (σ1 : mS), N i L st σ1 = some z → NN σ1 → 0 ≤ σ1.2.2.1 → (mNp l D A ro h0 sh0 p e R s m args below meth c Q n0 t0 ad0 k (mPc k i) (L) (st) (σ1))) (hf : 8 ≤ R.frames) (hlo : 512 ≤ R.locals) (hNN : NN σ) (hnn : 0 ≤ σ.2.2.1) (hd : decode (mBy k) (mPc k i) = .ok (ins, len)) (hck : mck23 k i ins len a b x t = true) {n u' r' u r : Int} (h : cond ((mcat st).ble 8) ((cpy r u r' u' n σ).bind fun σ => N (i + 1) L st σ) none = some z) : (mNp l D A ro h0 sh0 p e R s m args below meth c Q n0 t0 ad0 k (mPc k i) (L) ((1, n) :: (1, u') :: (3, r') :: (1, u) :: (3, r) :: st) (σ)) := by
  obtain ⟨h8, h⟩ := cond_some h
  obtain ⟨σ1, h1, h2⟩ := bind_some h
  have h3 := (leS_cpy h1) hNN
  unfold cpy at h1
  split at h1
  · rename_i hc
    cases h1
    have hN := nxt _ _ _ _ h2 h3.1 hnn
    unfold mck23 at hck
    split at hck
    · rw [Bool.and_eq_true] at hck
      obtain ⟨e1, e2⟩ := mnx_spec hck.1
      subst e1; rw [e2] at hN
      exact wr_copy cx kw hd (yl_spec hck.2) hf hlo (Nat.le_of_ble_eq_true h8) hc hN
    · cases hck
  · cases h1
theorem ms_24 (cx : mCx k p s m args meth c) (kw : mKW A ro h0 sh0 s) (nxt : ∀ (i : Nat) (L st : List mV) (σ1 : mS), N i L st σ1 = some z → NN σ1 → 0 ≤ σ1.2.2.1 → (mNp l D A ro h0 sh0 p e R s m args below meth c Q n0 t0 ad0 k (mPc k i) (L) (st) (σ1))) (hf : 8 ≤ R.frames) (hlo : 512 ≤ R.locals) (hNN : NN σ) (hnn : 0 ≤ σ.2.2.1) (hd : decode (mBy k) (mPc k i) = .ok (ins, len)) (hck : mck24 k i ins len a b x t = true) {r : Int} (h : cond ((mcat st).ble 8) ((gk a r σ).bind fun _ => N (i + 1) L st σ) none = some z) : (mNp l D A ro h0 sh0 p e R s m args below meth c Q n0 t0 ad0 k (mPc k i) (L) ((3, r) :: st) (σ)) := by
  obtain ⟨h8, h⟩ := cond_some h
  obtain ⟨σ1, h1, h2⟩ := bind_some h
  unfold gk at h1
  split at h1
  · rename_i hc
    have hN := nxt _ _ _ _ h2 hNN hnn
    unfold mck24 at hck
    split at hck
    · simp only [Bool.and_eq_true] at hck
      obtain ⟨e1, e2⟩ := mnx_spec hck.1.1.1
      subst e1; rw [e2] at hN
      have g1 := Nat.le_of_ble_eq_true hck.1.1.2
      have g2 := Nat.blt_eq.mp hck.1.2
      have hc' : a - 1 < 11 := by omega
      have hc2 : mCl[a - 1]? = some mCl[a - 1] := List.getElem?_eq_getElem hc'
      exact wr_objInit cx kw hd (ol_spec hck.2) hc2 (by rw [hc]; omega) hf hlo (Nat.le_of_ble_eq_true h8) hN
    · cases hck
  · cases h1
theorem ms_27 (cx : mCx k p s m args meth c) (kw : mKW A ro h0 sh0 s) (hA : ∀ q, s.heap.size ≤ q → A q) (nxt : ∀ (i : Nat) (L st : List mV) (σ1 : mS), N i L st σ1 = some z → NN σ1 → 0 ≤ σ1.2.2.1 → (mNp l D A ro h0 sh0 p e R s m args below meth c Q n0 t0 ad0 k (mPc k i) (L) (st) (σ1))) (hgr : ∀ i L st σ1, N i L st σ1 = some z → leS σ1 z.2) (hcR : (z.2.2.2.1 - n0).toNat ≤ R.cells) (hsR : (z.2.2.2.2 - t0).toNat ≤ R.slots) (hf : 8 ≤ R.frames) (hlo : 512 ≤ R.locals) (hNN : NN σ) (hnn : 0 ≤ σ.2.2.1) (hd : decode (mBy k) (mPc k i) = .ok (ins, len)) (hck : mck27 k i ins len a b x t = true) {r : Int} (h : cond ((mcat st).ble 8) ((cln r σ).bind fun σ' => N (i + 1) L ((3, σ'.2.2.1) :: st) σ') none = some z) : (mNp l D A ro h0 sh0 p e R s m args below meth c Q n0 t0 ad0 k (mPc k i) (L) ((3, r) :: st) (σ)) := by
  obtain ⟨h8, h⟩ := cond_some h
  obtain ⟨σ1, h1, h2⟩ := bind_some h
  have h3 := (leS_cln h1) hNN
  unfold cln at h1
  split at h1
  · rename_i hc
    cases h1
    have h4 := hgr _ _ _ _ h2 h3.1
    have hN := nxt _ _ _ _ h2 h3.1 (by show 0 ≤ σ.2.2.1 + 1; omega)
    have h5 : σ.2.2.1 + 1 ≤ z.2.2.2.1 := h4.2.1
    have h6 : σ.2.2.2 + (σ.2.1 r).2 ≤ z.2.2.2.2 := h4.2.2
    unfold mck27 at hck
    split at hck
    · simp only [Bool.and_eq_true] at hck
      obtain ⟨e1, e2⟩ := mnx_spec hck.1.1
      have e3 := Nat.eq_of_beq_eq_true hck.1.2
      have e4 := Nat.eq_of_beq_eq_true hck.2
      subst e1; subst e3; rw [e2] at hN
      exact wr_clone cx kw hA (by rw [e4]; rfl) hd hc.1 hc.2 hf hlo (Nat.le_of_ble_eq_true h8) (fun _ => by omega) (fun _ => by omega) hN
    · cases hck
  · cases h1
theorem ms_28 (cx : mCx k p s m args meth c) (nxt : ∀ (i : Nat) (L st : List mV) (σ1 : mS), N i L st σ1 = some z → NN σ1 → 0 ≤ σ1.2.2.1 → (mNp l D A ro h0 sh0 p e R s m args below meth c Q n0 t0 ad0 k (mPc k i) (L) (st) (σ1))) (hNN : NN σ) (hnn : 0 ≤ σ.2.2.1) (hd : decode (mBy k) (mPc k i) = .ok (ins, len)) (hck : mck28 k i ins len a b x t = true) {r : Int} (h : ((cki r σ).bind fun v => N (i + 1) L ((3, v) :: st) σ) = some z) : (mNp l D A ro h0 sh0 p e R s m args below meth c Q n0 t0 ad0 k (mPc k i) (L) ((3, r) :: st) (σ)) := by
  obtain ⟨v, h1, h2⟩ := bind_some h
  unfold cki at h1
  split at h1
  · rename_i hc
    cases h1
    have hN := nxt _ _ _ _ h2 hNN hnn
    unfold mck28 at hck
    split at hck
    · simp only [Bool.and_eq_true] at hck
      obtain ⟨e1, e2⟩ := mnx_spec hck.1.1
      have e3 := Nat.eq_of_beq_eq_true hck.1.2
      have e4 := Nat.eq_of_beq_eq_true hck.2
      subst e1; subst e3; rw [e2] at hN
      exact wr_castA cx (by rw [e4]; rfl) hd hc.1 hc.2 hN
    · cases hck
  · cases h1
theorem ms_29 (cx : mCx k p s m args meth c) (nxt : ∀ (i : Nat) (L st : List mV) (σ1 : mS), N i L st σ1 = some z → NN σ1 → 0 ≤ σ1.2.2.1 → (mNp l D A ro h0 sh0 p e R s m args below meth c Q n0 t0 ad0 k (mPc k i) (L) (st) (σ1))) (hgr : ∀ i L st σ1, N i L st σ1 = some z → leS σ1 z.2) (hcR : (z.2.2.2.1 - n0).toNat ≤ R.cells) (hsR : (z.2.2.2.2 - t0).toNat ≤ R.slots) (hf : 8 ≤ R.frames) (hlo : 512 ≤ R.locals) (hNN : NN σ) (hnn : 0 ≤ σ.2.2.1) (hd : decode (mBy k) (mPc k i) = .ok (ins, len)) (hck : mck29 k i ins len a b x t = true) (h : (match (generalizing := false) a, st with
    | 0, (1, y) :: (1, x) :: st => cond ((mcat st).ble 8) (N (i + 1) L ((1, jmax x y) :: st) σ) none
    | 1, (1, y) :: (1, x) :: st => cond ((mcat st).ble 8) (N (i + 1) L ((1, jmin x y) :: st) σ) none
    | 2, (1, x) :: st => cond ((mcat st).ble 8) (N (i + 1) L ((1, jabs x) :: st) σ) none
    | _, _ => none) = some z) : (mNp l D A ro h0 sh0 p e R s m args below meth c Q n0 t0 ad0 k (mPc k i) (L) (st) (σ)) := by
  unfold mck29 at hck
  split at hck
  · simp only [Bool.and_eq_true] at hck
    obtain ⟨e1, e2⟩ := mnx_spec hck.1.1
    have hl := ql_spec hck.1.2
    subst e1
    split at h
    · obtain ⟨h8, h⟩ := cond_some h
      have hN := nxt _ _ _ _ h hNN hnn
      have h4 := hgr _ _ _ _ h hNN
      rw [e2] at hN
      exact wr_max cx hd hl hf hlo (by omega) (by omega) (Nat.le_of_ble_eq_true h8) hN
    · obtain ⟨h8, h⟩ := cond_some h
      have hN := nxt _ _ _ _ h hNN hnn
      have h4 := hgr _ _ _ _ h hNN
      rw [e2] at hN
      exact wr_min cx hd hl hf hlo (by omega) (by omega) (Nat.le_of_ble_eq_true h8) hN
    · obtain ⟨h8, h⟩ := cond_some h
      have hN := nxt _ _ _ _ h hNN hnn
      have h4 := hgr _ _ _ _ h hNN
      rw [e2] at hN
      exact wr_abs cx hd hl hf hlo (by omega) (by omega) (Nat.le_of_ble_eq_true h8) hN
    · cases h
  · cases hck
end Ops2
