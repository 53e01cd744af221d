/-! each instruction by its check -/
theorem kl_spec {o ix : Nat} {x : Int} (h : (mKl o).any (fun e => e.1.beq ix && decide (e.2.1 = x)) = true) : Cond.constant (mO o) ix (Int32.ofInt x) ∈ lw_g ∧ (Int32.ofInt x).toInt = x := by
  obtain ⟨q, h1, h2⟩ := List.any_eq_true.mp h
  simp only [Bool.and_eq_true, decide_eq_true_eq] at h2
  have h3 := mKl_ok o q h1
  unfold mKlb at h3
  simp only [Bool.and_eq_true, decide_eq_true_eq] at h3
  rw [Nat.eq_of_beq_eq_true h2.1, h2.2] at h3
  exact ⟨mw_in h3.1, h3.2⟩
theorem ll_spec {o ix : Nat} {x : Int} (h : (mLl o).any (fun e => e.1.beq ix && decide (e.2.1 = x)) = true) : Cond.constantLong (mO o) ix (Int64.ofInt x) ∈ lw_g ∧ (Int64.ofInt x).toInt = x := by
  obtain ⟨q, h1, h2⟩ := List.any_eq_true.mp h
  simp only [Bool.and_eq_true, decide_eq_true_eq] at h2
  have h3 := mLl_ok o q h1
  unfold mLlb at h3
  simp only [Bool.and_eq_true, decide_eq_true_eq] at h3
  rw [Nat.eq_of_beq_eq_true h2.1, h2.2] at h3
  exact ⟨mw_in h3.1, h3.2⟩
theorem fl_spec {o ix a b : Nat} (h : (mFl o).any (fun e => e.1.beq ix && e.2.1.beq a && e.2.2.1.beq b) = true) (hf : mff a b = true) : ∃ q, mCl[a - 1]? = some q ∧ b < q.2.2 ∧ 1 ≤ a ∧ Cond.fieldLink (mO o) ix q.1 (q.2.1 b).2.1 (q.2.1 b).2.2.1 ∈ lw_g ∧ (q.2.1 b).1 = q.1 := by
  obtain ⟨q, h1, h2⟩ := List.any_eq_true.mp h
  simp only [Bool.and_eq_true] at h2
  have h3 := mFl_ok o q h1
  unfold mFlb at h3
  rw [Nat.eq_of_beq_eq_true h2.1.1, Nat.eq_of_beq_eq_true h2.1.2, Nat.eq_of_beq_eq_true h2.2] at h3
  unfold mff at hf
  cases hc : mCl[a - 1]? with
  | none => rw [hc] at hf; cases hf
  | some w =>
    obtain ⟨C, T, N⟩ := w
    rw [hc] at hf h3
    simp only [Bool.and_eq_true, decide_eq_true_eq] at hf h3
    exact ⟨(C, T, N), rfl, Nat.blt_eq.mp hf.1, Nat.le_of_ble_eq_true hf.2, mw_in h3.1, h3.2⟩
theorem ml_spec {o ix a : Nat} (h : (mMl o).any (fun e => e.1.beq ix && e.2.1.beq a) = true) : Cond.methodLink (mO o) ix (mYn a) ∈ lw_g := by
  obtain ⟨q, h1, h2⟩ := List.any_eq_true.mp h
  simp only [Bool.and_eq_true] at h2
  have h3 := mMl_ok o q h1
  unfold mMlb at h3
  rw [Nat.eq_of_beq_eq_true h2.1, Nat.eq_of_beq_eq_true h2.2] at h3
  exact mw_in h3
theorem ql_spec {o ix a : Nat} (h : (mQl o).any (fun e => e.1.beq ix && e.2.1.beq a) = true) : Cond.methodLink (mO o) ix (mMath a) ∈ lw_g := by
  obtain ⟨q, h1, h2⟩ := List.any_eq_true.mp h
  simp only [Bool.and_eq_true] at h2
  have h3 := mQl_ok o q h1
  unfold mQlb at h3
  rw [Nat.eq_of_beq_eq_true h2.1, Nat.eq_of_beq_eq_true h2.2] at h3
  exact mw_in h3
theorem cll_spec {o ix a : Nat} {q : vw_C} (h : (mCll o).any (fun e => e.1.beq ix && e.2.1.beq a) = true) (hc : mCl[a - 1]? = some q) : Cond.classLink (mO o) ix q.1 ∈ lw_g := by
  obtain ⟨w, h1, h2⟩ := List.any_eq_true.mp h
  simp only [Bool.and_eq_true] at h2
  have h3 := mCll_ok o w h1
  unfold mClb at h3
  rw [Nat.eq_of_beq_eq_true h2.1, Nat.eq_of_beq_eq_true h2.2, hc] at h3
  exact mw_in h3
theorem al_spec {o ix a : Nat} (h : (mAl o).any (fun e => e.1.beq ix && e.2.1.beq a) = true) : ∃ q, mCl[a - 1]? = some q ∧ Cond.classLink (mO o) ix q.1 ∈ lw_g ∧ ∃ w ∈ mAl o, w.2.1 = a := by
  obtain ⟨w, h1, h2⟩ := List.any_eq_true.mp h
  simp only [Bool.and_eq_true] at h2
  have h3 := mAl_ok o w h1
  unfold mAlb at h3
  have e2 := Nat.eq_of_beq_eq_true h2.2
  rw [Nat.eq_of_beq_eq_true h2.1, e2] at h3
  cases hc : mCl[a - 1]? with
  | none => rw [hc] at h3; cases h3
  | some q =>
    rw [hc] at h3
    exact ⟨q, rfl, mw_in h3, w, h1, e2⟩
theorem ol_spec {o ix : Nat} (h : (mOl o).any (fun e => e.1.beq ix) = true) : Cond.methodLink (mO o) ix objectInit ∈ lw_g := by
  obtain ⟨q, h1, h2⟩ := List.any_eq_true.mp h
  have h3 := mOl_ok o q h1
  unfold mOlb at h3
  rw [Nat.eq_of_beq_eq_true h2] at h3
  exact mw_in h3
theorem yl_spec {o ix : Nat} (h : (mYl o).any (fun e => e.1.beq ix) = true) : Cond.methodLink (mO o) ix arraycopyName ∈ lw_g := by
  obtain ⟨q, h1, h2⟩ := List.any_eq_true.mp h
  have h3 := mYl_ok o q h1
  unfold mYlb at h3
  rw [Nat.eq_of_beq_eq_true h2] at h3
  exact mw_in h3
theorem gl_spec {o ix : Nat} {x : Int} (h : (mGl o).any (fun e => e.1.beq ix && decide (e.2 = x)) = true) : (o = 6 ∧ ix = 51 ∧ x = -2) ∨ (o = 9 ∧ ix = 134 ∧ x = -3) := by
  obtain ⟨q, h1, h2⟩ := List.any_eq_true.mp h
  simp only [Bool.and_eq_true, decide_eq_true_eq] at h2
  obtain ⟨h3, h4⟩ := h2
  have h3 := Nat.eq_of_beq_eq_true h3
  unfold mGl at h1
  split at h1
  · simp at h1; subst h1; exact Or.inl ⟨rfl, h3.symm, h4.symm⟩
  · simp at h1; subst h1; exact Or.inr ⟨rfl, h3.symm, h4.symm⟩
  · simp at h1
section Ops
variable {l : Launch} {D : va_G} {A : Nat → Prop} {ro : Int → Nat} {h0 : Int → Int → Int} {sh0 : Int → Int × Int} {p : Program} {e : Env} {R : Room} {s : State} {m : MethodId} {args : Array Value} {below : List Frame} {meth : Method} {c : Code} {Q : State → Prop} {n0 t0 : Int} {ad0 : List Nat} {k i : Nat} {L st : List mV} {σ : mS} {N : Nat → List mV → List mV → mS → Option (Int × mS)} {z : Int × mS} {ins : Instr} {len a b : Nat} {x : Int} {t : List (Int × Nat)}
theorem ms_0 (cx : mCx k p s m args meth c) (kw : mKW A ro h0 sh0 s) (nxt : ∀ (i : Nat) (L st : List mV) (σ1 : mS), N i L st σ1 = some z → NN σ1 → 0 ≤ σ1.2.2.1 → (mNp l D A ro h0 sh0 p e R s m args below meth c Q n0 t0 ad0 k (mPc k i) (L) (st) (σ1))) (hNN : NN σ) (hnn : 0 ≤ σ.2.2.1) (hd : decode (mBy k) (mPc k i) = .ok (ins, len)) (hck : mck0 k i ins len a b x t = true) (h : N (i + 1) L ((a, x) :: st) σ = some z) : (mNp l D A ro h0 sh0 p e R s m args below meth c Q n0 t0 ad0 k (mPc k i) (L) (st) (σ)) := by
  have hN := nxt _ _ _ _ h hNN hnn
  unfold mck0 at hck
  split at hck
  · simp only [Bool.and_eq_true, decide_eq_true_eq] at hck
    obtain ⟨e1, e2⟩ := mnx_spec hck.1
    subst e1; rw [e2] at hN
    exact wr_iconst cx hd hck.2 hN
  · simp only [Bool.and_eq_true, decide_eq_true_eq] at hck
    obtain ⟨e1, e2⟩ := mnx_spec hck.1
    subst e1; rw [e2] at hN
    exact wr_bipush cx hd hck.2 hN
  · simp only [Bool.and_eq_true, decide_eq_true_eq] at hck
    obtain ⟨e1, e2⟩ := mnx_spec hck.1
    subst e1; rw [e2] at hN
    exact wr_sipush cx hd hck.2 hN
  · rw [Bool.and_eq_true] at hck
    obtain ⟨e1, e2⟩ := mnx_spec hck.1
    subst e1; rw [e2] at hN
    exact wr_ldc cx hd (kl_spec hck.2).1 (kl_spec hck.2).2 hN
  · rw [Bool.and_eq_true] at hck
    obtain ⟨e1, e2⟩ := mnx_spec hck.1
    subst e1; rw [e2] at hN
    exact wr_ldcw cx hd (kl_spec hck.2).1 (kl_spec hck.2).2 hN
  · rw [Bool.and_eq_true] at hck
    obtain ⟨e1, e2⟩ := mnx_spec hck.1
    subst e1; rw [e2] at hN
    obtain ⟨w, h1, h2⟩ := List.any_eq_true.mp hck.2
    simp only [Bool.and_eq_true, decide_eq_true_eq] at h2
    obtain ⟨w1, w2, w3⟩ := w
    dsimp only at h2
    have h3 := Nat.eq_of_beq_eq_true h2.1
    rw [h3, h2.2] at h1
    exact wr_ldcS cx kw hnn hd h1 hN
  · simp only [Bool.and_eq_true, decide_eq_true_eq] at hck
    obtain ⟨e1, e2⟩ := mnx_spec hck.1
    subst e1; rw [e2] at hN
    exact wr_lconst cx hd hck.2 hN
  · rw [Bool.and_eq_true] at hck
    obtain ⟨e1, e2⟩ := mnx_spec hck.1
    subst e1; rw [e2] at hN
    exact wr_ldc2 cx hd (ll_spec hck.2).1 (ll_spec hck.2).2 hN
  · simp only [Bool.and_eq_true, decide_eq_true_eq] at hck
    obtain ⟨e1, e2⟩ := mnx_spec hck.1
    have e3 := hck.2
    subst e3; subst e1; rw [e2] at hN
    exact wr_null cx hnn hd hN
  · rw [Bool.and_eq_true] at hck
    obtain ⟨e1, e2⟩ := mnx_spec hck.1
    subst e1; rw [e2] at hN
    rcases gl_spec hck.2 with ⟨o1, o2, o3⟩ | ⟨o1, o2, o3⟩
    · subst o2; subst o3
      exact wr_getsF cx kw hnn (by rw [o1]; rfl) hd hN
    · subst o2; subst o3
      exact wr_getsH cx kw hnn (by rw [o1]; rfl) hd hN
  · cases hck
theorem ms_1 (cx : mCx k p s m args meth c) (nxt : ∀ (i : Nat) (L st : List mV) (σ1 : mS), N i L st σ1 = some z → NN σ1 → 0 ≤ σ1.2.2.1 → (mNp l D A ro h0 sh0 p e R s m args below meth c Q n0 t0 ad0 k (mPc k i) (L) (st) (σ1))) (hNN : NN σ) (hnn : 0 ≤ σ.2.2.1) (hd : decode (mBy k) (mPc k i) = .ok (ins, len)) (hck : mck1 k i ins len a b x t = true) {tv : Nat} {v : Int} (hl : L[a]? = some (tv, v)) (hb : tv.beq b = true) (h : N (i + 1) L ((b, v) :: st) σ = some z) : (mNp l D A ro h0 sh0 p e R s m args below meth c Q n0 t0 ad0 k (mPc k i) (L) (st) (σ)) := by
  have hN := nxt _ _ _ _ h hNN hnn
  have hb := Nat.eq_of_beq_eq_true hb
  subst hb
  unfold mck1 at hck
  split at hck <;> first | (cases hck; done) | (rw [Bool.and_eq_true] at hck; obtain ⟨e1, e2⟩ := mnx_spec hck.1; have e3 := Nat.eq_of_beq_eq_true hck.2; subst e1; rw [e2] at hN; first | (subst e3; first | exact wr_iload cx hd hl hN | exact wr_lload cx hd hl hN | exact wr_aload cx hd hl hN) | exact wr_iload_n cx hd e3 hl hN | exact wr_lload_n cx hd e3 hl hN | exact wr_aload_n cx hd e3 hl hN)
theorem ms_2 (cx : mCx k p s m args meth c) (nxt : ∀ (i : Nat) (L st : List mV) (σ1 : mS), N i L st σ1 = some z → NN σ1 → 0 ≤ σ1.2.2.1 → (mNp l D A ro h0 sh0 p e R s m args below meth c Q n0 t0 ad0 k (mPc k i) (L) (st) (σ1))) (hNN : NN σ) (hnn : 0 ≤ σ.2.2.1) (hd : decode (mBy k) (mPc k i) = .ok (ins, len)) (hck : mck2 k i ins len a b x t = true) {v : Int} (hl : a + (cond (b.beq 2) 1 0) < L.length) (h : N (i + 1) (mset L a (b, v)) st σ = some z) : (mNp l D A ro h0 sh0 p e R s m args below meth c Q n0 t0 ad0 k (mPc k i) (L) ((b, v) :: st) (σ)) := by
  have hN := nxt _ _ _ _ h hNN hnn
  unfold mck2 at hck
  split at hck <;> first | (cases hck; done) | (rw [Bool.and_eq_true] at hck; obtain ⟨e1, e2⟩ := mnx_spec hck.1; have e3 := Nat.eq_of_beq_eq_true hck.2; subst e1; rw [e2] at hN; first | (subst e3; first | exact wr_istore cx hd hl hN | exact wr_lstore cx hd hl hN | exact wr_astore cx hd hl hN) | exact wr_istore_n cx hd e3 hl hN | exact wr_lstore_n cx hd e3 hl hN | exact wr_astore_n cx hd e3 hl hN)
theorem ms_3 (cx : mCx k p s m args meth c) (nxt : ∀ (i : Nat) (L st : List mV) (σ1 : mS), N i L st σ1 = some z → NN σ1 → 0 ≤ σ1.2.2.1 → (mNp l D A ro h0 sh0 p e R s m args below meth c Q n0 t0 ad0 k (mPc k i) (L) (st) (σ1))) (hNN : NN σ) (hnn : 0 ≤ σ.2.2.1) (hd : decode (mBy k) (mPc k i) = .ok (ins, len)) (hck : mck3 k i ins len a b x t = true) {v : Int} (hl : L[a]? = some (1, v)) (h : N (i + 1) (mset L a (1, w32 (v + x))) st σ = some z) : (mNp l D A ro h0 sh0 p e R s m args below meth c Q n0 t0 ad0 k (mPc k i) (L) (st) (σ)) := by
  have hN := nxt _ _ _ _ h hNN hnn
  unfold mck3 at hck
  split at hck
  · simp only [Bool.and_eq_true, decide_eq_true_eq] at hck
    obtain ⟨e1, e2⟩ := mnx_spec hck.1.1
    have e3 := Nat.eq_of_beq_eq_true hck.1.2
    subst e1; subst e3; rw [e2] at hN
    exact wr_iinc cx hd hck.2 hl hN
  · cases hck
theorem ms_4 (cx : mCx k p s m args meth c) (nxt : ∀ (i : Nat) (L st : List mV) (σ1 : mS), N i L st σ1 = some z → NN σ1 → 0 ≤ σ1.2.2.1 → (mNp l D A ro h0 sh0 p e R s m args below meth c Q n0 t0 ad0 k (mPc k i) (L) (st) (σ1))) (hNN : NN σ) (hnn : 0 ≤ σ.2.2.1) (hd : decode (mBy k) (mPc k i) = .ok (ins, len)) (hck : mck4 k i ins len a b x t = true) {u v : Int} (h : mbin a u v (fun w => N (i + 1) L ((1, w) :: st) σ) = some z) : (mNp l D A ro h0 sh0 p e R s m args below meth c Q n0 t0 ad0 k (mPc k i) (L) ((1, v) :: (1, u) :: st) (σ)) := by
  have hN := fun w h => nxt (i + 1) L ((1, w) :: st) σ h hNN hnn
  unfold mck4 at hck
  split at hck
  · obtain ⟨e1, e2⟩ := mnx_spec hck
    subst e1; rw [e2] at hN
    exact wr_iadd cx hd (hN _ h)
  · obtain ⟨e1, e2⟩ := mnx_spec hck
    subst e1; rw [e2] at hN
    exact wr_isub cx hd (hN _ h)
  · obtain ⟨e1, e2⟩ := mnx_spec hck
    subst e1; rw [e2] at hN
    exact wr_imul cx hd (hN _ h)
  · obtain ⟨e1, e2⟩ := mnx_spec hck
    subst e1; rw [e2] at hN
    simp only [mbin, idv] at h
    by_cases hv : v = 0
    · rw [if_pos hv] at h; cases h
    · rw [if_neg hv] at h
      exact wr_idiv cx hd hv (hN _ h)
  · obtain ⟨e1, e2⟩ := mnx_spec hck
    subst e1; rw [e2] at hN
    simp only [mbin, irm] at h
    by_cases hv : v = 0
    · rw [if_pos hv] at h; cases h
    · rw [if_neg hv] at h
      exact wr_irem cx hd hv (hN _ h)
  · obtain ⟨e1, e2⟩ := mnx_spec hck
    subst e1; rw [e2] at hN
    exact wr_iand cx hd (hN _ h)
  · obtain ⟨e1, e2⟩ := mnx_spec hck
    subst e1; rw [e2] at hN
    exact wr_ior cx hd (hN _ h)
  · obtain ⟨e1, e2⟩ := mnx_spec hck
    subst e1; rw [e2] at hN
    exact wr_ixor cx hd (hN _ h)
  · obtain ⟨e1, e2⟩ := mnx_spec hck
    subst e1; rw [e2] at hN
    exact wr_ishl cx hd (hN _ h)
  · obtain ⟨e1, e2⟩ := mnx_spec hck
    subst e1; rw [e2] at hN
    exact wr_ishr cx hd (hN _ h)
  · obtain ⟨e1, e2⟩ := mnx_spec hck
    subst e1; rw [e2] at hN
    exact wr_iushr cx hd (hN _ h)
  · cases hck
theorem ms_5 (cx : mCx k p s m args meth c) (nxt : ∀ (i : Nat) (L st : List mV) (σ1 : mS), N i L st σ1 = some z → NN σ1 → 0 ≤ σ1.2.2.1 → (mNp l D A ro h0 sh0 p e R s m args below meth c Q n0 t0 ad0 k (mPc k i) (L) (st) (σ1))) (hNN : NN σ) (hnn : 0 ≤ σ.2.2.1) (hd : decode (mBy k) (mPc k i) = .ok (ins, len)) (hck : mck5 k i ins len a b x t = true) {u v : Int} (h : mlbin a u v (fun w => N (i + 1) L ((2, w) :: st) σ) = some z) : (mNp l D A ro h0 sh0 p e R s m args below meth c Q n0 t0 ad0 k (mPc k i) (L) ((2, v) :: (2, u) :: st) (σ)) := by
  have hN := fun w h => nxt (i + 1) L ((2, w) :: st) σ h hNN hnn
  unfold mck5 at hck
  split at hck
  · obtain ⟨e1, e2⟩ := mnx_spec hck
    subst e1; rw [e2] at hN
    exact wr_ladd cx hd (hN _ h)
  · obtain ⟨e1, e2⟩ := mnx_spec hck
    subst e1; rw [e2] at hN
    exact wr_lsub cx hd (hN _ h)
  · obtain ⟨e1, e2⟩ := mnx_spec hck
    subst e1; rw [e2] at hN
    exact wr_lmul cx hd (hN _ h)
  · obtain ⟨e1, e2⟩ := mnx_spec hck
    subst e1; rw [e2] at hN
    simp only [mlbin, ldv] at h
    by_cases hv : v = 0
    · rw [if_pos hv] at h; cases h
    · rw [if_neg hv] at h
      exact wr_ldiv cx hd hv (hN _ h)
  · obtain ⟨e1, e2⟩ := mnx_spec hck
    subst e1; rw [e2] at hN
    simp only [mlbin, lrm] at h
    by_cases hv : v = 0
    · rw [if_pos hv] at h; cases h
    · rw [if_neg hv] at h
      exact wr_lrem cx hd hv (hN _ h)
  · cases hck
theorem ms_7 (cx : mCx k p s m args meth c) (nxt : ∀ (i : Nat) (L st : List mV) (σ1 : mS), N i L st σ1 = some z → NN σ1 → 0 ≤ σ1.2.2.1 → (mNp l D A ro h0 sh0 p e R s m args below meth c Q n0 t0 ad0 k (mPc k i) (L) (st) (σ1))) (hNN : NN σ) (hnn : 0 ≤ σ.2.2.1) (hd : decode (mBy k) (mPc k i) = .ok (ins, len)) (hck : mck7 k i ins len a b x t = true) {u : Int} (h : mif a u 0 (N b L st σ) (N (i + 1) L st σ) = some z) : (mNp l D A ro h0 sh0 p e R s m args below meth c Q n0 t0 ad0 k (mPc k i) (L) ((1, u) :: st) (σ)) := by
  unfold mck7 at hck
  split at hck
  · rename_i cd o
    simp only [Bool.and_eq_true] at hck
    obtain ⟨e1, e2⟩ := mnx_spec hck.1.1
    have e3 := Nat.eq_of_beq_eq_true hck.1.2
    subst e1; subst e3
    obtain ⟨h1, h2⟩ := mif_cases h
    exact wr_if cx cd hd (mtg_spec hck.2) (fun q => nxt _ _ _ _ (h1 q) hNN hnn) (fun q => by rw [← e2]; exact nxt _ _ _ _ (h2 q) hNN hnn)
  · cases hck
theorem ms_8 (cx : mCx k p s m args meth c) (nxt : ∀ (i : Nat) (L st : List mV) (σ1 : mS), N i L st σ1 = some z → NN σ1 → 0 ≤ σ1.2.2.1 → (mNp l D A ro h0 sh0 p e R s m args below meth c Q n0 t0 ad0 k (mPc k i) (L) (st) (σ1))) (hNN : NN σ) (hnn : 0 ≤ σ.2.2.1) (hd : decode (mBy k) (mPc k i) = .ok (ins, len)) (hck : mck8 k i ins len a b x t = true) {u v : Int} (h : mif a u v (N b L st σ) (N (i + 1) L st σ) = some z) : (mNp l D A ro h0 sh0 p e R s m args below meth c Q n0 t0 ad0 k (mPc k i) (L) ((1, v) :: (1, u) :: st) (σ)) := by
  unfold mck8 at hck
  split at hck
  · rename_i cd o
    simp only [Bool.and_eq_true] at hck
    obtain ⟨e1, e2⟩ := mnx_spec hck.1.1
    have e3 := Nat.eq_of_beq_eq_true hck.1.2
    subst e1; subst e3
    obtain ⟨h1, h2⟩ := mif_cases h
    exact wr_icmp cx cd hd (mtg_spec hck.2) (fun q => nxt _ _ _ _ (h1 q) hNN hnn) (fun q => by rw [← e2]; exact nxt _ _ _ _ (h2 q) hNN hnn)
  · cases hck
theorem ms_9 (cx : mCx k p s m args meth c) (nxt : ∀ (i : Nat) (L st : List mV) (σ1 : mS), N i L st σ1 = some z → NN σ1 → 0 ≤ σ1.2.2.1 → (mNp l D A ro h0 sh0 p e R s m args below meth c Q n0 t0 ad0 k (mPc k i) (L) (st) (σ1))) (hNN : NN σ) (hnn : 0 ≤ σ.2.2.1) (hd : decode (mBy k) (mPc k i) = .ok (ins, len)) (hck : mck9 k i ins len a b x t = true) (h : N b L st σ = some z) : (mNp l D A ro h0 sh0 p e R s m args below meth c Q n0 t0 ad0 k (mPc k i) (L) (st) (σ)) := by
  unfold mck9 at hck
  split at hck
  · rw [Bool.and_eq_true] at hck
    have e1 := Nat.eq_of_beq_eq_true hck.1
    subst e1
    exact wr_goto cx hd (mtg_spec hck.2) (nxt _ _ _ _ h hNN hnn)
  · cases hck
theorem ms_10 (cx : mCx k p s m args meth c) (nxt : ∀ (i : Nat) (L st : List mV) (σ1 : mS), N i L st σ1 = some z → NN σ1 → 0 ≤ σ1.2.2.1 → (mNp l D A ro h0 sh0 p e R s m args below meth c Q n0 t0 ad0 k (mPc k i) (L) (st) (σ1))) (hNN : NN σ) (hnn : 0 ≤ σ.2.2.1) (hd : decode (mBy k) (mPc k i) = .ok (ins, len)) (hck : mck10 k i ins len a b x t = true) {u : Int} (h : mif a u 0 (N b L st σ) (N (i + 1) L st σ) = some z) : (mNp l D A ro h0 sh0 p e R s m args below meth c Q n0 t0 ad0 k (mPc k i) (L) ((3, u) :: st) (σ)) := by
  obtain ⟨h1, h2⟩ := mif_cases h
  unfold mck10 at hck
  split at hck
  · rw [Bool.and_eq_true] at hck
    obtain ⟨e1, e2⟩ := mnx_spec hck.1
    subst e1
    exact wr_ifnull cx hd (mtg_spec hck.2) (fun q => nxt _ _ _ _ (h1 q) hNN hnn) (fun q => by rw [← e2]; exact nxt _ _ _ _ (h2 q) hNN hnn)
  · rw [Bool.and_eq_true] at hck
    obtain ⟨e1, e2⟩ := mnx_spec hck.1
    subst e1
    exact wr_ifnonnull cx hd (mtg_spec hck.2) (fun q => nxt _ _ _ _ (h1 q) hNN hnn) (fun q => by rw [← e2]; exact nxt _ _ _ _ (h2 (fun w => w q)) hNN hnn)
  · cases hck
theorem ms_11 (cx : mCx k p s m args meth c) (nxt : ∀ (i : Nat) (L st : List mV) (σ1 : mS), N i L st σ1 = some z → NN σ1 → 0 ≤ σ1.2.2.1 → (mNp l D A ro h0 sh0 p e R s m args below meth c Q n0 t0 ad0 k (mPc k i) (L) (st) (σ1))) (hNN : NN σ) (hnn : 0 ≤ σ.2.2.1) (hd : decode (mBy k) (mPc k i) = .ok (ins, len)) (hck : mck11 k i ins len a b x t = true) {u v : Int} (h : ((nng u v).bind fun _ => mif a u v (N b L st σ) (N (i + 1) L st σ)) = some z) : (mNp l D A ro h0 sh0 p e R s m args below meth c Q n0 t0 ad0 k (mPc k i) (L) ((3, v) :: (3, u) :: st) (σ)) := by
  unfold nng at h
  by_cases hu : 0 ≤ u ∧ 0 ≤ v
  · rw [if_pos hu] at h
    obtain ⟨h1, h2⟩ := mif_cases h
    unfold mck11 at hck
    split at hck
    · rename_i cd o
      simp only [Bool.and_eq_true] at hck
      obtain ⟨e1, e2⟩ := mnx_spec hck.1.1
      have e3 := Nat.eq_of_beq_eq_true hck.1.2
      subst e1; subst e3
      exact wr_acmp cx cd hd (mtg_spec hck.2) hu.1 hu.2 (fun q => nxt _ _ _ _ (h1 q) hNN hnn) (fun q => by rw [← e2]; exact nxt _ _ _ _ (h2 q) hNN hnn)
    · cases hck
  · rw [if_neg hu] at h; cases h
theorem ms_12 (cx : mCx k p s m args meth c) (nxt : ∀ (i : Nat) (L st : List mV) (σ1 : mS), N i L st σ1 = some z → NN σ1 → 0 ≤ σ1.2.2.1 → (mNp l D A ro h0 sh0 p e R s m args below meth c Q n0 t0 ad0 k (mPc k i) (L) (st) (σ1))) (hNN : NN σ) (hnn : 0 ≤ σ.2.2.1) (hd : decode (mBy k) (mPc k i) = .ok (ins, len)) (hck : mck12 k i ins len a b x t = true) {u : Int} (h : msw (fun j => N j L st σ) b u t = some z) : (mNp l D A ro h0 sh0 p e R s m args below meth c Q n0 t0 ad0 k (mPc k i) (L) ((1, u) :: st) (σ)) := by
  rw [msw_sel] at h
  unfold mck12 at hck
  split at hck
  · simp only [Bool.and_eq_true, decide_eq_true_eq] at hck
    exact wr_table cx hd hck.1.1 hck.1.2 hck.2 (nxt _ _ _ _ h hNN hnn)
  · simp only [Bool.and_eq_true] at hck
    exact wr_lookup cx hd hck.1.1 hck.1.2 hck.2 (nxt _ _ _ _ h hNN hnn)
  · cases hck
end Ops
