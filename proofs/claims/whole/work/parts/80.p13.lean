/-! SUMS, TERMS, TESTS of the reference's reader -/
theorem r_Sumbad {G : Nat → List mV → mS → Option (Int × mS)} {dep : Int} {σ : mS} (hB : zB σ) (h : σ.1 68 18 ≠ -1) (M : Nat) : wpo (miter (fun s : mS => B_Mo_readSum_3 G 68 dep s) (M + 1) σ) (fun q => q.2 = σ) := by
  unfold miter
  refine wpo_call (Q := fun z => z = Sum.inr (0, σ)) ?_ (fun z hz => by rw [hz]; exact wpo_some.mpr rfl)
  show wpo (B_Mo_readSum_3 G 68 dep σ) _
  have t1 := r_takes0 (c := w32 (100 + 43)) hB h
  have t2 := r_takes0 (c := w32 (100 + 45)) hB h
  unfold B_Mo_readSum_3 M_Mo_sign
  refine wpo_bind.mpr (wpo_some.mpr ?_)
  refine wpo_bind.mpr (wpo_gk.mpr ⟨zk68 hB ▸ rfl, ?_⟩)
  rw [t1]
  refine wpo_bind.mpr (wpo_some.mpr ?_)
  rw [if_pos rfl]
  refine wpo_bind.mpr (wpo_some.mpr ?_)
  refine wpo_bind.mpr (wpo_gk.mpr ⟨zk68 hB ▸ rfl, ?_⟩)
  rw [t2]
  refine wpo_bind.mpr (wpo_some.mpr ?_)
  rw [if_pos rfl]
  exact wpo_some.mpr rfl
set_option maxHeartbeats 4000000 in
theorem r_SumLoop {K V S : Nat → Int} {N : Nat} (hT : zTx K V N) (hY : zTy K S N) {Pd : zDn → Prop} {sub : Nat → Nat → zRe} (hsub : zSub N Pd sub) {G : Nat → List mV → mS → Option (Int × mS)} {dep : Int} (hG : zMs K V S N (G 93 [(3, 68), (1, dep)]) sub) :
    ∀ (n M a p : Nat) (d : zDn) (σ0 σ : mS), n + 1 < M → N < a + n → zMp K V S N a p σ → zFt σ0 σ →
    wpo (miter (fun s : mS => B_Mo_readSum_3 G 68 dep s) M σ) (zMo S (zLp K 43 45 zbin sub n a p d) σ0) := by
  intro n
  induction n with
  | zero => intro M a p d σ0 σ _ h1 h2; have := h2.2.2.2.2.1; omega
  | succ n ih =>
    intro M a p d σ0 σ hM hn hP hF
    obtain ⟨M, rfl⟩ : ∃ K, M = K + 1 := ⟨M - 1, by omega⟩
    have hP0 := hP
    obtain ⟨h1, h2, h3, h4, h5, h6⟩ := hP
    have hB := h1.1
    have N4 := hT.1
    have ky := (hY.1 a h5)
    have t1 := r_takesS (c := 43) N4 hY hP0 (by decide)
    have t2 := r_takesS (c := 45) N4 hY hP0 (by decide)
    have s1 : w32 (100 + 43) = 100 + 43 := by decide
    have s2 : w32 (100 + 45) = 100 + 45 := by decide
    have n10 : ¬ (1 : Int) = 0 := by decide
    unfold miter
    by_cases c : K a = 43 ∨ K a = 45
    · have ne : a ≠ N := by intro e; rw [e, hT.2.1] at c; omega
      obtain ⟨tf, tp⟩ := zMp_tok hP0 (by omega)
      have hB1 := tp.1.1
      have step : wpo (B_Mo_readSum_3 G 68 dep σ) (fun z => ∃ q : Int × mS, z = Sum.inl q.2 ∧ zMo S (sub (a + 1) p) (mup σ.1 68 16 ((a + 1 : Nat) : Int), σ.2) q) := by
        have g := hG.1 (a + 1) p _ tp
        unfold B_Mo_readSum_3 M_Mo_sign
        refine wpo_bind.mpr (wpo_some.mpr ?_)
        refine wpo_bind.mpr (wpo_gk.mpr ⟨zk68 hB ▸ rfl, ?_⟩)
        rw [s1, t1]
        by_cases c1 : K a = 43
        · rw [if_pos c1]
          refine wpo_bind.mpr (wpo_some.mpr ?_)
          rw [if_neg n10]
          refine wpo_bind.mpr (wpo_gk.mpr ⟨zk68 hB1 ▸ rfl, ?_⟩)
          exact wpo_call g (fun q hq => wpo_some.mpr ⟨q, rfl, hq⟩)
        · rw [if_neg c1]
          refine wpo_bind.mpr (wpo_some.mpr ?_)
          rw [if_pos rfl]
          refine wpo_bind.mpr (wpo_some.mpr ?_)
          refine wpo_bind.mpr (wpo_gk.mpr ⟨zk68 hB ▸ rfl, ?_⟩)
          rw [s2, t2, if_pos (c.resolve_left c1)]
          refine wpo_bind.mpr (wpo_some.mpr ?_)
          rw [if_neg n10]
          refine wpo_bind.mpr (wpo_gk.mpr ⟨zk68 hB1 ▸ rfl, ?_⟩)
          exact wpo_call g (fun q hq => wpo_some.mpr ⟨q, rfl, hq⟩)
      refine wpo_call step ?_
      intro z ⟨q, hz, q1, q2⟩
      rw [hz]
      unfold zLp
      rw [if_pos c]
      have fq := hF.trans (tf.trans q1)
      rcases hsub (a + 1) p (by omega) h6 with ⟨k1, k2, k3, k4, k5, k6⟩ | ⟨k1, k2, k3⟩
      · rcases q2 with ⟨r1, r2⟩ | ⟨r1, _⟩
        · rw [if_pos r1]
          exact ih M _ _ _ σ0 q.2 (by omega) (by omega) (zMp_of tp.1 q1 r2 k3 k5) fq
        · omega
      · rcases q2 with ⟨r1, _⟩ | ⟨r1, r2⟩
        · omega
        · rw [if_neg (by omega)]
          obtain ⟨M, rfl⟩ : ∃ K, M = K + 1 := ⟨M - 1, by omega⟩
          have s0 := (hY.1 (sub (a + 1) p).2.1 k3).2.2
          refine wpo_mono (r_Sumbad q1.2.1 (by omega) M) ?_
          intro y hy
          exact ⟨by rw [hy]; exact fq, Or.inr ⟨r1, by rw [hy]; exact r2⟩⟩
    · have c1 : ¬ K a = 43 := fun e => c (Or.inl e)
      have c2 : ¬ K a = 45 := fun e => c (Or.inr e)
      rw [if_neg c1] at t1
      rw [if_neg c2] at t2
      refine wpo_call (Q := fun z => z = Sum.inr (0, σ)) ?_ ?_
      · show wpo (B_Mo_readSum_3 G 68 dep σ) _
        unfold B_Mo_readSum_3 M_Mo_sign
        refine wpo_bind.mpr (wpo_some.mpr ?_)
        refine wpo_bind.mpr (wpo_gk.mpr ⟨zk68 hB ▸ rfl, ?_⟩)
        rw [s1, t1]
        refine wpo_bind.mpr (wpo_some.mpr ?_)
        rw [if_pos rfl]
        refine wpo_bind.mpr (wpo_some.mpr ?_)
        refine wpo_bind.mpr (wpo_gk.mpr ⟨zk68 hB ▸ rfl, ?_⟩)
        rw [s2, t2]
        refine wpo_bind.mpr (wpo_some.mpr ?_)
        rw [if_pos rfl]
        exact wpo_some.mpr rfl
      · intro z hz
        rw [hz]
        unfold zLp
        rw [if_neg c]
        exact wpo_some.mpr ⟨hF, Or.inl ⟨rfl, h2, h3, h4⟩⟩
set_option maxHeartbeats 4000000 in
theorem r_Sum {K V S : Nat → Int} {N : Nat} (hT : zTx K V N) (hY : zTy K S N) {Pd : zDn → Prop} {sub : Nat → Nat → zRe} (hsub : zSub N Pd sub) {G : Nat → List mV → mS → Option (Int × mS)} {dep : Int} (hG : zMs K V S N (G 93 [(3, 68), (1, dep)]) sub) : zMs K V S N (B_Mo_readSum G 68 dep) (zCh K 43 45 zbin sub) := by
  constructor
  · intro a p σ hP
    have hB := hP.1.1
    unfold B_Mo_readSum zCh
    refine wpo_bind.mpr (wpo_gk.mpr ⟨zk68 hB ▸ rfl, ?_⟩)
    refine wpo_call (hG.1 a p σ hP) ?_
    intro q ⟨q1, q2⟩
    unfold M_Mo_readSum_3
    have N4 := hT.1
    rcases hsub a p hP.2.2.2.2.1 hP.2.2.2.2.2 with ⟨k1, k2, k3, k4, k5, k6⟩ | ⟨k1, k2, k3⟩
    · rcases q2 with ⟨r1, r2⟩ | ⟨r1, _⟩
      · rw [if_pos r1]
        exact r_SumLoop hT hY hsub hG 401 mN _ _ _ σ q.2 (by rw [mN_eq]; decide) (by omega) (zMp_of hP.1 q1 r2 k3 k5) q1
      · omega
    · rcases q2 with ⟨r1, _⟩ | ⟨r1, r2⟩
      · omega
      · rw [if_neg (by omega), mN_eq]
        have s0 := (hY.1 (sub a p).2.1 k3).2.2
        refine wpo_mono (r_Sumbad q1.2.1 (by omega) 99999) ?_
        intro y hy
        exact ⟨by rw [hy]; exact q1, Or.inr ⟨r1, by rw [hy]; exact r2⟩⟩
  · intro σ hB h
    unfold B_Mo_readSum
    refine wpo_bind.mpr (wpo_gk.mpr ⟨zk68 hB ▸ rfl, ?_⟩)
    refine wpo_call (hG.2 σ hB h) ?_
    intro q hq
    rw [hq]
    unfold M_Mo_readSum_3
    rw [mN_eq]
    exact r_Sumbad hB h 99999
theorem r_Termbad {G : Nat → List mV → mS → Option (Int × mS)} {dep : Int} {σ : mS} (hB : zB σ) (h : σ.1 68 18 ≠ -1) (M : Nat) : wpo (miter (fun s : mS => B_Mo_readTerm_3 G 68 dep s) (M + 1) σ) (fun q => q.2 = σ) := by
  unfold miter
  refine wpo_call (Q := fun z => z = Sum.inr (0, σ)) ?_ (fun z hz => by rw [hz]; exact wpo_some.mpr rfl)
  show wpo (B_Mo_readTerm_3 G 68 dep σ) _
  have t1 := r_takes0 (c := w32 (100 + 42)) hB h
  have t2 := r_takes0 (c := w32 (100 + 47)) hB h
  unfold B_Mo_readTerm_3 M_Mo_sign
  refine wpo_bind.mpr (wpo_some.mpr ?_)
  refine wpo_bind.mpr (wpo_gk.mpr ⟨zk68 hB ▸ rfl, ?_⟩)
  rw [t1]
  refine wpo_bind.mpr (wpo_some.mpr ?_)
  rw [if_pos rfl]
  refine wpo_bind.mpr (wpo_some.mpr ?_)
  refine wpo_bind.mpr (wpo_gk.mpr ⟨zk68 hB ▸ rfl, ?_⟩)
  rw [t2]
  refine wpo_bind.mpr (wpo_some.mpr ?_)
  rw [if_pos rfl]
  exact wpo_some.mpr rfl
set_option maxHeartbeats 4000000 in
theorem r_TermLoop {K V S : Nat → Int} {N : Nat} (hT : zTx K V N) (hY : zTy K S N) {Pd : zDn → Prop} {sub : Nat → Nat → zRe} (hsub : zSub N Pd sub) {G : Nat → List mV → mS → Option (Int × mS)} {dep : Int} (hG : zMs K V S N (G 94 [(3, 68), (1, dep)]) sub) :
    ∀ (n M a p : Nat) (d : zDn) (σ0 σ : mS), n + 1 < M → N < a + n → zMp K V S N a p σ → zFt σ0 σ →
    wpo (miter (fun s : mS => B_Mo_readTerm_3 G 68 dep s) M σ) (zMo S (zLp K 42 47 zbin sub n a p d) σ0) := by
  intro n
  induction n with
  | zero => intro M a p d σ0 σ _ h1 h2; have := h2.2.2.2.2.1; omega
  | succ n ih =>
    intro M a p d σ0 σ hM hn hP hF
    obtain ⟨M, rfl⟩ : ∃ K, M = K + 1 := ⟨M - 1, by omega⟩
    have hP0 := hP
    obtain ⟨h1, h2, h3, h4, h5, h6⟩ := hP
    have hB := h1.1
    have N4 := hT.1
    have ky := (hY.1 a h5)
    have t1 := r_takesS (c := 42) N4 hY hP0 (by decide)
    have t2 := r_takesS (c := 47) N4 hY hP0 (by decide)
    have s1 : w32 (100 + 42) = 100 + 42 := by decide
    have s2 : w32 (100 + 47) = 100 + 47 := by decide
    have n10 : ¬ (1 : Int) = 0 := by decide
    unfold miter
    by_cases c : K a = 42 ∨ K a = 47
    · have ne : a ≠ N := by intro e; rw [e, hT.2.1] at c; omega
      obtain ⟨tf, tp⟩ := zMp_tok hP0 (by omega)
      have hB1 := tp.1.1
      have step : wpo (B_Mo_readTerm_3 G 68 dep σ) (fun z => ∃ q : Int × mS, z = Sum.inl q.2 ∧ zMo S (sub (a + 1) p) (mup σ.1 68 16 ((a + 1 : Nat) : Int), σ.2) q) := by
        have g := hG.1 (a + 1) p _ tp
        unfold B_Mo_readTerm_3 M_Mo_sign
        refine wpo_bind.mpr (wpo_some.mpr ?_)
        refine wpo_bind.mpr (wpo_gk.mpr ⟨zk68 hB ▸ rfl, ?_⟩)
        rw [s1, t1]
        by_cases c1 : K a = 42
        · rw [if_pos c1]
          refine wpo_bind.mpr (wpo_some.mpr ?_)
          rw [if_neg n10]
          refine wpo_bind.mpr (wpo_gk.mpr ⟨zk68 hB1 ▸ rfl, ?_⟩)
          exact wpo_call g (fun q hq => wpo_some.mpr ⟨q, rfl, hq⟩)
        · rw [if_neg c1]
          refine wpo_bind.mpr (wpo_some.mpr ?_)
          rw [if_pos rfl]
          refine wpo_bind.mpr (wpo_some.mpr ?_)
          refine wpo_bind.mpr (wpo_gk.mpr ⟨zk68 hB ▸ rfl, ?_⟩)
          rw [s2, t2, if_pos (c.resolve_left c1)]
          refine wpo_bind.mpr (wpo_some.mpr ?_)
          rw [if_neg n10]
          refine wpo_bind.mpr (wpo_gk.mpr ⟨zk68 hB1 ▸ rfl, ?_⟩)
          exact wpo_call g (fun q hq => wpo_some.mpr ⟨q, rfl, hq⟩)
      refine wpo_call step ?_
      intro z ⟨q, hz, q1, q2⟩
      rw [hz]
      unfold zLp
      rw [if_pos c]
      have fq := hF.trans (tf.trans q1)
      rcases hsub (a + 1) p (by omega) h6 with ⟨k1, k2, k3, k4, k5, k6⟩ | ⟨k1, k2, k3⟩
      · rcases q2 with ⟨r1, r2⟩ | ⟨r1, _⟩
        · rw [if_pos r1]
          exact ih M _ _ _ σ0 q.2 (by omega) (by omega) (zMp_of tp.1 q1 r2 k3 k5) fq
        · omega
      · rcases q2 with ⟨r1, _⟩ | ⟨r1, r2⟩
        · omega
        · rw [if_neg (by omega)]
          obtain ⟨M, rfl⟩ : ∃ K, M = K + 1 := ⟨M - 1, by omega⟩
          have s0 := (hY.1 (sub (a + 1) p).2.1 k3).2.2
          refine wpo_mono (r_Termbad q1.2.1 (by omega) M) ?_
          intro y hy
          exact ⟨by rw [hy]; exact fq, Or.inr ⟨r1, by rw [hy]; exact r2⟩⟩
    · have c1 : ¬ K a = 42 := fun e => c (Or.inl e)
      have c2 : ¬ K a = 47 := fun e => c (Or.inr e)
      rw [if_neg c1] at t1
      rw [if_neg c2] at t2
      refine wpo_call (Q := fun z => z = Sum.inr (0, σ)) ?_ ?_
      · show wpo (B_Mo_readTerm_3 G 68 dep σ) _
        unfold B_Mo_readTerm_3 M_Mo_sign
        refine wpo_bind.mpr (wpo_some.mpr ?_)
        refine wpo_bind.mpr (wpo_gk.mpr ⟨zk68 hB ▸ rfl, ?_⟩)
        rw [s1, t1]
        refine wpo_bind.mpr (wpo_some.mpr ?_)
        rw [if_pos rfl]
        refine wpo_bind.mpr (wpo_some.mpr ?_)
        refine wpo_bind.mpr (wpo_gk.mpr ⟨zk68 hB ▸ rfl, ?_⟩)
        rw [s2, t2]
        refine wpo_bind.mpr (wpo_some.mpr ?_)
        rw [if_pos rfl]
        exact wpo_some.mpr rfl
      · intro z hz
        rw [hz]
        unfold zLp
        rw [if_neg c]
        exact wpo_some.mpr ⟨hF, Or.inl ⟨rfl, h2, h3, h4⟩⟩
set_option maxHeartbeats 4000000 in
theorem r_Term {K V S : Nat → Int} {N : Nat} (hT : zTx K V N) (hY : zTy K S N) {Pd : zDn → Prop} {sub : Nat → Nat → zRe} (hsub : zSub N Pd sub) {G : Nat → List mV → mS → Option (Int × mS)} {dep : Int} (hG : zMs K V S N (G 94 [(3, 68), (1, dep)]) sub) : zMs K V S N (B_Mo_readTerm G 68 dep) (zCh K 42 47 zbin sub) := by
  constructor
  · intro a p σ hP
    have hB := hP.1.1
    unfold B_Mo_readTerm zCh
    refine wpo_bind.mpr (wpo_gk.mpr ⟨zk68 hB ▸ rfl, ?_⟩)
    refine wpo_call (hG.1 a p σ hP) ?_
    intro q ⟨q1, q2⟩
    unfold M_Mo_readTerm_3
    have N4 := hT.1
    rcases hsub a p hP.2.2.2.2.1 hP.2.2.2.2.2 with ⟨k1, k2, k3, k4, k5, k6⟩ | ⟨k1, k2, k3⟩
    · rcases q2 with ⟨r1, r2⟩ | ⟨r1, _⟩
      · rw [if_pos r1]
        exact r_TermLoop hT hY hsub hG 401 mN _ _ _ σ q.2 (by rw [mN_eq]; decide) (by omega) (zMp_of hP.1 q1 r2 k3 k5) q1
      · omega
    · rcases q2 with ⟨r1, _⟩ | ⟨r1, r2⟩
      · omega
      · rw [if_neg (by omega), mN_eq]
        have s0 := (hY.1 (sub a p).2.1 k3).2.2
        refine wpo_mono (r_Termbad q1.2.1 (by omega) 99999) ?_
        intro y hy
        exact ⟨by rw [hy]; exact q1, Or.inr ⟨r1, by rw [hy]; exact r2⟩⟩
  · intro σ hB h
    unfold B_Mo_readTerm
    refine wpo_bind.mpr (wpo_gk.mpr ⟨zk68 hB ▸ rfl, ?_⟩)
    refine wpo_call (hG.2 σ hB h) ?_
    intro q hq
    rw [hq]
    unfold M_Mo_readTerm_3
    rw [mN_eq]
    exact r_Termbad hB h 99999
theorem r_Testbad {G : Nat → List mV → mS → Option (Int × mS)} {dep : Int} {σ : mS} (hB : zB σ) (h : σ.1 68 18 ≠ -1) (M : Nat) : wpo (miter (fun s : mS => B_Mo_readTest_3 G 68 dep s) (M + 1) σ) (fun q => q.2 = σ) := by
  unfold miter
  refine wpo_call (Q := fun z => z = Sum.inr (0, σ)) ?_ (fun z hz => by rw [hz]; exact wpo_some.mpr rfl)
  show wpo (B_Mo_readTest_3 G 68 dep σ) _
  have t1 := r_takes0 (c := 3) hB h
  unfold B_Mo_readTest_3
  refine wpo_bind.mpr (wpo_gk.mpr ⟨zk68 hB ▸ rfl, ?_⟩)
  rw [t1]
  refine wpo_bind.mpr (wpo_some.mpr ?_)
  rw [if_pos rfl]
  exact wpo_some.mpr rfl
set_option maxHeartbeats 4000000 in
theorem r_TestLoop {K V S : Nat → Int} {N : Nat} (hT : zTx K V N) (hY : zTy K S N) {Pd : zDn → Prop} {sub : Nat → Nat → zRe} (hsub : zSub N Pd sub) {G : Nat → List mV → mS → Option (Int × mS)} {dep : Int} (hG : zMs K V S N (G 90 [(3, 68), (1, dep)]) sub) :
    ∀ (n M a p : Nat) (d : zDn) (σ0 σ : mS), n + 1 < M → N < a + n → zMp K V S N a p σ → zFt σ0 σ →
    wpo (miter (fun s : mS => B_Mo_readTest_3 G 68 dep s) M σ) (zMo S (zLp K 261 261 zcon sub n a p d) σ0) := by
  intro n
  induction n with
  | zero => intro M a p d σ0 σ _ h1 h2; have := h2.2.2.2.2.1; omega
  | succ n ih =>
    intro M a p d σ0 σ hM hn hP hF
    obtain ⟨M, rfl⟩ : ∃ K, M = K + 1 := ⟨M - 1, by omega⟩
    have hP0 := hP
    obtain ⟨h1, h2, h3, h4, h5, h6⟩ := hP
    have hB := h1.1
    have N4 := hT.1
    have ky := (hY.1 a h5)
    have t1 := r_takesW (c := 3) (d := 261) N4 hY hP0 (by decide) (by decide)
    have n10 : ¬ (1 : Int) = 0 := by decide
    unfold miter
    by_cases c : K a = 261 ∨ K a = 261
    · have ne : a ≠ N := by intro e; rw [e, hT.2.1] at c; omega
      obtain ⟨tf, tp⟩ := zMp_tok hP0 (by omega)
      have hB1 := tp.1.1
      have step : wpo (B_Mo_readTest_3 G 68 dep σ) (fun z => ∃ q : Int × mS, z = Sum.inl q.2 ∧ zMo S (sub (a + 1) p) (mup σ.1 68 16 ((a + 1 : Nat) : Int), σ.2) q) := by
        have g := hG.1 (a + 1) p _ tp
        unfold B_Mo_readTest_3
        refine wpo_bind.mpr (wpo_gk.mpr ⟨zk68 hB ▸ rfl, ?_⟩)
        rw [t1, if_pos (c.elim id id)]
        refine wpo_bind.mpr (wpo_some.mpr ?_)
        rw [if_neg n10]
        refine wpo_bind.mpr (wpo_gk.mpr ⟨zk68 hB1 ▸ rfl, ?_⟩)
        exact wpo_call g (fun q hq => wpo_some.mpr ⟨q, rfl, hq⟩)
      refine wpo_call step ?_
      intro z ⟨q, hz, q1, q2⟩
      rw [hz]
      unfold zLp
      rw [if_pos c]
      have fq := hF.trans (tf.trans q1)
      rcases hsub (a + 1) p (by omega) h6 with ⟨k1, k2, k3, k4, k5, k6⟩ | ⟨k1, k2, k3⟩
      · rcases q2 with ⟨r1, r2⟩ | ⟨r1, _⟩
        · rw [if_pos r1]
          exact ih M _ _ _ σ0 q.2 (by omega) (by omega) (zMp_of tp.1 q1 r2 k3 k5) fq
        · omega
      · rcases q2 with ⟨r1, _⟩ | ⟨r1, r2⟩
        · omega
        · rw [if_neg (by omega)]
          obtain ⟨M, rfl⟩ : ∃ K, M = K + 1 := ⟨M - 1, by omega⟩
          have s0 := (hY.1 (sub (a + 1) p).2.1 k3).2.2
          refine wpo_mono (r_Testbad q1.2.1 (by omega) M) ?_
          intro y hy
          exact ⟨by rw [hy]; exact fq, Or.inr ⟨r1, by rw [hy]; exact r2⟩⟩
    · have c1 : ¬ K a = 261 := fun e => c (Or.inl e)
      rw [if_neg c1] at t1
      refine wpo_call (Q := fun z => z = Sum.inr (0, σ)) ?_ ?_
      · show wpo (B_Mo_readTest_3 G 68 dep σ) _
        unfold B_Mo_readTest_3
        refine wpo_bind.mpr (wpo_gk.mpr ⟨zk68 hB ▸ rfl, ?_⟩)
        rw [t1]
        refine wpo_bind.mpr (wpo_some.mpr ?_)
        rw [if_pos rfl]
        exact wpo_some.mpr rfl
      · intro z hz
        rw [hz]
        unfold zLp
        rw [if_neg c]
        exact wpo_some.mpr ⟨hF, Or.inl ⟨rfl, h2, h3, h4⟩⟩
set_option maxHeartbeats 4000000 in
theorem r_Test {K V S : Nat → Int} {N : Nat} (hT : zTx K V N) (hY : zTy K S N) {Pd : zDn → Prop} {sub : Nat → Nat → zRe} (hsub : zSub N Pd sub) {G : Nat → List mV → mS → Option (Int × mS)} {dep : Int} (hG : zMs K V S N (G 90 [(3, 68), (1, dep)]) sub) : zMs K V S N (B_Mo_readTest G 68 dep) (zCh K 261 261 zcon sub) := by
  constructor
  · intro a p σ hP
    have hB := hP.1.1
    unfold B_Mo_readTest zCh
    refine wpo_bind.mpr (wpo_gk.mpr ⟨zk68 hB ▸ rfl, ?_⟩)
    refine wpo_call (hG.1 a p σ hP) ?_
    intro q ⟨q1, q2⟩
    unfold M_Mo_readTest_3
    have N4 := hT.1
    rcases hsub a p hP.2.2.2.2.1 hP.2.2.2.2.2 with ⟨k1, k2, k3, k4, k5, k6⟩ | ⟨k1, k2, k3⟩
    · rcases q2 with ⟨r1, r2⟩ | ⟨r1, _⟩
      · rw [if_pos r1]
        exact r_TestLoop hT hY hsub hG 401 mN _ _ _ σ q.2 (by rw [mN_eq]; decide) (by omega) (zMp_of hP.1 q1 r2 k3 k5) q1
      · omega
    · rcases q2 with ⟨r1, _⟩ | ⟨r1, r2⟩
      · omega
      · rw [if_neg (by omega), mN_eq]
        have s0 := (hY.1 (sub a p).2.1 k3).2.2
        refine wpo_mono (r_Testbad q1.2.1 (by omega) 99999) ?_
        intro y hy
        exact ⟨by rw [hy]; exact q1, Or.inr ⟨r1, by rw [hy]; exact r2⟩⟩
  · intro σ hB h
    unfold B_Mo_readTest
    refine wpo_bind.mpr (wpo_gk.mpr ⟨zk68 hB ▸ rfl, ?_⟩)
    refine wpo_call (hG.2 σ hB h) ?_
    intro q hq
    rw [hq]
    unfold M_Mo_readTest_3
    rw [mN_eq]
    exact r_Testbad hB h 99999
theorem r_Bothbad {G : Nat → List mV → mS → Option (Int × mS)} {dep : Int} {σ : mS} (hB : zB σ) (h : σ.1 68 18 ≠ -1) (M : Nat) : wpo (miter (fun s : mS => B_Mo_readBoth_3 G 68 dep s) (M + 1) σ) (fun q => q.2 = σ) := by
  unfold miter
  refine wpo_call (Q := fun z => z = Sum.inr (0, σ)) ?_ (fun z hz => by rw [hz]; exact wpo_some.mpr rfl)
  show wpo (B_Mo_readBoth_3 G 68 dep σ) _
  have t1 := r_takes0 (c := 4) hB h
  unfold B_Mo_readBoth_3
  refine wpo_bind.mpr (wpo_gk.mpr ⟨zk68 hB ▸ rfl, ?_⟩)
  rw [t1]
  refine wpo_bind.mpr (wpo_some.mpr ?_)
  rw [if_pos rfl]
  exact wpo_some.mpr rfl
set_option maxHeartbeats 4000000 in
theorem r_BothLoop {K V S : Nat → Int} {N : Nat} (hT : zTx K V N) (hY : zTy K S N) {Pd : zDn → Prop} {sub : Nat → Nat → zRe} (hsub : zSub N Pd sub) {G : Nat → List mV → mS → Option (Int × mS)} {dep : Int} (hG : zMs K V S N (G 91 [(3, 68), (1, dep)]) sub) :
    ∀ (n M a p : Nat) (d : zDn) (σ0 σ : mS), n + 1 < M → N < a + n → zMp K V S N a p σ → zFt σ0 σ →
    wpo (miter (fun s : mS => B_Mo_readBoth_3 G 68 dep s) M σ) (zMo S (zLp K 262 262 zcon sub n a p d) σ0) := by
  intro n
  induction n with
  | zero => intro M a p d σ0 σ _ h1 h2; have := h2.2.2.2.2.1; omega
  | succ n ih =>
    intro M a p d σ0 σ hM hn hP hF
    obtain ⟨M, rfl⟩ : ∃ K, M = K + 1 := ⟨M - 1, by omega⟩
    have hP0 := hP
    obtain ⟨h1, h2, h3, h4, h5, h6⟩ := hP
    have hB := h1.1
    have N4 := hT.1
    have ky := (hY.1 a h5)
    have t1 := r_takesW (c := 4) (d := 262) N4 hY hP0 (by decide) (by decide)
    have n10 : ¬ (1 : Int) = 0 := by decide
    unfold miter
    by_cases c : K a = 262 ∨ K a = 262
    · have ne : a ≠ N := by intro e; rw [e, hT.2.1] at c; omega
      obtain ⟨tf, tp⟩ := zMp_tok hP0 (by omega)
      have hB1 := tp.1.1
      have step : wpo (B_Mo_readBoth_3 G 68 dep σ) (fun z => ∃ q : Int × mS, z = Sum.inl q.2 ∧ zMo S (sub (a + 1) p) (mup σ.1 68 16 ((a + 1 : Nat) : Int), σ.2) q) := by
        have g := hG.1 (a + 1) p _ tp
        unfold B_Mo_readBoth_3
        refine wpo_bind.mpr (wpo_gk.mpr ⟨zk68 hB ▸ rfl, ?_⟩)
        rw [t1, if_pos (c.elim id id)]
        refine wpo_bind.mpr (wpo_some.mpr ?_)
        rw [if_neg n10]
        refine wpo_bind.mpr (wpo_gk.mpr ⟨zk68 hB1 ▸ rfl, ?_⟩)
        exact wpo_call g (fun q hq => wpo_some.mpr ⟨q, rfl, hq⟩)
      refine wpo_call step ?_
      intro z ⟨q, hz, q1, q2⟩
      rw [hz]
      unfold zLp
      rw [if_pos c]
      have fq := hF.trans (tf.trans q1)
      rcases hsub (a + 1) p (by omega) h6 with ⟨k1, k2, k3, k4, k5, k6⟩ | ⟨k1, k2, k3⟩
      · rcases q2 with ⟨r1, r2⟩ | ⟨r1, _⟩
        · rw [if_pos r1]
          exact ih M _ _ _ σ0 q.2 (by omega) (by omega) (zMp_of tp.1 q1 r2 k3 k5) fq
        · omega
      · rcases q2 with ⟨r1, _⟩ | ⟨r1, r2⟩
        · omega
        · rw [if_neg (by omega)]
          obtain ⟨M, rfl⟩ : ∃ K, M = K + 1 := ⟨M - 1, by omega⟩
          have s0 := (hY.1 (sub (a + 1) p).2.1 k3).2.2
          refine wpo_mono (r_Bothbad q1.2.1 (by omega) M) ?_
          intro y hy
          exact ⟨by rw [hy]; exact fq, Or.inr ⟨r1, by rw [hy]; exact r2⟩⟩
    · have c1 : ¬ K a = 262 := fun e => c (Or.inl e)
      rw [if_neg c1] at t1
      refine wpo_call (Q := fun z => z = Sum.inr (0, σ)) ?_ ?_
      · show wpo (B_Mo_readBoth_3 G 68 dep σ) _
        unfold B_Mo_readBoth_3
        refine wpo_bind.mpr (wpo_gk.mpr ⟨zk68 hB ▸ rfl, ?_⟩)
        rw [t1]
        refine wpo_bind.mpr (wpo_some.mpr ?_)
        rw [if_pos rfl]
        exact wpo_some.mpr rfl
      · intro z hz
        rw [hz]
        unfold zLp
        rw [if_neg c]
        exact wpo_some.mpr ⟨hF, Or.inl ⟨rfl, h2, h3, h4⟩⟩
set_option maxHeartbeats 4000000 in
theorem r_Both {K V S : Nat → Int} {N : Nat} (hT : zTx K V N) (hY : zTy K S N) {Pd : zDn → Prop} {sub : Nat → Nat → zRe} (hsub : zSub N Pd sub) {G : Nat → List mV → mS → Option (Int × mS)} {dep : Int} (hG : zMs K V S N (G 91 [(3, 68), (1, dep)]) sub) : zMs K V S N (B_Mo_readBoth G 68 dep) (zCh K 262 262 zcon sub) := by
  constructor
  · intro a p σ hP
    have hB := hP.1.1
    unfold B_Mo_readBoth zCh
    refine wpo_bind.mpr (wpo_gk.mpr ⟨zk68 hB ▸ rfl, ?_⟩)
    refine wpo_call (hG.1 a p σ hP) ?_
    intro q ⟨q1, q2⟩
    unfold M_Mo_readBoth_3
    have N4 := hT.1
    rcases hsub a p hP.2.2.2.2.1 hP.2.2.2.2.2 with ⟨k1, k2, k3, k4, k5, k6⟩ | ⟨k1, k2, k3⟩
    · rcases q2 with ⟨r1, r2⟩ | ⟨r1, _⟩
      · rw [if_pos r1]
        exact r_BothLoop hT hY hsub hG 401 mN _ _ _ σ q.2 (by rw [mN_eq]; decide) (by omega) (zMp_of hP.1 q1 r2 k3 k5) q1
      · omega
    · rcases q2 with ⟨r1, _⟩ | ⟨r1, r2⟩
      · omega
      · rw [if_neg (by omega), mN_eq]
        have s0 := (hY.1 (sub a p).2.1 k3).2.2
        refine wpo_mono (r_Bothbad q1.2.1 (by omega) 99999) ?_
        intro y hy
        exact ⟨by rw [hy]; exact q1, Or.inr ⟨r1, by rw [hy]; exact r2⟩⟩
  · intro σ hB h
    unfold B_Mo_readBoth
    refine wpo_bind.mpr (wpo_gk.mpr ⟨zk68 hB ▸ rfl, ?_⟩)
    refine wpo_call (hG.2 σ hB h) ?_
    intro q hq
    rw [hq]
    unfold M_Mo_readBoth_3
    rw [mN_eq]
    exact r_Bothbad hB h 99999
