/-! TESTS as the reference tells them -/
def zRt (live br0 : Int) (d : zDn) (w : Int → Int) (v br : Int) : Prop := (br = 0 ∨ br = 1) ∧ (v = 0 ∨ v = 1) ∧ ((live = 1 ∧ br0 = 0) → (∀ x, d w = some x → v = x ∧ br = 0) ∧ (d w = none → br = 1)) ∧ (¬ (live = 1 ∧ br0 = 0) → br = br0)
def zEt (N : Nat) (A : Int → Int) (t : Int) (w : Int → Int) (live : Int) (F : mS → Option (Int × mS)) (sub : Nat → Nat → zRe) : Prop := ∀ (a p : Nat) (br : Int) (σ : mS), (sub a p).1 = 1 → a ≤ N → p ≤ 50 → zEv A N t w σ → zAe t a br σ → (br = 0 ∨ br = 1) → wpo (F σ) (fun q => zFe σ q.2 ∧ ∃ br', zAe t (sub a p).2.1 br' q.2 ∧ zRt live br (sub a p).2.2.2 w q.1 br')
theorem zcon_none {k : Int} {d e : zDn} {w : Int → Int} (h : d w = none) : zcon k d e w = none := by unfold zcon; rw [h]; rfl
theorem zcon_some {k x : Int} {d e : zDn} {w : Int → Int} (h : d w = some x) : zcon k d e w = if (k = 261 ∧ x = 1) ∨ (k ≠ 261 ∧ x ≠ 1) then some x else e w := by unfold zcon; rw [h]; rfl
/-- one more of a chain of tests; live': whether the next is asked -/
theorem v_con {k live live' br0 br v y br2 u : Int} {d e : zDn} {w : Int → Int} (hk : k = 261 ∨ k = 262) (h1 : zRt live br0 d w v br) (h2 : zRt live' br e w y br2)
    (hl' : live' = if live = 1 ∧ ((k = 261 ∧ v = 0) ∨ (k = 262 ∧ v = 1)) then 1 else 0) (hu : u = if k = 261 then (if v = 0 then y else 1) else (if v = 0 then 0 else y)) : zRt live br0 (zcon k d e) w u br2 := by
  obtain ⟨a1, a2, a3, a4⟩ := h1
  obtain ⟨b1, b2, b3, b4⟩ := h2
  refine ⟨b1, ?_, ?_, ?_⟩
  · rw [hu]; split <;> split <;> omega
  · intro act
    obtain ⟨p1, p2⟩ := a3 act
    cases ed : d w with
    | none =>
      have eb := p2 ed
      have := b4 (by omega)
      rw [zcon_none ed]
      exact ⟨fun x hx => (by cases hx), fun _ => by omega⟩
    | some x =>
      obtain ⟨q1, q2⟩ := p1 x ed
      rw [zcon_some ed]
      by_cases c : (k = 261 ∧ x = 1) ∨ (k ≠ 261 ∧ x ≠ 1)
      · rw [if_pos c]
        have l0 : live' = 0 := by rw [hl', if_neg (by omega)]
        have := b4 (by omega)
        refine ⟨fun z hz => ?_, fun h => by cases h⟩
        cases hz
        refine ⟨?_, by omega⟩
        rw [hu]
        rcases hk with k1 | k1
        · rw [if_pos k1, if_neg (by omega)]; omega
        · rw [if_neg (by omega), if_pos (by omega)]; omega
      · rw [if_neg c]
        have l1 : live' = 1 := by rw [hl', if_pos (by omega)]
        obtain ⟨p3, p4⟩ := b3 ⟨l1, q2⟩
        refine ⟨fun z hz => ?_, p4⟩
        obtain ⟨q3, q4⟩ := p3 z hz
        refine ⟨?_, q4⟩
        rw [hu]
        rcases hk with k1 | k1
        · rw [if_pos k1, if_pos (by omega)]; exact q3
        · rw [if_neg (by omega), if_neg (by omega)]; exact q3
  · intro na
    have e1 := a4 na
    have e2 : br2 = br := by
      refine b4 (fun h => na ⟨?_, by omega⟩)
      by_cases c : live = 1
      · exact c
      · rw [hl', if_neg (fun x => c x.1)] at h; omega
    omega
set_option maxHeartbeats 4000000 in
theorem v_TestLoop {K V : Nat → Int} {N : Nat} (hT : zTx K V N) {A : Int → Int} {t : Int} (hA : zAk K V N A t) (hK : ∀ j : Nat, j ≤ N → 0 ≤ K j ∧ K j < 270) {w : Int → Int} {live : Int} (hl : live = 0 ∨ live = 1) {Pd : zDn → Prop} {sub : Nat → Nat → zRe} (hsub : zSub N Pd sub) {G : Nat → List mV → mS → Option (Int × mS)} (hG : ∀ l : Int, l = 0 ∨ l = 1 → zEt N A t w l (G 106 [(3, 68), (1, l)]) sub) :
    ∀ (n M a p : Nat) (d : zDn) (v br br0 : Int) (σ0 σ : mS), n < M → N < a + n → a ≤ N → p ≤ 50 → zEv A N t w σ → zAe t a br σ → zFe σ0 σ → zRt live br0 d w v br → (zLp K 261 261 zcon sub n a p d).1 = 1 →
    wpo (miter (fun s : Int × mS => B_Mo_testOf_4 G 68 live s.1 s.2) M (v, σ)) (fun q => zFe σ0 q.2 ∧ ∃ br', zAe t (zLp K 261 261 zcon sub n a p d).2.1 br' q.2 ∧ zRt live br0 (zLp K 261 261 zcon sub n a p d).2.2.2 w q.1 br') := by
  intro n
  induction n with
  | zero => intro M a p d v br br0 σ0 σ _ h1 h2; omega
  | succ n ih =>
    intro M a p d v br br0 σ0 σ hM hn aN p50 hE hs hF hR hok
    obtain ⟨M, rfl⟩ : ∃ K, M = K + 1 := ⟨M - 1, by omega⟩
    have hB := hE.1
    have ky := hK a aN
    have pa := v_passes (c := 3) hT hA hE aN hs
    have pw := phi_word (k := K a) (j := 3) ky (by decide)
    have n10 : ¬ (1 : Int) = 0 := by decide
    have vb := hR.2.1
    unfold zLp at hok ⊢
    unfold miter
    by_cases c : K a = 261 ∨ K a = 261
    · rw [if_pos c] at hok ⊢
      have c' : K a = 261 := c.elim id id
      rw [if_pos (pw.mpr (by omega))] at pa
      have ne : a ≠ N := by intro e; rw [e, hT.2.1] at c; omega
      rcases hsub (a + 1) p (by omega) p50 with ⟨k1, k2, k3, k4, k5, k6⟩ | ⟨k1, k2, k3⟩
      · rw [if_pos k1] at hok ⊢
        obtain ⟨tf, te, ta⟩ := v_tok (b := a + 1) hE hs
        have hB1 := te.1
        have brb := hR.1
        have step : wpo (B_Mo_testOf_4 G 68 live v σ) (fun z => ∃ q : Int × mS, z = Sum.inl q ∧ zFe σ q.2 ∧ ∃ br', zAe t (sub (a + 1) p).2.1 br' q.2 ∧ zRt live br0 (zcon (K a) d (sub (a + 1) p).2.2.2) w q.1 br') := by
          generalize hQ : (fun z : (Int × mS) ⊕ (Int × mS) => ∃ q : Int × mS, z = Sum.inl q ∧ zFe σ q.2 ∧ ∃ br', zAe t (sub (a + 1) p).2.1 br' q.2 ∧ zRt live br0 (zcon (K a) d (sub (a + 1) p).2.2.2) w q.1 br') = Q
          have m16 : ∀ l : Int, l = 0 ∨ l = 1 → l = (if live = 1 ∧ ((K a = 261 ∧ v = 0) ∨ (K a = 262 ∧ v = 1)) then 1 else 0) → wpo (M_Mo_testOf_16 G 68 live v l 68 (mup σ.1 68 19 (400 * t + ((a + 1 : Nat) : Int)), σ.2)) Q := by
            intro l hlb hl'
            have g := hG l hlb (a + 1) p br _ k1 (by omega) p50 te ta brb
            unfold M_Mo_testOf_16
            refine wpo_bind.mpr (wpo_gk.mpr ⟨zk68 hB1 ▸ rfl, ?_⟩)
            refine wpo_call g ?_
            intro q ⟨q1, br', q2, q3⟩
            have qb := q3.2.1
            have fin : ∀ u : Int, u = (if K a = 261 then (if v = 0 then q.1 else 1) else (if v = 0 then 0 else q.1)) → Q (Sum.inl (u, q.2)) := by
              intro u hu
              rw [← hQ]
              exact ⟨_, rfl, tf.trans q1, br', q2, v_con (by omega) hR q3 hl' hu⟩
            by_cases cv : v = 0
            · rw [if_pos cv]
              by_cases cq : q.1 = 0
              · rw [if_pos cq]
                exact wpo_some.mpr (fin 0 (by rw [if_pos c', if_pos cv]; omega))
              · rw [if_neg cq]
                exact wpo_some.mpr (fin 1 (by rw [if_pos c', if_pos cv]; omega))
            · rw [if_neg cv]
              exact wpo_some.mpr (fin 1 (by rw [if_pos c', if_neg cv]))
          unfold B_Mo_testOf_4
          refine wpo_bind.mpr (wpo_gk.mpr ⟨zk68 hB ▸ rfl, ?_⟩)
          rw [pa]
          refine wpo_bind.mpr (wpo_some.mpr ?_)
          rw [if_neg n10]
          rcases hl with l0 | l1
          · rw [if_pos l0]
            unfold M_Mo_testOf_15
            exact m16 0 (Or.inl rfl) (by rw [if_neg (by omega)])
          · rw [if_neg (by omega)]
            by_cases cv : v = 0
            · rw [if_pos cv]
              exact m16 1 (Or.inr rfl) (by rw [if_pos (by omega)])
            · rw [if_neg cv]
              unfold M_Mo_testOf_15
              exact m16 0 (Or.inl rfl) (by rw [if_neg (by omega)])
        refine wpo_call step ?_
        intro z ⟨q, hz, q1, br', q2, q3⟩
        rw [hz]
        exact ih M _ _ _ q.1 br' br0 σ0 q.2 (by omega) (by omega) k3 k5 (hE.fe q1) q2 (hF.trans q1) q3 hok
      · rw [if_neg (by omega)] at hok
        omega
    · have c1 : ¬ K a = 261 := fun e => c (Or.inl e)
      rw [if_neg c]
      rw [if_neg (fun e => c1 (by have := pw.mp e; omega))] at pa
      refine wpo_call (Q := fun z => z = Sum.inr (v, σ)) ?_ ?_
      · show wpo (B_Mo_testOf_4 G 68 live v σ) _
        unfold B_Mo_testOf_4
        refine wpo_bind.mpr (wpo_gk.mpr ⟨zk68 hB ▸ rfl, ?_⟩)
        rw [pa]
        refine wpo_bind.mpr (wpo_some.mpr ?_)
        rw [if_pos rfl, if_pos vb]
        exact wpo_some.mpr rfl
      · intro z hz
        rw [hz]
        exact wpo_some.mpr ⟨hF, br, hs, hR⟩
set_option maxHeartbeats 4000000 in
theorem v_Test {K V : Nat → Int} {N : Nat} (hT : zTx K V N) {A : Int → Int} {t : Int} (hA : zAk K V N A t) (hK : ∀ j : Nat, j ≤ N → 0 ≤ K j ∧ K j < 270) {w : Int → Int} {Pd : zDn → Prop} {sub : Nat → Nat → zRe} (hsub : zSub N Pd sub) {G : Nat → List mV → mS → Option (Int × mS)} (hG : ∀ l : Int, l = 0 ∨ l = 1 → zEt N A t w l (G 106 [(3, 68), (1, l)]) sub) : ∀ live : Int, live = 0 ∨ live = 1 → zEt N A t w live (B_Mo_testOf G 68 live) (zCh K 261 261 zcon sub) := by
  intro live hl a p br σ hok aN p50 hE hs brb
  have hB := hE.1
  unfold zCh at hok ⊢
  rcases hsub a p aN p50 with ⟨k1, k2, k3, k4, k5, k6⟩ | ⟨k1, k2, k3⟩
  · rw [if_pos k1] at hok ⊢
    unfold B_Mo_testOf
    refine wpo_bind.mpr (wpo_gk.mpr ⟨zk68 hB ▸ rfl, ?_⟩)
    refine wpo_call (hG live hl a p br σ k1 aN p50 hE hs brb) ?_
    intro q ⟨q1, br', q2, q3⟩
    unfold M_Mo_testOf_4
    have N4 := hT.1
    exact v_TestLoop hT hA hK hl hsub hG 401 mN _ _ _ q.1 br' br σ q.2 (by rw [mN_eq]; decide) (by omega) k3 k5 (hE.fe q1) q2 q1 q3 hok
  · rw [if_neg (by omega)] at hok
    omega
set_option maxHeartbeats 4000000 in
theorem v_BothLoop {K V : Nat → Int} {N : Nat} (hT : zTx K V N) {A : Int → Int} {t : Int} (hA : zAk K V N A t) (hK : ∀ j : Nat, j ≤ N → 0 ≤ K j ∧ K j < 270) {w : Int → Int} {live : Int} (hl : live = 0 ∨ live = 1) {Pd : zDn → Prop} {sub : Nat → Nat → zRe} (hsub : zSub N Pd sub) {G : Nat → List mV → mS → Option (Int × mS)} (hG : ∀ l : Int, l = 0 ∨ l = 1 → zEt N A t w l (G 107 [(3, 68), (1, l)]) sub) :
    ∀ (n M a p : Nat) (d : zDn) (v br br0 : Int) (σ0 σ : mS), n < M → N < a + n → a ≤ N → p ≤ 50 → zEv A N t w σ → zAe t a br σ → zFe σ0 σ → zRt live br0 d w v br → (zLp K 262 262 zcon sub n a p d).1 = 1 →
    wpo (miter (fun s : Int × mS => B_Mo_bothOf_4 G 68 live s.1 s.2) M (v, σ)) (fun q => zFe σ0 q.2 ∧ ∃ br', zAe t (zLp K 262 262 zcon sub n a p d).2.1 br' q.2 ∧ zRt live br0 (zLp K 262 262 zcon sub n a p d).2.2.2 w q.1 br') := by
  intro n
  induction n with
  | zero => intro M a p d v br br0 σ0 σ _ h1 h2; omega
  | succ n ih =>
    intro M a p d v br br0 σ0 σ hM hn aN p50 hE hs hF hR hok
    obtain ⟨M, rfl⟩ : ∃ K, M = K + 1 := ⟨M - 1, by omega⟩
    have hB := hE.1
    have ky := hK a aN
    have pa := v_passes (c := 4) hT hA hE aN hs
    have pw := phi_word (k := K a) (j := 4) ky (by decide)
    have n10 : ¬ (1 : Int) = 0 := by decide
    have vb := hR.2.1
    unfold zLp at hok ⊢
    unfold miter
    by_cases c : K a = 262 ∨ K a = 262
    · rw [if_pos c] at hok ⊢
      have c' : K a = 262 := c.elim id id
      rw [if_pos (pw.mpr (by omega))] at pa
      have ne : a ≠ N := by intro e; rw [e, hT.2.1] at c; omega
      rcases hsub (a + 1) p (by omega) p50 with ⟨k1, k2, k3, k4, k5, k6⟩ | ⟨k1, k2, k3⟩
      · rw [if_pos k1] at hok ⊢
        obtain ⟨tf, te, ta⟩ := v_tok (b := a + 1) hE hs
        have hB1 := te.1
        have brb := hR.1
        have step : wpo (B_Mo_bothOf_4 G 68 live v σ) (fun z => ∃ q : Int × mS, z = Sum.inl q ∧ zFe σ q.2 ∧ ∃ br', zAe t (sub (a + 1) p).2.1 br' q.2 ∧ zRt live br0 (zcon (K a) d (sub (a + 1) p).2.2.2) w q.1 br') := by
          generalize hQ : (fun z : (Int × mS) ⊕ (Int × mS) => ∃ q : Int × mS, z = Sum.inl q ∧ zFe σ q.2 ∧ ∃ br', zAe t (sub (a + 1) p).2.1 br' q.2 ∧ zRt live br0 (zcon (K a) d (sub (a + 1) p).2.2.2) w q.1 br') = Q
          have m16 : ∀ l : Int, l = 0 ∨ l = 1 → l = (if live = 1 ∧ ((K a = 261 ∧ v = 0) ∨ (K a = 262 ∧ v = 1)) then 1 else 0) → wpo (M_Mo_bothOf_16 G 68 live v l 68 (mup σ.1 68 19 (400 * t + ((a + 1 : Nat) : Int)), σ.2)) Q := by
            intro l hlb hl'
            have g := hG l hlb (a + 1) p br _ k1 (by omega) p50 te ta brb
            unfold M_Mo_bothOf_16
            refine wpo_bind.mpr (wpo_gk.mpr ⟨zk68 hB1 ▸ rfl, ?_⟩)
            refine wpo_call g ?_
            intro q ⟨q1, br', q2, q3⟩
            have qb := q3.2.1
            have fin : ∀ u : Int, u = (if K a = 261 then (if v = 0 then q.1 else 1) else (if v = 0 then 0 else q.1)) → Q (Sum.inl (u, q.2)) := by
              intro u hu
              rw [← hQ]
              exact ⟨_, rfl, tf.trans q1, br', q2, v_con (by omega) hR q3 hl' hu⟩
            have n61 : ¬ K a = 261 := by omega
            by_cases cv : v = 0
            · rw [if_pos cv]
              exact wpo_some.mpr (fin 0 (by rw [if_neg n61, if_pos cv]))
            · rw [if_neg cv]
              by_cases cq : q.1 = 0
              · rw [if_pos cq]
                exact wpo_some.mpr (fin 0 (by rw [if_neg n61, if_neg cv]; omega))
              · rw [if_neg cq]
                exact wpo_some.mpr (fin 1 (by rw [if_neg n61, if_neg cv]; omega))
          unfold B_Mo_bothOf_4
          refine wpo_bind.mpr (wpo_gk.mpr ⟨zk68 hB ▸ rfl, ?_⟩)
          rw [pa]
          refine wpo_bind.mpr (wpo_some.mpr ?_)
          rw [if_neg n10]
          rcases hl with l0 | l1
          · rw [if_pos l0]
            unfold M_Mo_bothOf_15
            exact m16 0 (Or.inl rfl) (by rw [if_neg (by omega)])
          · rw [if_neg (by omega)]
            by_cases cv : v = 0
            · rw [if_pos cv]
              unfold M_Mo_bothOf_15
              exact m16 0 (Or.inl rfl) (by rw [if_neg (by omega)])
            · rw [if_neg cv]
              exact m16 1 (Or.inr rfl) (by rw [if_pos (by omega)])
        refine wpo_call step ?_
        intro z ⟨q, hz, q1, br', q2, q3⟩
        rw [hz]
        exact ih M _ _ _ q.1 br' br0 σ0 q.2 (by omega) (by omega) k3 k5 (hE.fe q1) q2 (hF.trans q1) q3 hok
      · rw [if_neg (by omega)] at hok
        omega
    · have c1 : ¬ K a = 262 := fun e => c (Or.inl e)
      rw [if_neg c]
      rw [if_neg (fun e => c1 (by have := pw.mp e; omega))] at pa
      refine wpo_call (Q := fun z => z = Sum.inr (v, σ)) ?_ ?_
      · show wpo (B_Mo_bothOf_4 G 68 live v σ) _
        unfold B_Mo_bothOf_4
        refine wpo_bind.mpr (wpo_gk.mpr ⟨zk68 hB ▸ rfl, ?_⟩)
        rw [pa]
        refine wpo_bind.mpr (wpo_some.mpr ?_)
        rw [if_pos rfl, if_pos vb]
        exact wpo_some.mpr rfl
      · intro z hz
        rw [hz]
        exact wpo_some.mpr ⟨hF, br, hs, hR⟩
set_option maxHeartbeats 4000000 in
theorem v_Both {K V : Nat → Int} {N : Nat} (hT : zTx K V N) {A : Int → Int} {t : Int} (hA : zAk K V N A t) (hK : ∀ j : Nat, j ≤ N → 0 ≤ K j ∧ K j < 270) {w : Int → Int} {Pd : zDn → Prop} {sub : Nat → Nat → zRe} (hsub : zSub N Pd sub) {G : Nat → List mV → mS → Option (Int × mS)} (hG : ∀ l : Int, l = 0 ∨ l = 1 → zEt N A t w l (G 107 [(3, 68), (1, l)]) sub) : ∀ live : Int, live = 0 ∨ live = 1 → zEt N A t w live (B_Mo_bothOf G 68 live) (zCh K 262 262 zcon sub) := by
  intro live hl a p br σ hok aN p50 hE hs brb
  have hB := hE.1
  unfold zCh at hok ⊢
  rcases hsub a p aN p50 with ⟨k1, k2, k3, k4, k5, k6⟩ | ⟨k1, k2, k3⟩
  · rw [if_pos k1] at hok ⊢
    unfold B_Mo_bothOf
    refine wpo_bind.mpr (wpo_gk.mpr ⟨zk68 hB ▸ rfl, ?_⟩)
    refine wpo_call (hG live hl a p br σ k1 aN p50 hE hs brb) ?_
    intro q ⟨q1, br', q2, q3⟩
    unfold M_Mo_bothOf_4
    have N4 := hT.1
    exact v_BothLoop hT hA hK hl hsub hG 401 mN _ _ _ q.1 br' br σ q.2 (by rw [mN_eq]; decide) (by omega) k3 k5 (hE.fe q1) q2 q1 q3 hok
  · rw [if_neg (by omega)] at hok
    omega
