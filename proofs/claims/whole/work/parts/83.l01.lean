noncomputable section
/-! LAW: the developers' program reads, and makes a law -/
def zFk (σ σ' : mS) : Prop := σ'.2 = σ.2 ∧ zB σ' ∧ ∀ r, ¬ (39 ≤ r ∧ r ≤ 45) → σ'.1 r = σ.1 r
theorem d_read {T : Int → Int} {σ : mS} {n : Nat} (hB : zB σ) (hn : n ≤ 400) (hT : ∀ j : Nat, j < n → σ.1 38 j = T j) (hb : ∀ i : Nat, i < n → 0 ≤ T i ∧ T i < 256) :
    wpo (M_Reader_readText 39 38 n σ) (fun q => zFk σ q.2 ∧ (((zTxt (zKt' T n) (zVt' T n)).1 = 1 ∧ q.1 = -1 ∧ ∃ (m : Nat) (s fl : Int), zCs (zKt' T n) (zVt' T n) (zfo T n n).1 m (zTxt (zKt' T n) (zVt' T n)).2.1 (zTxt (zKt' T n) (zVt' T n)).2.2.1 s fl (zTxt (zKt' T n) (zVt' T n)).2.2.2 q.2) ∨ ((zTxt (zKt' T n) (zVt' T n)).1 = 0 ∧ q.1 = zSt' T n (zTxt (zKt' T n) (zVt' T n)).2.1))) := by
  have hT' := zTx_of hn hb
  have k38 := zk38 hB
  unfold M_Reader_readText
  refine wpo_bind.mpr (wpo_ln.mpr ⟨by rw [k38]; decide, ?_⟩)
  have ej : jmin (n : Int) (jmin (σ.2.1 38).2 400) = (n : Int) := by
    rw [k38]
    unfold jmin
    have : (if (400 : Int) < 400 then (400 : Int) else 400) = 400 := by decide
    show (if (if (400 : Int) < 400 then (400 : Int) else 400) < (n : Int) then (if (400 : Int) < 400 then (400 : Int) else 400) else (n : Int)) = n
    rw [this, if_neg (by omega)]
  rw [ej]
  refine wpo_bind.mpr (wpo_gk.mpr ⟨zk39 hB ▸ rfl, ?_⟩)
  refine wpo_call (d_split hB hn hT hb) ?_
  intro p ⟨p1, p2⟩
  have n1 : (zft T n).1 = (zfo T n n).1 + 1 := rfl
  have tk : zTk (zKt' T n) (zVt' T n) (zfo T n n).1 p.2 := by
    refine ⟨p1.2.1, by rw [p2.1, n1]; omega, fun j hj => ?_⟩
    have := p2.2 j (by omega)
    refine ⟨this.1, ?_⟩
    rw [this.2.2]
    unfold zVt'
    rw [if_pos hj]
  refine wpo_mono (d_text (S := zSt' T n) hT'.1 tk (fun j hj => (p2.2 j (by omega)).2.1)) ?_
  intro q ⟨q1, q2⟩
  exact ⟨⟨q1.1.trans p1.1, q1.2.1, fun r hr => (q1.2.2.1 r (by omega) (by omega) (by omega) (by omega)).trans (p1.2.2.1 r (by omega) (by omega) (by omega) (by omega))⟩, q2⟩
theorem zCls_cg {c ss cs c' ss' cs' : Int → Int} {sz : Int} : ∀ (m : Nat) (g : (Int → Int) → Int), zCls c ss cs sz m g → (∀ k, 0 ≤ k → k < sz → c' k = c k) → (∀ k, 0 ≤ k → k < (m : Int) → ss' k = ss k ∧ cs' k = cs k) → zCls c' ss' cs' sz m g := by
  intro m
  induction m with
  | zero => intro g h _ _; exact h
  | succ m ih =>
    intro g h hc hm
    obtain ⟨g', ds, dt, p, q, h1, h2, h3, ⟨h4, h4'⟩, h5⟩ := h
    have em := hm m (by omega) (by omega)
    have e0 : (if m = 0 then (0 : Int) else cs' ((m : Int) - 1)) = if m = 0 then (0 : Int) else cs ((m : Int) - 1) := by
      by_cases c0 : m = 0
      · rw [if_pos c0, if_pos c0]
      · rw [if_neg c0, if_neg c0]; exact (hm ((m : Int) - 1) (by omega) (by omega)).2
    have lt := h4.1
    refine ⟨g', ds, dt, p, q, ih g' h1 hc (fun k k0 k1 => hm k k0 (by omega)), h2, ?_, ?_, ?_⟩
    · rw [e0, em.1, em.2]; exact h3
    · rw [e0, em.1]; exact ⟨zF_of h4 (fun k a b => hc k (by omega) (by omega)), h4'⟩
    · rw [em.1, em.2]
      rcases h5 with x | ⟨x, x'⟩
      · exact Or.inl x
      · exact Or.inr ⟨zF_of x (fun k a b => hc k (by omega) (by omega)), x'⟩
theorem d_copyOf {σ : mS} {r a n : Int} (k : σ.2.1 r = (100, a)) (r0 : 0 < r) (rc : r ≤ σ.2.2.1) (n0 : 0 ≤ n) (n1 : n ≤ a) (a1 : a ≤ 1000) : ∃ Y : mS, M_JA_copyOf r n σ = some (σ.2.2.1 + 1, Y) ∧ Y.2.2.1 = σ.2.2.1 + 1 ∧ Y.2.2.2 = σ.2.2.2 + n ∧ (∀ u, u ≠ σ.2.2.1 + 1 → Y.2.1 u = σ.2.1 u) ∧ Y.2.1 (σ.2.2.1 + 1) = (100, n) ∧ (∀ u, u ≠ σ.2.2.1 + 1 → Y.1 u = σ.1 u) ∧ ∀ i, 0 ≤ i → i < n → Y.1 (σ.2.2.1 + 1) i = σ.1 r i := by
  have e1 : ln r σ = some a := by unfold ln; rw [k]; rfl
  by_cases c : n = a
  · have e2 : cln r σ = some ((fun q i => if q = σ.2.2.1 + 1 then σ.1 r i else σ.1 q i), (fun q => if q = σ.2.2.1 + 1 then (100, (σ.2.1 r).2) else σ.2.1 q), σ.2.2.1 + 1, σ.2.2.2 + (σ.2.1 r).2) := by unfold cln; rw [if_pos ⟨by rw [k], r0⟩]
    have e3 : cki (σ.2.2.1 + 1) (((fun q i => if q = σ.2.2.1 + 1 then σ.1 r i else σ.1 q i), (fun q => if q = σ.2.2.1 + 1 then (100, (σ.2.1 r).2) else σ.2.1 q), σ.2.2.1 + 1, σ.2.2.2 + (σ.2.1 r).2) : mS) = some (σ.2.2.1 + 1) := by
      unfold cki
      rw [if_pos]
      refine ⟨?_, by omega⟩
      show (if σ.2.2.1 + 1 = σ.2.2.1 + 1 then ((100 : Int), (σ.2.1 r).2) else σ.2.1 (σ.2.2.1 + 1)).1 = 100
      rw [if_pos rfl]
    refine ⟨((fun q i => if q = σ.2.2.1 + 1 then σ.1 r i else σ.1 q i), (fun q => if q = σ.2.2.1 + 1 then (100, (σ.2.1 r).2) else σ.2.1 q), σ.2.2.1 + 1, σ.2.2.2 + (σ.2.1 r).2), ?_, rfl, ?_, fun u hu => if_neg hu, ?_, fun u hu => ?_, fun i _ _ => if_pos rfl⟩
    · unfold M_JA_copyOf
      rw [e1]
      show (if n = a then _ else _) = _
      rw [if_pos c, e2]
      show (cki (σ.2.2.1 + 1) _).bind _ = _
      rw [e3]
      rfl
    · show σ.2.2.2 + (σ.2.1 r).2 = _
      rw [k, c]
    · show (if σ.2.2.1 + 1 = σ.2.2.1 + 1 then ((100 : Int), (σ.2.1 r).2) else σ.2.1 (σ.2.2.1 + 1)) = _
      rw [if_pos rfl, k, c]
    · funext i
      exact if_neg hu
  · have e2 : na 100 n σ = some (mnew 100 n σ) := by unfold na; rw [if_pos (by omega)]
    have rn : r ≠ σ.2.2.1 + 1 := by omega
    have k2 : (mnew 100 n σ).2.1 r = (100, a) := (mnew_kn rn).trans k
    have e3 : ln r (mnew 100 n σ) = some a := by unfold ln; rw [k2]; rfl
    have ej : jmin a n = n := by unfold jmin; rw [if_pos (by omega)]
    refine ⟨((fun q i => if q = σ.2.2.1 + 1 then (if 0 ≤ i ∧ i < 0 + n then (mnew 100 n σ).1 r (0 + (i - 0)) else (mnew 100 n σ).1 q i) else (mnew 100 n σ).1 q i), (mnew 100 n σ).2), ?_, rfl, rfl, fun u hu => mnew_kn hu, mnew_ke, fun u hu => ?_, fun i i0 i1 => ?_⟩
    · unfold M_JA_copyOf
      rw [e1]
      show (if n = a then _ else _) = _
      rw [if_neg c, e2]
      show ((ln r (mnew 100 n σ)).bind _) = _
      rw [e3]
      show ((cpy r 0 (σ.2.2.1 + 1) 0 (jmin a n) (mnew 100 n σ)).bind _) = _
      rw [ej]
      unfold cpy
      rw [if_pos ⟨by rw [k2], by rw [mnew_ke], by omega, rn, Int.le_refl _, Int.le_refl _, n0, by rw [k2]; show 0 + n ≤ a; omega, by rw [mnew_ke]; show 0 + n ≤ n; omega⟩]
      rfl
    · funext i
      show (if u = σ.2.2.1 + 1 then _ else (mnew 100 n σ).1 u i) = _
      rw [if_neg hu]
      exact mnew_hn hu
    · show (if σ.2.2.1 + 1 = σ.2.2.1 + 1 then (if 0 ≤ i ∧ i < 0 + n then (mnew 100 n σ).1 r (0 + (i - 0)) else (mnew 100 n σ).1 (σ.2.2.1 + 1) i) else (mnew 100 n σ).1 (σ.2.2.1 + 1) i) = _
      rw [if_pos rfl, if_pos (by omega), mnew_hn rn]
      exact congrArg (σ.1 r) (by omega)
set_option maxHeartbeats 4000000 in
theorem d_makeLaw {K V : Nat → Int} {N m a p : Nat} {s fl : Int} {g : (Int → Int) → Int} {σ : mS} (hN : zN σ) (hN4 : N ≤ 400) (h : zCs K V N m a p s fl g σ) : ∃ Y : mS, M_Reader_makeLaw 39 σ = some (σ.2.2.1 + 1, Y) ∧ zB Y ∧ Y.2.2.1 = σ.2.2.1 + 4 ∧ Y.2.2.2 ≤ σ.2.2.2 + 500 ∧ (∀ u, u ≤ σ.2.2.1 → Y.2.1 u = σ.2.1 u) ∧ (∀ u, u ≤ σ.2.2.1 → Y.1 u = σ.1 u) ∧ zLaw Y (σ.2.2.1 + 1) g := by
  obtain ⟨⟨⟨hB, h393, _⟩, ⟨h394, h3910, h396, h3911⟩, haN, hp50, hs0, hsa, hfl⟩, h399, hm12, hcl, hlast, hng⟩ := h
  have c90 := hN.1
  have cmod := hN.2
  generalize hc : σ.2.2.1 = c at *
  have kcore : ∀ r, zcore r = true → r ≤ c := fun r hr => by
    by_cases x : r ≤ 90
    · omega
    · rw [zcore_big (by omega)] at hr; exact absurd hr (by decide)
  -- a new law
  have s1c : (mnew 4 4 σ).2.2.1 = c + 1 := by rw [mnew_c, hc]
  have s1k : ∀ u, u ≤ c → (mnew 4 4 σ).2.1 u = σ.2.1 u := fun u hu => mnew_kn (by omega)
  have s1h : ∀ u, u ≤ c → (mnew 4 4 σ).1 u = σ.1 u := fun u hu => mnew_hf (by omega)
  have s1b : (mnew 4 4 σ).2.1 (c + 1) = (4, 4) := by have := mnew_ke (k := 4) (n := 4) (σ := σ); rw [hc] at this; exact this
  have s1s : (mnew 4 4 σ).2.2.2 = σ.2.2.2 + 4 := mnew_s
  generalize hS1 : mnew 4 4 σ = S1 at *
  have B1 : zB S1 := zB_core hB (fun r hr => s1k r (by omega)) (fun r hr => s1h r (kcore r hr))
  -- its code
  obtain ⟨S2, e2, s2c, s2s, s2k, s2b, s2h, s2v⟩ := d_copyOf (σ := S1) (r := 43) (n := s) (zk43 B1) (by decide) (by omega) hs0 (by omega) (by decide)
  rw [s1c] at e2 s2c s2k s2b s2h s2v
  have B2 : zB S2 := zB_core B1 (fun r hr => s2k r (by omega)) (fun r hr => s2h r (by have := kcore r hr; omega))
  obtain ⟨S3, e3, s3c, s3s, s3k, s3b, s3h, s3v⟩ := d_copyOf (σ := S2) (r := 44) (n := (m : Int)) (zk44 B2) (by decide) (by omega) (by omega) (by omega) (by decide)
  rw [s2c] at e3 s3c s3k s3b s3h s3v
  have B3 : zB S3 := zB_core B2 (fun r hr => s3k r (by omega)) (fun r hr => s3h r (by have := kcore r hr; omega))
  obtain ⟨S4, e4, s4c, s4s, s4k, s4b, s4h, s4v⟩ := d_copyOf (σ := S3) (r := 45) (n := (m : Int)) (zk45 B3) (by decide) (by omega) (by omega) (by omega) (by decide)
  rw [s3c] at e4 s4c s4k s4b s4h s4v
  have B4 : zB S4 := zB_core B3 (fun r hr => s4k r (by omega)) (fun r hr => s4h r (by have := kcore r hr; omega))
  have a2 : c + 1 + 1 = c + 2 := by omega
  have a3 : c + 1 + 1 + 1 = c + 3 := by omega
  have a4 : c + 1 + 1 + 1 + 1 = c + 4 := by omega
  rw [a2] at e2 s2c s2k s2b s2h s2v
  rw [a3] at e3 s3c s3k s3b s3h s3v
  rw [a4] at e4 s4c s4k s4b s4h s4v
  have H4 : ∀ u, u ≤ c → S4.1 u = σ.1 u := fun u hu => (s4h u (by omega)).trans ((s3h u (by omega)).trans ((s2h u (by omega)).trans (s1h u hu)))
  have K4 : ∀ u, u ≤ c → S4.2.1 u = σ.2.1 u := fun u hu => (s4k u (by omega)).trans ((s3k u (by omega)).trans ((s2k u (by omega)).trans (s1k u hu)))
  have kb : S4.2.1 (c + 1) = (4, 4) := by rw [s4k _ (by omega), s3k _ (by omega), s2k _ (by omega)]; exact s1b
  have kb1 : S4.2.1 (c + 2) = (100, s) := by rw [s4k _ (by omega), s3k _ (by omega)]; exact s2b
  have kb2 : S4.2.1 (c + 3) = (100, (m : Int)) := by rw [s4k _ (by omega)]; exact s3b
  have hb1 : ∀ i, 0 ≤ i → i < s → S4.1 (c + 2) i = σ.1 43 i := fun i i0 i1 => by rw [s4h _ (by omega), s3h _ (by omega), s2v i i0 i1, s1h 43 (by omega)]
  have hb2 : ∀ i, 0 ≤ i → i < (m : Int) → S4.1 (c + 3) i = σ.1 44 i := fun i i0 i1 => by rw [s4h _ (by omega), s3v i i0 i1, s2h 44 (by omega), s1h 44 (by omega)]
  have hb3 : ∀ i, 0 ≤ i → i < (m : Int) → S4.1 (c + 4) i = σ.1 45 i := fun i i0 i1 => by rw [s4v i i0 i1, s3h 45 (by omega), s2h 45 (by omega), s1h 45 (by omega)]
  have f6 : S1.1 39 6 = s := by rw [s1h 39 (by omega)]; exact h396
  have f9 : S2.1 39 9 = (m : Int) := by rw [s2h 39 (by omega), s1h 39 (by omega)]; exact h399
  have f9' : S3.1 39 9 = (m : Int) := by rw [s3h 39 (by omega)]; exact f9
  have f11 : S4.1 39 11 = fl := by rw [H4 39 (by omega)]; exact h3911
  have B5 := zB_mup (r := c + 1) (i := 0) (v := c + 2) B4 (zokr_big (by omega))
  have B6 := zB_mup (r := c + 1) (i := 1) (v := c + 3) B5 (zokr_big (by omega))
  have B7 := zB_mup (r := c + 1) (i := 2) (v := c + 4) B6 (zokr_big (by omega))
  have B8 := zB_mup (r := c + 1) (i := 3) (v := fl) B7 (zokr_big (by omega))
  have c0 : 0 < c + 1 := by omega
  have kb' : (S4.2.1 (c + 1)).1 = 4 := by rw [kb]
  have run : M_Reader_makeLaw 39 σ = some (c + 1, (mup (mup (mup (mup S4.1 (c + 1) 0 (c + 2)) (c + 1) 1 (c + 3)) (c + 1) 2 (c + 4)) (c + 1) 3 fl, S4.2)) := wpo_is (by
    unfold M_Reader_makeLaw M_Law_init
    simp (maxSteps := 5000000) (disch := first | assumption | omega) only [wpo_bind, wpo_some, wpo_gf, wpo_gk, wpo_ld, wpo_pf, wpo_pz, wpo_sd, wpo_sr, wpo_ln, wpo_idv, wpo_irm, wpo_lrm, wpo_ldv, mlet, mnar_int, mup_same, mup_cell, mup_slot, ite_true, ite_false, true_and, and_true, eq_self, or_true, true_or, and_self, Int.reduceLT, Int.reduceLE, Int.reduceEq, Int.reduceNe, Int.reduceAdd, Int.reduceSub, Int.reduceMul, Int.reduceNeg, ne_eq, not_false_eq_true, not_true_eq_false, false_or, or_false, zor_inl, zor_inr, Bool.false_eq_true, false_and, and_false, zk1, zk2, zk3, zk4, zk5, zk6, zk7, zk8, zk9, zk10, zk11, zk12, zk13, zk14, zk15, zk16, zk17, zk18, zk19, zk20, zk21, zk22, zk23, zk24, zk25, zk26, zk27, zk28, zk29, zk30, zk31, zk32, zk33, zk34, zk35, zk36, zk37, zk38, zk39, zk40, zk41, zk42, zk43, zk44, zk45, zk46, zk47, zk48, zk49, zk50, zk51, zk52, zk53, zk54, zk55, zk56, zk57, zk58, zk59, zk60, zk61, zk62, zk63, zk64, zk65, zk66, zk67, zk68, zk69, zk70, zk71, zk72, zk73, zk74, zk75, zk76, zk77, zk78, zk79, zk80, zk81, zk82, zk83, zk84, zk85, zk86, zk87, zk88, zk89, zk90, zr2_0, zr2_1, zr2_2, zr2_3, zr2_4, zr2_6, zr2_7, zr2_10, zr2_11, zr2_12, zr1_0, zr1_1, zr14_0, zr14_1, zr14_2, zr14_3, zr14_4, zr14_6, zr14_7, zr14_10, zr14_11, zr14_12, zr13_0, zr25_0, zr25_1, zr25_2, zr25_3, zr25_4, zr25_6, zr25_7, zr25_10, zr25_11, zr25_12, zr13_1, zr1_2, zr37_0, zr1_3, zr39_0, zr39_1, zr39_2, zr39_5, zr39_7, zr39_8, zr1_4, zr46_1, zr46_2, zr46_3, zr46_4, zr46_0, zr1_5, zr51_2, zr51_10, zr51_0, zr51_1, zr54_1, zr54_2, zr54_3, zr1_6, zr58_1, zr58_2, zr58_3, zr58_0, zr1_7, zr62_2, zr62_3, zr62_0, zr62_1, zr1_8, zr1_9, zr1_10, zr1_15, zr68_2, zr68_3, zr68_4, zr68_5, zr68_7, zr68_8, zr68_9, zr68_12, zr68_13, zr68_14, zr68_22, zr68_23, zr68_24, zr68_26, zr68_35, zr68_36, zr68_37, zr68_38, zr68_39, zr68_40, zr68_41, zr68_42, hS1, hc, f6, e2, f9, e3, f9', e4, f11, kb', c0, hfl])
  refine ⟨_, run, B8, s4c, by show S4.2.2.2 ≤ _; rw [s4s, s3s, s2s, s1s]; omega, K4, fun u hu => ?_, ?_⟩
  · show mup (mup (mup (mup S4.1 (c + 1) 0 (c + 2)) (c + 1) 1 (c + 3)) (c + 1) 2 (c + 4)) (c + 1) 3 fl u = _
    rw [mup_fun (by omega), mup_fun (by omega), mup_fun (by omega), mup_fun (by omega)]; exact H4 u hu
  · have g0 : mup (mup (mup (mup S4.1 (c + 1) 0 (c + 2)) (c + 1) 1 (c + 3)) (c + 1) 2 (c + 4)) (c + 1) 3 fl (c + 1) 0 = c + 2 := by rw [mup_slot (by decide), mup_slot (by decide), mup_slot (by decide), mup_same]
    have g1 : mup (mup (mup (mup S4.1 (c + 1) 0 (c + 2)) (c + 1) 1 (c + 3)) (c + 1) 2 (c + 4)) (c + 1) 3 fl (c + 1) 1 = c + 3 := by rw [mup_slot (by decide), mup_slot (by decide), mup_same]
    have g2 : mup (mup (mup (mup S4.1 (c + 1) 0 (c + 2)) (c + 1) 1 (c + 3)) (c + 1) 2 (c + 4)) (c + 1) 3 fl (c + 1) 2 = c + 4 := by rw [mup_slot (by decide), mup_same]
    have g3 : mup (mup (mup (mup S4.1 (c + 1) 0 (c + 2)) (c + 1) 1 (c + 3)) (c + 1) 2 (c + 4)) (c + 1) 3 fl (c + 1) 3 = fl := by rw [mup_same]
    have gr : ∀ u, u ≠ c + 1 → mup (mup (mup (mup S4.1 (c + 1) 0 (c + 2)) (c + 1) 1 (c + 3)) (c + 1) 2 (c + 4)) (c + 1) 3 fl u = S4.1 u := fun u hu => by rw [mup_fun hu, mup_fun hu, mup_fun hu, mup_fun hu]
    generalize hZ : ((mup (mup (mup (mup S4.1 (c + 1) 0 (c + 2)) (c + 1) 1 (c + 3)) (c + 1) 2 (c + 4)) (c + 1) 3 fl, S4.2) : mS) = Z
    have z0 : Z.1 (c + 1) 0 = c + 2 := by rw [← hZ]; exact g0
    have z1 : Z.1 (c + 1) 1 = c + 3 := by rw [← hZ]; exact g1
    have z2 : Z.1 (c + 1) 2 = c + 4 := by rw [← hZ]; exact g2
    have z3 : Z.1 (c + 1) 3 = fl := by rw [← hZ]; exact g3
    have zr : ∀ u, u ≠ c + 1 → Z.1 u = S4.1 u := fun u hu => by rw [← hZ]; exact gr u hu
    have zk : Z.2 = S4.2 := by rw [← hZ]
    clear hZ g0 g1 g2 g3 gr run
    refine ⟨⟨by omega, by omega, by rw [zk, s4c]; omega, by rw [zk]; exact kb, by rw [z3]; exact hfl⟩, zCls_bd m g hcl, fun e w v => hng (by rw [← z3]; exact e) w v, ?_⟩
    intro σ' hB' hcell w hw
    have q0 := hcell 0 (by decide) (by decide)
    have q1 := hcell 1 (by decide) (by decide)
    have q2 := hcell 2 (by decide) (by decide)
    have q3 := hcell 3 (by decide) (by decide)
    have x0 : c + 1 + 0 = c + 1 := by omega
    have x1 : c + 1 + 1 = c + 2 := by omega
    have x2 : c + 1 + 2 = c + 3 := by omega
    have x3 : c + 1 + 3 = c + 4 := by omega
    rw [x0] at q0
    rw [x1] at q1
    rw [x2] at q2
    rw [x3] at q3
    refine c_tell (b := c + 1) (sz := s) (m := m) hB' ⟨by omega, by rw [q0.2, zk]; exact kb, by rw [q0.1, z0]; omega, by rw [q0.1, z1]; omega, by rw [q0.1, z2]; omega, by rw [x1, q1.2, zk]; exact kb1, by rw [x2, q2.2, zk]; exact kb2, by rw [x3, q3.2, zk]; exact s4b, by omega, by omega⟩ (fun k k0 k1 => (hw k k0 k1).2) (fun k k0 k1 => (hw k k0 k1).1) ?_
    rw [x1, x2, x3, q1.1, q2.1, q3.1, zr _ (by omega), zr _ (by omega), zr _ (by omega)]
    exact zCls_cg m g hcl hb1 (fun k k0 k1 => ⟨hb2 k k0 k1, hb3 k k0 k1⟩)
end
