/-! THE REFERENCE's split: its loops -/
def zTp (T : Int → Int) (n : Nat) (σ : mS) : Prop := ∀ j : Nat, j < n → σ.1 74 j = w8 (T j)
theorem zTp_l {T : Int → Int} {n : Nat} {σ : mS} (h : zTp T n σ) (tb : ∀ i : Nat, i < n → 0 ≤ T i ∧ T i < 256) {j : Nat} (hj : j < n) (hs : zsrt (T j) = 257 ∨ zsrt (T j) = 258) : σ.1 74 j = T j := by
  rw [h j hj, w8_b (tb j hj)]
  have := tb j hj
  rcases hs with e | e
  · have := zsrt_257.mp e; rw [if_pos (by omega)]
  · have := zsrt_258.mp e; rw [if_pos (by omega)]
theorem r_ld74 {T : Int → Int} {n k : Nat} {σ : mS} (hB : zB σ) (hn : n ≤ 400) (h : zTp T n σ) (hk : k < n) : ld 101 74 (k : Int) σ = some (w8 (T k)) := by
  unfold ld
  rw [zk74 hB, if_pos ⟨rfl, by omega, by show (k : Int) < 400; omega⟩, h k hk]
theorem r_gf8 {σ : mS} (hB : zB σ) : gf 11 8 68 σ = some 74 := by unfold gf; rw [zk68 hB, if_pos rfl, zr68_8 hB]
set_option maxHeartbeats 4000000 in
theorem r_25 {T : Int → Int} {n k : Nat} {σ : mS} (hB : zB σ) (hn : n ≤ 400) (hx : (zfo T n k).1 ≤ 400) (h : zTm (zfo T n k) σ) (tb : ∀ i : Nat, i < n → 0 ≤ T i ∧ T i < 256) (hp : zTp T n σ) (hk : k < n) (c8 : zsrt (T k) = 258) (hb : zah T k ≠ 258) :
    wpo (M_Mo_splits_25 68 n k (w8 (T k)) ((k + 1 : Nat) : Int) σ) (fun z => ∃ to : Nat, k < to ∧ to ≤ n ∧ (to < n → zsrt (T to) ≠ 258) ∧ zah T to = 258 ∧ zSq T n to σ z) := by
  have tk := tb k hk
  have g8 := r_gf8 hB
  have nd : ∀ X : mS, M_Mo_isDigit (w8 (T k)) X = some (0, X) := fun X => by rw [r_digit, if_neg (fun g => by have := (w8_digit tk).mp g; omega)]
  unfold M_Mo_splits_25
  refine miter_mN (fun q y => ∃ (to f : Nat), k < to ∧ to ≤ n ∧ q = n - to ∧ y = ((to : Int), σ) ∧ (∀ i : Nat, k ≤ i → i < to → zsrt (T i) = 258) ∧ zwe T n f to = zwe T n 401 k ∧ n < to + f) ?_ (n - (k + 1)) _ (by omega) ⟨k + 1, 400, by omega, by omega, rfl, rfl, ?_, ?_, by omega⟩
  · intro q y ⟨to, f, kt, tn, hq, hy, hr, hz, hf⟩
    subst hy
    show wpo (B_Mo_splits_25 68 n k (w8 (T k)) to σ) _
    unfold B_Mo_splits_25
    obtain ⟨f, rfl⟩ : ∃ g, f = g + 1 := ⟨f - 1, by omega⟩
    have stop : ¬ (to < n ∧ zsrt (T to) = 258) → wpo ((M_Mo_splits_36 68 n k (w8 (T k)) (to : Int) σ).bind fun z => some (Sum.inr z)) (zor (fun y' : Int × mS => ∃ m, m < q ∧ ∃ (to f : Nat), k < to ∧ to ≤ n ∧ m = n - to ∧ y' = ((to : Int), σ) ∧ (∀ i : Nat, k ≤ i → i < to → zsrt (T i) = 258) ∧ zwe T n f to = zwe T n 401 k ∧ n < to + f) (fun z => ∃ to : Nat, k < to ∧ to ≤ n ∧ (to < n → zsrt (T to) ≠ 258) ∧ zah T to = 258 ∧ zSq T n to σ z)) := by
      intro hs
      have et : to = zwe T n 401 k := by
        rw [← hz]
        unfold zwe
        rw [if_neg hs]
      unfold M_Mo_splits_36
      rw [nd]
      refine wpo_bind.mpr (wpo_bind.mpr (wpo_some.mpr ?_))
      rw [if_pos rfl]
      refine wpo_mono (r_50w hB hn hx h tk c8 hb et kt tn hr (fun j a b => zTp_l hp tb (by omega) (Or.inr (hr j a b)))) ?_
      intro z hz'
      refine wpo_some.mpr ⟨to, kt, tn, fun g e => hs ⟨g, e⟩, ?_, hz'⟩
      obtain ⟨t, rfl⟩ : ∃ t, to = t + 1 := ⟨to - 1, by omega⟩
      rw [zah_succ]; exact hr t (by omega) (by omega)
    by_cases c : to < n
    · rw [if_pos (show (to : Int) < (n : Int) by omega), g8]
      refine wpo_bind.mpr (wpo_some.mpr ?_)
      rw [r_ld74 hB hn hp c]
      refine wpo_bind.mpr (wpo_some.mpr ?_)
      rw [r_small]
      refine wpo_bind.mpr (wpo_some.mpr ?_)
      by_cases c2 : zsrt (T to) = 258
      · rw [if_pos ((w8_small (tb to c)).mpr c2), if_neg (show ¬ (1 : Int) = 0 by decide), w32_nat1 (i := to) (by omega)]
        refine wpo_some.mpr ⟨n - (to + 1), by omega, to + 1, f, by omega, by omega, rfl, rfl, fun i a b => ?_, ?_, by omega⟩
        · by_cases ci : i = to
          · rw [ci]; exact c2
          · exact hr i a (by omega)
        · rw [← hz]
          show _ = if to < n ∧ zsrt (T to) = 258 then zwe T n f (to + 1) else to
          rw [if_pos ⟨c, c2⟩]
      · rw [if_neg (fun g => c2 ((w8_small (tb to c)).mp g)), if_pos rfl]
        exact stop (fun g => c2 g.2)
    · rw [if_neg (show ¬ (to : Int) < (n : Int) by omega)]
      exact stop (fun g => c g.1)
  · intro i a b
    have : i = k := by omega
    rw [this]; exact c8
  · show zwe T n 400 (k + 1) = if k < n ∧ zsrt (T k) = 258 then zwe T n 400 (k + 1) else k
    rw [if_pos ⟨hk, c8⟩]
set_option maxHeartbeats 4000000 in
theorem r_39 {T : Int → Int} {n k : Nat} {σ : mS} (hB : zB σ) (hn : n ≤ 400) (hx : (zfo T n k).1 ≤ 400) (h : zTm (zfo T n k) σ) (tb : ∀ i : Nat, i < n → 0 ≤ T i ∧ T i < 256) (hp : zTp T n σ) (hk : k < n) (c7 : zsrt (T k) = 257) (hb : zah T k ≠ 257) :
    wpo (M_Mo_splits_39 68 n k (w8 (T k)) ((k + 1 : Nat) : Int) σ) (fun z => ∃ to : Nat, k < to ∧ to ≤ n ∧ (to < n → zsrt (T to) ≠ 257) ∧ zah T to = 257 ∧ zSq T n to σ z) := by
  have g8 := r_gf8 hB
  have hg : ∀ m : Nat, m ≤ n → ∀ j : Nat, j < (zfo T n m).1 → 0 ≤ (zfo T n m).2.2.2 j := fun m hm j hj => ((zfo_g tb m hm).2.2 j hj).2.2.1
  unfold M_Mo_splits_39
  refine miter_mN (fun q y => ∃ (to : Nat), k < to ∧ to ≤ n ∧ q = n - to ∧ y = ((to : Int), σ) ∧ (∀ i : Nat, k ≤ i → i < to → zsrt (T i) = 257)) ?_ (n - (k + 1)) _ (by omega) ⟨k + 1, by omega, by omega, rfl, rfl, ?_⟩
  · intro q y ⟨to, kt, tn, hq, hy, hr⟩
    subst hy
    show wpo (B_Mo_splits_39 68 n k (w8 (T k)) to σ) _
    unfold B_Mo_splits_39
    have stop : ¬ (to < n ∧ zsrt (T to) = 257) → wpo ((M_Mo_splits_50 68 n k (w8 (T k)) (to : Int) σ).bind fun z => some (Sum.inr z)) (zor (fun y' : Int × mS => ∃ m, m < q ∧ ∃ (to : Nat), k < to ∧ to ≤ n ∧ m = n - to ∧ y' = ((to : Int), σ) ∧ (∀ i : Nat, k ≤ i → i < to → zsrt (T i) = 257)) (fun z => ∃ to : Nat, k < to ∧ to ≤ n ∧ (to < n → zsrt (T to) ≠ 257) ∧ zah T to = 257 ∧ zSq T n to σ z)) := by
      intro hs
      refine wpo_call (r_50d hB hn hx hg h tb c7 hb kt tn hr (fun j a b => zTp_l hp tb (by omega) (Or.inl (hr j a b)))) ?_
      intro z hz'
      refine wpo_some.mpr ⟨to, kt, tn, fun g e => hs ⟨g, e⟩, ?_, hz'⟩
      obtain ⟨t, rfl⟩ : ∃ t, to = t + 1 := ⟨to - 1, by omega⟩
      rw [zah_succ]; exact hr t (by omega) (by omega)
    by_cases c : to < n
    · rw [if_pos (show (to : Int) < (n : Int) by omega), g8]
      refine wpo_bind.mpr (wpo_some.mpr ?_)
      rw [r_ld74 hB hn hp c]
      refine wpo_bind.mpr (wpo_some.mpr ?_)
      rw [r_digit]
      refine wpo_bind.mpr (wpo_some.mpr ?_)
      by_cases c2 : zsrt (T to) = 257
      · rw [if_pos ((w8_digit (tb to c)).mpr c2), if_neg (show ¬ (1 : Int) = 0 by decide), w32_nat1 (i := to) (by omega)]
        refine wpo_some.mpr ⟨n - (to + 1), by omega, to + 1, by omega, by omega, rfl, rfl, fun i a b => ?_⟩
        by_cases ci : i = to
        · rw [ci]; exact c2
        · exact hr i a (by omega)
      · rw [if_neg (fun g => c2 ((w8_digit (tb to c)).mp g)), if_pos rfl]
        exact stop (fun g => c2 g.2)
    · rw [if_neg (show ¬ (to : Int) < (n : Int) by omega)]
      exact stop (fun g => c g.1)
  · intro i a b
    have : i = k := by omega
    rw [this]; exact c7
/-- the split, up to k -/
def zrI (T : Int → Int) (n : Nat) (σ : mS) (q : Nat) (y : Int × mS) : Prop := ∃ k : Nat, k ≤ n ∧ q = n - k ∧ y.1 = (k : Int) ∧ zFz σ y.2 ∧ zTm (zfo T n k) y.2 ∧ (k < n → zsrt (T k) = 257 → zah T k ≠ 257) ∧ (k < n → zsrt (T k) = 258 → zah T k ≠ 258)
theorem zrI_of {T : Int → Int} {n k to q : Nat} {σ σ' : mS} {z : (Int × mS) ⊕ (Int × mS)} {R : Int × mS → Prop} (kt : k < to) (tn : to ≤ n) (hq : q = n - k) (hF : zFz σ σ') (h : zSq T n to σ' z) (b1 : to < n → zsrt (T to) = 257 → zah T to ≠ 257) (b2 : to < n → zsrt (T to) = 258 → zah T to ≠ 258) : zor (fun y' => ∃ m, m < q ∧ zrI T n σ m y') R z := by
  obtain ⟨σ2, h1, h2, h3⟩ := h
  rw [h1]
  exact ⟨n - to, by omega, to, tn, rfl, rfl, hF.trans h2, h3, b1, b2⟩
set_option maxHeartbeats 4000000 in
theorem r_splits {T : Int → Int} {n : Nat} {σ : mS} (hB : zB σ) (hn : n ≤ 400) (hp : zTp T n σ) (tb : ∀ i : Nat, i < n → 0 ≤ T i ∧ T i < 256) :
    wpo (M_Mo_splits 68 n σ) (fun q => zFz σ q.2 ∧ zTw (zfo T n n) 0 n 0 q.2) := by
  have f0 := zFz_15 (v := 0) hB
  have t0 : zTm (zfo T n 0) (mup σ.1 68 15 0, σ.2) := ⟨by show mup σ.1 68 15 0 68 15 = 0; exact mup_same, fun j hj => absurd hj (Nat.not_lt_zero _)⟩
  have z0 : zah T 0 = 32 := by unfold zah; rw [if_pos rfl]
  unfold M_Mo_splits
  refine wpo_bind.mpr (wpo_pf.mpr ⟨⟨zk68 hB ▸ rfl, by decide⟩, ?_⟩)
  unfold M_Mo_splits_5
  refine miter_mN (zrI T n σ) ?_ n _ (by omega) ⟨0, Nat.zero_le _, (Nat.sub_zero n).symm, rfl, f0, t0, fun _ _ => by rw [z0]; decide, fun _ _ => by rw [z0]; decide⟩
  intro q y ⟨k, hk, hq, y1, y2, y3, y4, y5⟩
  obtain ⟨kk, X⟩ := y
  simp only at y1 y2 y3
  subst y1
  have hBx := y2.2.1
  have gT := zfo_g tb k hk
  have g1 := gT.1
  have hx : (zfo T n k).1 ≤ 400 := by omega
  have hpx : zTp T n X := fun j hj => by rw [y2.2.2.1 74 (by decide) (by decide) (by decide) (by decide)]; exact hp j hj
  show wpo (B_Mo_splits_5 68 n k X) _
  by_cases c : k < n
  · unfold B_Mo_splits_5
    have tk := tb k c
    rw [if_pos (show (k : Int) < (n : Int) by omega), r_gf8 hBx]
    refine wpo_bind.mpr (wpo_some.mpr ?_)
    rw [r_ld74 hBx hn hpx c]
    refine wpo_bind.mpr (wpo_some.mpr ?_)
    rw [w32_nat1 (i := k) (by omega)]
    by_cases c3 : T k = 32
    · rw [if_pos ((w8_blank tk).mpr c3)]
      have es : zsrt (T k) = 32 := by rw [c3]; rfl
      have ef : zfo T n (k + 1) = zfo T n k := by
        show zsp T n k (zfo T n k) = _
        unfold zsp
        rw [es, if_neg (by decide), if_neg (by decide), if_pos rfl]
      have za : zah T (k + 1) = 32 := by rw [zah_succ]; exact es
      exact wpo_some.mpr (zrI_of (to := k + 1) (by omega) (by omega) hq y2 ⟨X, rfl, zFz.rfl' hBx, by rw [ef]; exact y3⟩ (fun _ _ => by rw [za]; decide) (fun _ _ => by rw [za]; decide))
    · rw [if_neg (fun g => c3 ((w8_blank tk).mp g)), r_small]
      refine wpo_bind.mpr (wpo_some.mpr ?_)
      by_cases c8 : zsrt (T k) = 258
      · rw [if_pos ((w8_small tk).mpr c8), if_neg (show ¬ (1 : Int) = 0 by decide)]
        refine wpo_mono (r_25 hBx hn hx y3 tb hpx c c8 (y5 c c8)) ?_
        intro z ⟨to, kt, tn, b1, za, hz⟩
        exact zrI_of kt tn hq y2 hz (fun _ _ => by rw [za]; decide) (fun g e => absurd e (b1 g))
      · rw [if_neg (fun g => c8 ((w8_small tk).mp g)), if_pos rfl]
        unfold M_Mo_splits_36
        rw [r_digit]
        refine wpo_bind.mpr (wpo_some.mpr ?_)
        by_cases c7 : zsrt (T k) = 257
        · rw [if_pos ((w8_digit tk).mpr c7), if_neg (show ¬ (1 : Int) = 0 by decide)]
          refine wpo_mono (r_39 hBx hn hx y3 tb hpx c c7 (y4 c c7)) ?_
          intro z ⟨to, kt, tn, b1, za, hz⟩
          exact zrI_of kt tn hq y2 hz (fun g e => absurd e (b1 g)) (fun _ _ => by rw [za]; decide)
        · rw [if_neg (fun g => c7 ((w8_digit tk).mp g)), if_pos rfl]
          refine wpo_mono (r_50s hBx hx y3 tk c7 c8 c3) ?_
          intro z hz
          exact zrI_of (by omega) (by omega) hq y2 hz (fun _ _ => by rw [zah_succ]; exact c7) (fun _ _ => by rw [zah_succ]; exact c8)
  · have e : k = n := by omega
    subst e
    have h1 := y3.1
    have c0 : 0 ≤ ((zfo T k k).1 : Int) := by omega
    have c1 : ((zfo T k k).1 : Int) < 401 := by omega
    have c2 : ¬ (k : Int) < (k : Int) := Int.lt_irrefl _
    have f1 := zFz_arr (r := 78) (i := ((zfo T k k).1 : Int)) (v := (k : Int)) hBx (by decide)
    have f2 := zFz_arr (r := 76) (i := ((zfo T k k).1 : Int)) (v := 0) f1.2.1 (by decide)
    have f3 := zFz_arr (r := 77) (i := ((zfo T k k).1 : Int)) (v := 0) f2.2.1 (by decide)
    have po : zFz σ (mup (mup (mup X.1 78 ((zfo T k k).1 : Int) k) 76 ((zfo T k k).1 : Int) 0) 77 ((zfo T k k).1 : Int) 0, X.2) ∧ zTw (zfo T k k) 0 k 0 (mup (mup (mup X.1 78 ((zfo T k k).1 : Int) k) 76 ((zfo T k k).1 : Int) 0) 77 ((zfo T k k).1 : Int) 0, X.2) := by
      refine ⟨y2.trans ((f1.trans f2).trans f3), ⟨?_, fun j hj => ?_⟩, ?_, ?_, ?_⟩
      · show mup (mup (mup X.1 78 ((zfo T k k).1 : Int) k) 76 ((zfo T k k).1 : Int) 0) 77 ((zfo T k k).1 : Int) 0 68 15 = _
        rw [mup_cell (by decide), mup_cell (by decide), mup_cell (by decide)]; exact h1
      · show mup (mup (mup X.1 78 ((zfo T k k).1 : Int) k) 76 ((zfo T k k).1 : Int) 0) 77 ((zfo T k k).1 : Int) 0 76 j = _ ∧ mup (mup (mup X.1 78 ((zfo T k k).1 : Int) k) 76 ((zfo T k k).1 : Int) 0) 77 ((zfo T k k).1 : Int) 0 78 j = _ ∧ zvr (mup (mup (mup X.1 78 ((zfo T k k).1 : Int) k) 76 ((zfo T k k).1 : Int) 0) 77 ((zfo T k k).1 : Int) 0 77 j) _
        rw [mup_cell (by decide), mup_slot (by omega), mup_cell (by decide), mup_cell (by decide), mup_cell (by decide), mup_slot (by omega), mup_slot (by omega), mup_cell (by decide), mup_cell (by decide)]
        exact y3.2 j hj
      · show mup (mup (mup X.1 78 ((zfo T k k).1 : Int) k) 76 ((zfo T k k).1 : Int) 0) 77 ((zfo T k k).1 : Int) 0 76 ((zfo T k k).1 : Int) = _
        rw [mup_cell (by decide), mup_same]
      · show mup (mup (mup X.1 78 ((zfo T k k).1 : Int) k) 76 ((zfo T k k).1 : Int) 0) 77 ((zfo T k k).1 : Int) 0 78 ((zfo T k k).1 : Int) = _
        rw [mup_cell (by decide), mup_cell (by decide), mup_same]
      · show mup (mup (mup X.1 78 ((zfo T k k).1 : Int) k) 76 ((zfo T k k).1 : Int) 0) 77 ((zfo T k k).1 : Int) 0 77 ((zfo T k k).1 : Int) = _
        exact mup_same
    generalize hQ : (zor (fun y' => ∃ m, m < q ∧ zrI T k σ m y') fun q : Int × mS => zFz σ q.2 ∧ zTw (zfo T k k) 0 k 0 q.2) = Q
    unfold B_Mo_splits_5
    simp (maxSteps := 5000000) (disch := first | assumption | omega) only [wpo_bind, wpo_some, wpo_gf, wpo_gk, wpo_ld, wpo_pf, wpo_pz, wpo_sd, wpo_sr, wpo_ln, wpo_idv, wpo_irm, wpo_lrm, wpo_ldv, wpo_cpy, mlet, mnar_int, mup_same, mup_cell, mup_slot, ite_true, ite_false, true_and, and_true, eq_self, or_true, true_or, and_self, Int.reduceLT, Int.reduceLE, Int.reduceEq, Int.reduceNe, Int.reduceAdd, Int.reduceSub, Int.reduceMul, Int.reduceNeg, ne_eq, not_false_eq_true, not_true_eq_false, false_or, or_false, zor_inl, zor_inr, Bool.false_eq_true, false_and, and_false, zk1, zk2, zk3, zk4, zk5, zk6, zk7, zk8, zk9, zk10, zk11, zk12, zk13, zk14, zk15, zk16, zk17, zk18, zk19, zk20, zk21, zk22, zk23, zk24, zk25, zk26, zk27, zk28, zk29, zk30, zk31, zk32, zk33, zk34, zk35, zk36, zk37, zk38, zk39, zk40, zk41, zk42, zk43, zk44, zk45, zk46, zk47, zk48, zk49, zk50, zk51, zk52, zk53, zk54, zk55, zk56, zk57, zk58, zk59, zk60, zk61, zk62, zk63, zk64, zk65, zk66, zk67, zk68, zk69, zk70, zk71, zk72, zk73, zk74, zk75, zk76, zk77, zk78, zk79, zk80, zk81, zk82, zk83, zk84, zk85, zk86, zk87, zk88, zk89, zk90, zr2_0, zr2_1, zr2_2, zr2_3, zr2_4, zr2_6, zr2_7, zr2_10, zr2_11, zr2_12, zr1_0, zr1_1, zr14_0, zr14_1, zr14_2, zr14_3, zr14_4, zr14_6, zr14_7, zr14_10, zr14_11, zr14_12, zr13_0, zr25_0, zr25_1, zr25_2, zr25_3, zr25_4, zr25_6, zr25_7, zr25_10, zr25_11, zr25_12, zr13_1, zr1_2, zr37_0, zr1_3, zr39_0, zr39_1, zr39_2, zr39_5, zr39_7, zr39_8, zr1_4, zr46_1, zr46_2, zr46_3, zr46_4, zr46_0, zr1_5, zr51_2, zr51_10, zr51_0, zr51_1, zr54_1, zr54_2, zr54_3, zr1_6, zr58_1, zr58_2, zr58_3, zr58_0, zr1_7, zr62_2, zr62_3, zr62_0, zr62_1, zr1_8, zr1_9, zr1_10, zr1_15, zr68_2, zr68_3, zr68_4, zr68_5, zr68_7, zr68_8, zr68_9, zr68_12, zr68_13, zr68_14, zr68_22, zr68_23, zr68_24, zr68_26, zr68_35, zr68_36, zr68_37, zr68_38, zr68_39, zr68_40, zr68_41, zr68_42, c2, h1, c0, c1]
    rw [← hQ]
    exact po
/-- both splits give the same tokens -/
theorem zMt_of {T : Int → Int} {n : Nat} {σ : mS} (hB : zB σ) (h : zTw (zfo T n n) 0 n 0 σ) : zMt (zKt' T n) (zVt' T n) (zSt' T n) (zfo T n n).1 σ ∧ ∀ j : Nat, j < (zfo T n n).1 → zVt' T n j ≤ 1000 → σ.1 77 j = zVt' T n j := by
  obtain ⟨⟨h1, h2⟩, h3, h4, h5⟩ := h
  have e1 : zKt' T n = zud (zfo T n n).2.1 (zfo T n n).1 256 := rfl
  have e2 : zSt' T n = zud (zfo T n n).2.2.1 (zfo T n n).1 n := rfl
  have e3 : ∀ j : Nat, j ≤ (zfo T n n).1 → zVt' T n j = zud (zfo T n n).2.2.2 (zfo T n n).1 0 j := fun j hj => by unfold zVt'; rw [if_pos hj]; rfl
  refine ⟨⟨hB, h1, fun j hj => ?_⟩, fun j hj hv => ?_⟩
  · rw [e1, e2, e3 j hj]
    by_cases c : j = (zfo T n n).1
    · subst c
      rw [zud_same, zud_same, zud_same, h3, h4, h5]
      exact ⟨rfl, rfl, fun g => by omega⟩
    · rw [zud_ne c, zud_ne c, zud_ne c]
      obtain ⟨q1, q2, q3⟩ := h2 j (by omega)
      refine ⟨q1, q2, fun _ => ?_⟩
      rcases q3.2 with ⟨a, b⟩ | ⟨a, b⟩
      · omega
      · omega
  · rw [e3 j (by omega), zud_ne (by omega)] at hv ⊢
    rcases (h2 j hj).2.2.2 with ⟨a, b⟩ | ⟨a, b⟩
    · exact a
    · omega
