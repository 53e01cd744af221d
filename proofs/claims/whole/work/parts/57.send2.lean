/-- the thing that a RAY may end in -/
def zthc (pa : Int) : Int := if pa = 0 then 5 else 52
theorem zWF_ta {A : Int → Int} (h : zWF A) (p : Int) (hn : ztA A p ≠ -1) : 0 ≤ ztA A p ∧ ztA A p < 8 ∧ 1 ≤ A (136 + ztA A p) ∧ A (136 + ztA A p) ≤ 31 := by
  have a := ztA_some hn
  have b := h.2.1
  have c := h.2.2.1 _ a.1 a.2.1
  omega
theorem zthc_get {D : Int → (Int → Int) → Int} {A : Int → Int} {σ : mS} {pa p : Int} (h : zCQ D A σ) (p0 : 0 ≤ p) (p1 : p < 64) : σ.1 (zthc pa) p = if pa = 0 then ztA A p else -1 := by
  unfold zthc
  by_cases c : pa = 0
  · rw [if_pos c, if_pos c]; exact (h.2.2.1.1 p p0 p1).2.2
  · rw [if_neg c, if_neg c]; exact h.1.2.2.1 p p0 p1
theorem zthc_kind {σ : mS} {pa : Int} (h : zB σ) : σ.2.1 (zthc pa) = (100, 64) := by
  unfold zthc
  split
  · exact zk5 h
  · exact zk52 h
/-- the state of the loop: k steps are gone; it goes on, or it is at its end -/
def zgo (S : zSc) (k : Nat) (steep going : Int) : Prop :=
  (going = 1 ∧ ze S + k < 63 ∧ steep = zs S k ∧ ∀ j, 0 < j → j ≤ k → ¬ zstop S j) ∨
  (zK S = k ∧ steep = zs S (k - 1) ∧ ((going = 0 ∧ 0 < k ∧ ze S < 63 ∧ (zgr S k ∨ zsk S k ∨ zin S k)) ∨ (going = 1 ∧ ze S + k = 63 ∧ (k = 0 ∨ ¬ zgr S k ∧ ¬ zsk S k ∧ ¬ zin S k))))
set_option maxHeartbeats 4000000 in
theorem s_send_end {D : Int → (Int → Int) → Int} {A : Int → Int} {σ : mS} {s bend e eh t pa a sd going steep : Int} {k : Nat} (S : zSc) (eS : S = (A, zWd D A s, bend, e, eh, a, t, sd, pa)) (hS : zSok S) (hq : zCQ D A σ)
    (hk : e + k ≤ 63) (hgo : zgo S k steep going) (hend : going = 0 ∨ ¬ (e + k < 63)) (hh : ∀ j : Nat, j ≤ k → σ.1 53 (e + j) = zH S j) (hd : 0 < t → σ.1 51 9 = zd S k) (b : Int) :
    wpo (M_Light_send_140 51 (zthc pa) (e + k) (zH S k) steep going σ) (fun q => zCQ D A q.2 ∧ zFrs b σ q.2 ∧ zRes S q.2) := by
  have hB := hq.1
  have e1 : ze S = e := by rw [eS]; rfl
  have e2 : zA S = A := by rw [eS]; rfl
  have e3 : zpa S = pa := by rw [eS]; rfl
  have e4 : zt S = t := by rw [eS]; rfl
  have he := hS.2.2.2.1
  rw [e1] at he
  have hH := zH_bd hS k
  have p0 : 0 ≤ e + (k : Int) := by omega
  have p1 : e + (k : Int) < 64 := by omega
  have hr := hq.2.2.1.1 _ p0 p1
  have hr3 : σ.1 3 (e + k) = A (e + k) := hr.1
  have hw := hq.2.1.1 _ p0 p1
  have w1 : w32 (100 * A (e + k)) = 100 * A (e + k) := w32_in (by omega) (by omega)
  have w2 : w32 (zH S k - 100 * A (e + k)) = zH S k - 100 * A (e + k) := w32_in (by omega) (by omega)
  have hK : zK S = k := by
    rcases hgo with g | g
    · rcases hend with x | x
      · rw [x] at g; exact absurd g.1 (by decide)
      · rw [e1] at g; omega
    · exact g.1
  have hst : steep = zs S (k - 1) := by
    rcases hgo with g | g
    · rcases hend with x | x
      · rw [x] at g; exact absurd g.1 (by decide)
      · rw [e1] at g; omega
    · exact g.2.1
  have hg2 : (going = 0 ∧ 0 < k ∧ ze S < 63 ∧ (zgr S k ∨ zsk S k ∨ zin S k)) ∨ (going = 1 ∧ ze S + k = 63 ∧ (k = 0 ∨ ¬ zgr S k ∧ ¬ zsk S k ∧ ¬ zin S k)) := by
    rcases hgo with g | g
    · rcases hend with x | x
      · rw [x] at g; exact absurd g.1 (by decide)
      · rw [e1] at g; omega
    · exact g.2.2
  have kt := zthc_kind (pa := pa) hB
  have gt := zthc_get (pa := pa) hq p0 p1
  have gn : zthc pa ≠ 51 := by unfold zthc; split <;> decide
  -- the whole of it, once what settle is told is known
  have key : ∀ th : Int, (zwh S = 1 → th = ztA A (e + k)) → (going ≠ 0 ∨ 3200 ≤ zH S k → zwh S = 2) → (going = 0 → zH S k < 3200 → zH S k - 100 * A (e + k) < 0 → zwh S = 0) → (going = 0 → zH S k < 3200 → ¬ (zH S k - 100 * A (e + k) < 0) → zwh S = 1) →
      wpo (M_Light_send_157 51 (e + k) (zH S k) going th 51 (mup (mup (mup σ.1 51 11 (e + k)) 51 12 (zH S k)) 51 13 steep, σ.2)) (fun q => zCQ D A q.2 ∧ zFrs b σ q.2 ∧ zRes S q.2) := by
    intro th t1 t2 t3 t4
    have q1 : zCQ D A (mup (mup (mup σ.1 51 11 (e + k)) 51 12 (zH S k)) 51 13 steep, σ.2) := zCQ_slot (zCQ_slot (zCQ_slot hq (by decide +kernel)) (by decide +kernel)) (by decide +kernel)
    have f1 : zFrs b σ (mup (mup (mup σ.1 51 11 (e + k)) 51 12 (zH S k)) 51 13 steep, σ.2) := ((zFrs.slot hB (by decide +kernel) (by decide)).trans (zFrs.slot (zB_mup hB (by decide +kernel)) (by decide +kernel) (by decide))).trans (zFrs.slot (zB_mup (zB_mup hB (by decide +kernel)) (by decide +kernel)) (by decide +kernel) (by decide))
    generalize eσ : ((mup (mup (mup σ.1 51 11 (e + k)) 51 12 (zH S k)) 51 13 steep, σ.2) : mS) = σ1 at q1 f1
    have g11 : σ1.1 51 11 = e + k := by rw [← eσ]; simp [mup]
    have g12 : σ1.1 51 12 = zH S k := by rw [← eσ]; simp [mup]
    have g13 : σ1.1 51 13 = steep := by rw [← eσ]; simp [mup]
    have g9 : σ1.1 51 9 = σ.1 51 9 := by rw [← eσ]; simp [mup]
    have g53 : σ1.1 53 = σ.1 53 := by rw [← eσ]; funext i; simp [mup]
    have g3 : σ1.1 3 (e + k) = A (e + k) := (q1.2.2.1.1 _ p0 p1).1
    have hB1 := q1.1
    have es := s_settle (th := th) (ab := zH S k - 100 * A (e + k)) (go := going) hB1 (by omega)
    rw [g12] at es
    unfold M_Light_send_157
    simp (disch := first | assumption | omega) only [wpo_bind, wpo_some, wpo_gf, wpo_gk, wpo_ld, wpo_pf, wpo_pz, wpo_sd, wpo_sr, wpo_ln, wpo_idv, wpo_irm, wpo_lrm, wpo_ldv, wpo_cpy, mlet, mnar_int, mup_same, mup_cell, mup_slot, ite_true, ite_false, true_and, and_true, eq_self, or_true, true_or, and_self, Int.reduceLT, Int.reduceLE, Int.reduceEq, Int.reduceNe, Int.reduceAdd, Int.reduceSub, Int.reduceMul, Int.reduceNeg, ne_eq, not_false_eq_true, not_true_eq_false, if_pos, if_neg, false_or, or_false, zor_inl, zor_inr, false_and, and_false, zk1, zk2, zk3, zk4, zk5, zk6, zk7, zk8, zk9, zk10, zk11, zk12, zk13, zk14, zk15, zk16, zk17, zk18, zk19, zk20, zk21, zk22, zk23, zk24, zk25, zk26, zk27, zk28, zk29, zk30, zk31, zk32, zk33, zk34, zk35, zk36, zk37, zk38, zk39, zk40, zk41, zk42, zk43, zk44, zk45, zk46, zk47, zk48, zk49, zk50, zk51, zk52, zk53, zk54, zk55, zk56, zk57, zk58, zk59, zk60, zk61, zk62, zk63, zk64, zk65, zk66, zk67, zk68, zk69, zk70, zk71, zk72, zk73, zk74, zk75, zk76, zk77, zk78, zk79, zk80, zk81, zk82, zk83, zk84, zk85, zk86, zk87, zk88, zk89, zk90, zr2_0, zr2_1, zr2_2, zr2_3, zr2_4, zr2_6, zr2_7, zr2_10, zr2_11, zr2_12, zr1_0, zr1_1, zr14_0, zr14_1, zr14_2, zr14_3, zr14_4, zr14_6, zr14_7, zr14_10, zr14_11, zr14_12, zr13_0, zr25_0, zr25_1, zr25_2, zr25_3, zr25_4, zr25_6, zr25_7, zr25_10, zr25_11, zr25_12, zr13_1, zr1_2, zr37_0, zr1_3, zr39_0, zr39_1, zr39_2, zr39_5, zr39_7, zr39_8, zr1_4, zr46_1, zr46_2, zr46_3, zr46_4, zr46_0, zr1_5, zr51_2, zr51_10, zr51_0, zr51_1, zr54_1, zr54_2, zr54_3, zr1_6, zr58_1, zr58_2, zr58_3, zr58_0, zr1_7, zr62_2, zr62_3, zr62_0, zr62_1, zr1_8, zr1_9, zr1_10, zr1_15, zr68_2, zr68_3, zr68_4, zr68_5, zr68_7, zr68_8, zr68_9, zr68_12, zr68_13, zr68_14, zr68_22, zr68_23, zr68_24, zr68_26, zr68_35, zr68_36, zr68_37, zr68_38, zr68_39, zr68_40, zr68_41, zr68_42, g3, w1, w2, p0, p1, es]
    have pl : zpl S = e + k := by unfold zpl; rw [e1, hK]
    have fin : ∀ h : Int → Int → Int, (∀ r, r ≠ 51 → h r = σ1.1 r) → (∀ i, i ≠ 14 → i ≠ 15 → i ≠ 16 → h 51 i = σ1.1 51 i) → h 51 14 = zwh S → h 51 15 = zth S → h 51 16 = zic S → zB (h, σ1.2) → zCQ D A (h, σ1.2) ∧ zFrs b σ (h, σ1.2) ∧ zRes S (h, σ1.2) := by
      intro h h1 h2 h3 h4 h5 h6
      refine ⟨zCQ_scr q1 rfl h6 (fun r hr => h1 r (by omega)), f1.trans ⟨rfl, h6, fun r _ _ x _ _ _ => h1 r x, fun i hi => h2 i (by omega) (by omega) (by omega)⟩, ?_⟩
      refine ⟨?_, ?_, ?_, h3, h4, h5, ?_, ?_⟩
      · show h 51 11 = _; rw [h2 11 (by decide) (by decide) (by decide), g11, pl]
      · show h 51 12 = _; rw [h2 12 (by decide) (by decide) (by decide), g12, hK]
      · show h 51 13 = _; rw [h2 13 (by decide) (by decide) (by decide), g13, hst]; unfold zsl; rw [hK]
      · intro j hj
        show h 53 _ = _
        rw [h1 53 (by decide), g53, e1]; exact hh j (by omega)
      · intro ht
        show h 51 9 = _
        rw [h2 9 (by decide) (by decide) (by decide), g9, hK]; exact hd (by rw [← e4]; exact ht)
    by_cases c1 : going ≠ 0 ∨ 3200 ≤ zH S k
    · rw [if_pos c1]
      have z2 := t2 c1
      refine fin _ ?_ ?_ ?_ ?_ ?_ ?_
      · intro r hr; rw [mup_fun hr, mup_fun hr, mup_fun hr]
      · intro i a1 a2 a3; rw [mup_slot a1, mup_slot a3, mup_slot a2]
      · rw [mup_same, z2]
      · unfold zth; rw [if_neg (by rw [z2]; decide)]; simp [mup]
      · unfold zic; rw [if_neg (by rw [z2]; decide)]; simp [mup]
      · exact zB_mup (zB_mup (zB_mup hB1 (by decide +kernel)) (by decide +kernel)) (by decide +kernel)
    · rw [if_neg c1]
      have c1' : going = 0 ∧ zH S k < 3200 := by omega
      by_cases c2 : zH S k - 100 * A (e + k) < 0
      · rw [if_pos c2]
        have z2 := t3 c1'.1 c1'.2 c2
        refine fin _ ?_ ?_ ?_ ?_ ?_ ?_
        · intro r hr; rw [mup_fun hr, mup_fun hr, mup_fun hr]
        · intro i a1 a2 a3; rw [mup_slot a1, mup_slot a3, mup_slot a2]
        · rw [mup_same, z2]
        · unfold zth; rw [if_neg (by rw [z2]; decide)]; simp [mup]
        · unfold zic; rw [if_neg (by rw [z2]; decide)]; simp [mup]
        · exact zB_mup (zB_mup (zB_mup hB1 (by decide +kernel)) (by decide +kernel)) (by decide +kernel)
      · rw [if_neg c2]
        have z2 := t4 c1'.1 c1'.2 c2
        refine fin _ ?_ ?_ ?_ ?_ ?_ ?_
        · intro r hr; rw [mup_fun hr, mup_fun hr, mup_fun hr, mup_fun hr, mup_fun hr]
        · intro i a1 a2 a3; rw [mup_slot a3, mup_slot a2, mup_slot a1, mup_slot a3, mup_slot a2]
        · simp [mup, z2]
        · unfold zth; rw [if_pos z2, pl, e2, ← t1 z2]; simp [mup]
        · unfold zic; rw [if_pos z2, pl, e2, hK]; simp [mup]
        · exact zB_mup (zB_mup (zB_mup (zB_mup (zB_mup hB1 (by decide +kernel)) (by decide +kernel)) (by decide +kernel)) (by decide +kernel)) (by decide +kernel)
  unfold M_Light_send_140
  have gr_iff : zgr S k ↔ zH S k < 100 * A (e + k) := by unfold zgr; rw [e1, e2]
  have sk_iff : zsk S k ↔ 3200 ≤ zH S k := Iff.rfl
  rcases hg2 with ⟨g0, gk0, ge, gw⟩ | ⟨g1, g63, gw⟩
  · -- it ended in something
    have eh : zwh S = if zH S k < 100 * A (e + k) then 0 else if 3200 ≤ zH S k then 2 else 1 := by
      unfold zwh
      rw [if_neg (by omega), hK]
      by_cases c1 : zH S k < 100 * A (e + k)
      · rw [if_pos c1, if_pos (gr_iff.mpr c1)]
      · rw [if_neg c1, if_neg (fun x => c1 (gr_iff.mp x))]
        by_cases c2 : 3200 ≤ zH S k
        · rw [if_pos c2, if_pos (sk_iff.mpr c2)]
        · rw [if_neg c2, if_neg (fun x => c2 (sk_iff.mp x))]
          have : zin S k := by
            rcases gw with x | x | x
            · exact absurd (gr_iff.mp x) c1
            · exact absurd (sk_iff.mp x) c2
            · exact x
          rw [if_pos this]
    have tn : zthc pa ≠ 51 := gn
    simp (disch := first | assumption | omega) only [wpo_bind, wpo_some, wpo_gf, wpo_gk, wpo_ld, wpo_pf, wpo_pz, wpo_sd, wpo_sr, wpo_ln, wpo_idv, wpo_irm, wpo_lrm, wpo_ldv, wpo_cpy, mlet, mnar_int, mup_same, mup_cell, mup_slot, ite_true, ite_false, true_and, and_true, eq_self, or_true, true_or, and_self, Int.reduceLT, Int.reduceLE, Int.reduceEq, Int.reduceNe, Int.reduceAdd, Int.reduceSub, Int.reduceMul, Int.reduceNeg, ne_eq, not_false_eq_true, not_true_eq_false, if_pos, if_neg, false_or, or_false, zor_inl, zor_inr, false_and, and_false, zk1, zk2, zk3, zk4, zk5, zk6, zk7, zk8, zk9, zk10, zk11, zk12, zk13, zk14, zk15, zk16, zk17, zk18, zk19, zk20, zk21, zk22, zk23, zk24, zk25, zk26, zk27, zk28, zk29, zk30, zk31, zk32, zk33, zk34, zk35, zk36, zk37, zk38, zk39, zk40, zk41, zk42, zk43, zk44, zk45, zk46, zk47, zk48, zk49, zk50, zk51, zk52, zk53, zk54, zk55, zk56, zk57, zk58, zk59, zk60, zk61, zk62, zk63, zk64, zk65, zk66, zk67, zk68, zk69, zk70, zk71, zk72, zk73, zk74, zk75, zk76, zk77, zk78, zk79, zk80, zk81, zk82, zk83, zk84, zk85, zk86, zk87, zk88, zk89, zk90, zr2_0, zr2_1, zr2_2, zr2_3, zr2_4, zr2_6, zr2_7, zr2_10, zr2_11, zr2_12, zr1_0, zr1_1, zr14_0, zr14_1, zr14_2, zr14_3, zr14_4, zr14_6, zr14_7, zr14_10, zr14_11, zr14_12, zr13_0, zr25_0, zr25_1, zr25_2, zr25_3, zr25_4, zr25_6, zr25_7, zr25_10, zr25_11, zr25_12, zr13_1, zr1_2, zr37_0, zr1_3, zr39_0, zr39_1, zr39_2, zr39_5, zr39_7, zr39_8, zr1_4, zr46_1, zr46_2, zr46_3, zr46_4, zr46_0, zr1_5, zr51_2, zr51_10, zr51_0, zr51_1, zr54_1, zr54_2, zr54_3, zr1_6, zr58_1, zr58_2, zr58_3, zr58_0, zr1_7, zr62_2, zr62_3, zr62_0, zr62_1, zr1_8, zr1_9, zr1_10, zr1_15, zr68_2, zr68_3, zr68_4, zr68_5, zr68_7, zr68_8, zr68_9, zr68_12, zr68_13, zr68_14, zr68_22, zr68_23, zr68_24, zr68_26, zr68_35, zr68_36, zr68_37, zr68_38, zr68_39, zr68_40, zr68_41, zr68_42, g0, kt, p0, p1, gn]
    rw [gt]
    rw [g0] at key
    refine key _ ?_ ?_ ?_ ?_
    · intro z1
      rw [eh] at z1
      split at z1
      · exact absurd z1 (by decide)
      · split at z1
        · exact absurd z1 (by decide)
        · rename_i c1 c2
          have : zin S k := by
            rcases gw with x | x | x
            · exact absurd (gr_iff.mp x) c1
            · exact absurd (sk_iff.mp x) c2
            · exact x
          rw [if_pos (by rw [← e3]; exact this.1)]
    · intro x
      rcases x with x | x
      · exact absurd rfl x
      · rw [eh, if_neg (by omega), if_pos x]
    · intro _ x y; rw [eh, if_pos (by omega)]
    · intro _ x y; rw [eh, if_neg (by omega), if_neg (by omega)]
  · have eh : zwh S = 2 := by
      unfold zwh
      by_cases c : ze S = 63
      · rw [if_pos c]
      · rw [if_neg c, hK]
        have : k ≠ 0 := by intro x; rw [x] at g63; exact c (by simpa using g63)
        rcases gw with x | ⟨x, y, z⟩
        · exact absurd x this
        · rw [if_neg x, if_neg y, if_neg z]
    simp (disch := first | assumption | omega) only [wpo_bind, wpo_some, wpo_gf, wpo_gk, wpo_ld, wpo_pf, wpo_pz, wpo_sd, wpo_sr, wpo_ln, wpo_idv, wpo_irm, wpo_lrm, wpo_ldv, wpo_cpy, mlet, mnar_int, mup_same, mup_cell, mup_slot, ite_true, ite_false, true_and, and_true, eq_self, or_true, true_or, and_self, Int.reduceLT, Int.reduceLE, Int.reduceEq, Int.reduceNe, Int.reduceAdd, Int.reduceSub, Int.reduceMul, Int.reduceNeg, ne_eq, not_false_eq_true, not_true_eq_false, if_pos, if_neg, false_or, or_false, zor_inl, zor_inr, false_and, and_false, zk1, zk2, zk3, zk4, zk5, zk6, zk7, zk8, zk9, zk10, zk11, zk12, zk13, zk14, zk15, zk16, zk17, zk18, zk19, zk20, zk21, zk22, zk23, zk24, zk25, zk26, zk27, zk28, zk29, zk30, zk31, zk32, zk33, zk34, zk35, zk36, zk37, zk38, zk39, zk40, zk41, zk42, zk43, zk44, zk45, zk46, zk47, zk48, zk49, zk50, zk51, zk52, zk53, zk54, zk55, zk56, zk57, zk58, zk59, zk60, zk61, zk62, zk63, zk64, zk65, zk66, zk67, zk68, zk69, zk70, zk71, zk72, zk73, zk74, zk75, zk76, zk77, zk78, zk79, zk80, zk81, zk82, zk83, zk84, zk85, zk86, zk87, zk88, zk89, zk90, zr2_0, zr2_1, zr2_2, zr2_3, zr2_4, zr2_6, zr2_7, zr2_10, zr2_11, zr2_12, zr1_0, zr1_1, zr14_0, zr14_1, zr14_2, zr14_3, zr14_4, zr14_6, zr14_7, zr14_10, zr14_11, zr14_12, zr13_0, zr25_0, zr25_1, zr25_2, zr25_3, zr25_4, zr25_6, zr25_7, zr25_10, zr25_11, zr25_12, zr13_1, zr1_2, zr37_0, zr1_3, zr39_0, zr39_1, zr39_2, zr39_5, zr39_7, zr39_8, zr1_4, zr46_1, zr46_2, zr46_3, zr46_4, zr46_0, zr1_5, zr51_2, zr51_10, zr51_0, zr51_1, zr54_1, zr54_2, zr54_3, zr1_6, zr58_1, zr58_2, zr58_3, zr58_0, zr1_7, zr62_2, zr62_3, zr62_0, zr62_1, zr1_8, zr1_9, zr1_10, zr1_15, zr68_2, zr68_3, zr68_4, zr68_5, zr68_7, zr68_8, zr68_9, zr68_12, zr68_13, zr68_14, zr68_22, zr68_23, zr68_24, zr68_26, zr68_35, zr68_36, zr68_37, zr68_38, zr68_39, zr68_40, zr68_41, zr68_42, g1]
    rw [g1] at key
    refine key _ ?_ ?_ ?_ ?_
    · intro x; rw [eh] at x; exact absurd x (by decide)
    · intro _; exact eh
    · intro x; exact absurd x (by decide)
    · intro x; exact absurd x (by decide)
