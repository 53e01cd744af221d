/-! the small machine is sound -/
section Whole
variable {l : Launch} {D : va_G} {A : Nat → Prop} {ro : Int → Nat} {h0 : Int → Int → Int} {sh0 : Int → Int × Int} {p : Program} {e : Env} {R : Room} {s : State} {m : MethodId} {args : Array Value} {below : List Frame} {meth : Method} {c : Code} {Q : State → Prop} {n0 t0 : Int} {ad0 : List Nat} {k i : Nat} {L st : List mV} {σ : mS} {N : Nat → List mV → List mV → mS → Option (Int × mS)} {z : Int × mS} {ins : Instr} {len a b : Nat} {x : Int} {t : List (Int × Nat)}
theorem ms_21 (hE : mEnd l D A ro h0 sh0 p e R s m args below meth c Q n0 t0 ad0 k z.1 z.2) (hd : decode (mBy k) (mPc k i) = .ok (ins, len)) (hck : mck21 k i ins len a b x t = true) (h : (match (generalizing := false) a, st with
    | 0, [] => some (0, σ)
    | 4, [(1, v)] => if v = 0 ∨ v = 1 then some (v, σ) else none
    | 1, [(1, v)] => some (v, σ)
    | 2, [(2, v)] => some (v, σ)
    | 3, [(3, v)] => some (v, σ)
    | _, _ => none) = some z) : (mNp l D A ro h0 sh0 p e R s m args below meth c Q n0 t0 ad0 k (mPc k i) (L) (st) (σ)) := by
  intro g1 g2 H locs ls ws tys hB
  unfold mck21 at hck
  split at hck
  · rw [Bool.and_eq_true] at hck
    have e1 := Nat.eq_of_beq_eq_true hck.1
    have e2 := Nat.eq_of_beq_eq_true hck.2
    subst e1
    split at h <;> first | (cases h; done) | contradiction | skip
    cases h
    have h5 := hE H locs (mPc k i) ls ws tys (by rw [e2]; exact hd) (by rw [e2]; decide) hB.1 hB.2.1 hB.2.2.2.2.2 (by rw [e2]; trivial)
    rw [e2] at h5
    exact h5
  · rw [Bool.and_eq_true] at hck
    have e1 := Nat.eq_of_beq_eq_true hck.1
    have e2 := Nat.eq_of_beq_eq_true hck.2
    subst e1
    split at h <;> first | (cases h; done) | contradiction | skip
    cases h
    have h5 := hE H locs (mPc k i) ls ws tys (by rw [e2]; exact hd) (by rw [e2]; decide) hB.1 hB.2.1 hB.2.2.2.2.2 (by rw [e2]; exact hB.top)
    rw [e2] at h5
    exact h5
  · rw [Bool.and_eq_true] at hck
    have e1 := Nat.eq_of_beq_eq_true hck.1
    have e2 := Nat.eq_of_beq_eq_true hck.2
    subst e1
    split at h <;> first | (cases h; done) | contradiction | skip
    split at h
    · rename_i hv
      cases h
      have h5 := hE H locs (mPc k i) ls ws tys (by rw [e2]; exact hd) (by rw [e2]; decide) hB.1 hB.2.1 hB.2.2.2.2.2 (by rw [e2]; exact hv)
      rw [e2] at h5
      exact h5
    · cases h
  · rw [Bool.and_eq_true] at hck
    have e1 := Nat.eq_of_beq_eq_true hck.1
    have e2 := Nat.eq_of_beq_eq_true hck.2
    subst e1
    split at h <;> first | (cases h; done) | contradiction | skip
    cases h
    have h5 := hE H locs (mPc k i) ls ws tys (by rw [e2]; exact hd) (by rw [e2]; decide) hB.1 hB.2.1 hB.2.2.2.2.2 (by rw [e2]; exact hB.top)
    rw [e2] at h5
    exact h5
  · rw [Bool.and_eq_true] at hck
    have e1 := Nat.eq_of_beq_eq_true hck.1
    have e2 := Nat.eq_of_beq_eq_true hck.2
    subst e1
    split at h <;> first | (cases h; done) | contradiction | skip
    cases h
    have h5 := hE H locs (mPc k i) ls ws tys (by rw [e2]; exact hd) (by rw [e2]; decide) hB.1 hB.2.1 hB.2.2.2.2.2 (by rw [e2]; exact hB.top)
    rw [e2] at h5
    exact h5
  · cases hck
theorem mrs_ok {rt : Option FieldType} (h : mrs rt = 0 ∨ mrs rt = 1 ∨ mrs rt = 2 ∨ mrs rt = 3) : (mrt rt = 0 ∨ mrt rt = 1 ∨ mrt rt = 2 ∨ mrt rt = 3 ∨ mrt rt = 4) ∧ (mrs rt).toNat = (if mrt rt = 4 then 1 else mrt rt) := by
  cases rt with
  | none => exact ⟨Or.inl rfl, rfl⟩
  | some ty => cases ty <;> simp [mrs, mrt] at h ⊢
theorem mrs_all : ∀ a, a < 242 → (mrs (mRt a) = 0 ∨ mrs (mRt a) = 1 ∨ mrs (mRt a) = 2 ∨ mrs (mRt a) = 3) := by decide +kernel
theorem take_len {st : List mV} {b : Nat} (h : ((st.take b).length.beq b) = true) : (st.take b).reverse.length = b := by
  rw [List.length_reverse]; exact Nat.eq_of_beq_eq_true h
theorem take_app {st as : List mV} {b : Nat} (h : (st.take b).reverse = as) : st = as.reverse ++ st.drop b := by
  rw [← h, List.reverse_reverse, List.take_append_drop]
theorem gd_spec {a : Nat} {kd : Int} (h : mgd a kd = true) : ∃ q, mCl[(kd - 1).toNat]? = some q ∧ (mYn a).cls = q.1 ∧ 1 ≤ kd := by
  unfold mgd at h
  cases hc : mCl[(kd - 1).toNat]? with
  | none => rw [hc] at h; cases h
  | some q =>
    obtain ⟨C, T, M⟩ := q
    rw [hc] at h
    simp only [Bool.and_eq_true, decide_eq_true_eq] at h
    exact ⟨(C, T, M), rfl, h.1, h.2⟩
theorem ms_20 {n d : Nat} (ih : mWL l D A ro h0 sh0 n) (cx : mCx k p s m args meth c) (kw : mKW A ro h0 sh0 s) (hA : ∀ q, s.heap.size ≤ q → A q) (nxt : ∀ (i : Nat) (L st : List mV) (σ1 : mS), N i L st σ1 = some z → NN σ1 → 0 ≤ σ1.2.2.1 → (mNp l D A ro h0 sh0 p e R s m args below meth c Q n0 t0 ad0 k (mPc k i) (L) (st) (σ1))) (hgr : ∀ i L st σ1, N i L st σ1 = some z → leS σ1 z.2) (hf : d + 8 ≤ R.frames) (hlo : 64 * (d + 8) ≤ R.locals) (hcR : (z.2.2.2.1 - n0).toNat ≤ R.cells) (hsR : (z.2.2.2.2 - t0).toNat ≤ R.slots) (hNN : NN σ) (hnn : 0 ≤ σ.2.2.1) {C : Nat → List mV → mS → Option (Int × mS)} (hC : ∀ a as pr, C a as σ = some pr → ∃ d', d = d' + 1 ∧ (mexp as).length ≤ (mProg a).2 ∧ mgr mProg n d' a 0 (mInit (mProg a).2 as) [] σ = some pr) (hd : decode (mBy k) (mPc k i) = .ok (ins, len)) (hck : mck20 k i ins len a b x t = true)
    (h : cond ((mcat (st.drop b)).ble 8 && (st.take b).length.beq b) (match t, (st.take b).reverse with
    | [], as => (C a as σ).bind fun p => N (i + 1) L (mpush x.toNat p.1 (st.drop b)) p.2
    | (kd, _) :: _, (3, r) :: as => (gk kd r σ).bind fun _ => (C a ((3, r) :: as) σ).bind fun p => N (i + 1) L (mpush x.toNat p.1 (st.drop b)) p.2
    | _, _ => none) none = some z) : (mNp l D A ro h0 sh0 p e R s m args below meth c Q n0 t0 ad0 k (mPc k i) (L) (st) (σ)) := by
  obtain ⟨h8, h⟩ := cond_some h
  rw [Bool.and_eq_true] at h8
  have hcat := Nat.le_of_ble_eq_true h8.1
  have htl := take_len h8.2
  unfold mck20 at hck
  split at hck
  · rename_i ix kd kd2 tl
    simp only [Bool.and_eq_true, Bool.not_eq_true', decide_eq_false_iff_not, decide_eq_true_eq] at hck
    obtain ⟨⟨⟨⟨⟨⟨c1, c2⟩, c3⟩, c4⟩, c5⟩, c6⟩, c7⟩ := hck
    obtain ⟨e1, e2⟩ := mnx_spec c4
    have hV : a ∈ mVi := List.contains_iff_mem.mp c1
    obtain ⟨q, q1, q2, q3⟩ := gd_spec c3
    cases has : (st.take b).reverse with
    | nil => rw [has] at h; cases h
    | cons v as =>
      rw [has] at h htl
      obtain ⟨tv, r0⟩ := v
      split at h
      · rename_i heq; cases heq
      · rename_i kd' _ _ r1 as1 heq1 heq2
        cases heq1
        cases heq2
        obtain ⟨u1, h1, h2⟩ := bind_some h
        obtain ⟨pr, h3, h4⟩ := bind_some h2
        unfold gk at h1
        split at h1
        · rename_i hkd
          obtain ⟨d', rfl, hlen, hgo⟩ := hC _ _ _ h3
          obtain ⟨r, σ'⟩ := pr
          have hle := (mgr_leS n d' a 0 _ [] σ (r, σ') hgo) hNN
          have hle2 := hgr _ _ _ _ h4 hle.1
          have ha := lt_V a hV
          have hms := mrs_ok (mrs_all a ha)
          rw [← c7, hms.2] at h4
          have hN := nxt _ _ _ _ h4 hle.1 (Int.le_trans hnn hle.2.1)
          subst e1; rw [e2] at hN
          have hst := take_app has
          rw [hst]
          have hb := Nat.eq_of_beq_eq_true c6
          exact wr_callV (d := d') cx kw hA q1 (by rw [hkd]; omega) q2 hd (ml_spec c5) (mfn_V a hV) (mfv_ok a hV) c2 (by rw [List.length_cons] at htl; omega) (fun hok ad => mMet ih hgo ha (mfn_V a hV) hlen hNN hnn hok ad) hle.2.1 hle.2.2 (by omega) (by omega) (by dsimp only at hle2 ⊢; omega) (by dsimp only at hle2 ⊢; omega) hcat hms.1 hN
        · cases h1
      · cases h
  · simp only [Bool.and_eq_true, decide_eq_true_eq] at hck
    obtain ⟨⟨⟨⟨c1, c4⟩, c5⟩, c6⟩, c7⟩ := hck
    obtain ⟨e1, e2⟩ := mnx_spec c4
    have hV : a ∈ mSt := List.contains_iff_mem.mp c1
    dsimp only at h
    obtain ⟨pr, h3, h4⟩ := bind_some h
    obtain ⟨d', rfl, hlen, hgo⟩ := hC _ _ _ h3
    obtain ⟨r, σ'⟩ := pr
    have hle := (mgr_leS n d' a 0 _ [] σ (r, σ') hgo) hNN
    have hle2 := hgr _ _ _ _ h4 hle.1
    have ha := lt_S a hV
    have hms := mrs_ok (mrs_all a ha)
    rw [← c7, hms.2] at h4
    have hN := nxt _ _ _ _ h4 hle.1 (Int.le_trans hnn hle.2.1)
    subst e1; rw [e2] at hN
    have hst := take_app (st := st) (b := b) rfl
    have hb := Nat.eq_of_beq_eq_true c6
    rw [hst]
    exact wr_callS (d := d') cx kw hA hd (ml_spec c5) (mfn_S a hV) (mfs_ok a hV) (by omega) (fun hok ad => mMet ih hgo ha (mfn_S a hV) hlen hNN hnn hok ad) hle.2.1 hle.2.2 (by omega) (by omega) (by dsimp only at hle2 ⊢; omega) (by dsimp only at hle2 ⊢; omega) hcat hms.1 hN
  · rename_i ix kd kd2 tl
    simp only [Bool.and_eq_true, Bool.or_eq_true, decide_eq_true_eq] at hck
    obtain ⟨⟨⟨⟨⟨⟨⟨c1, c3⟩, c4⟩, c5⟩, c6⟩, c7⟩, c8⟩, c9⟩ := hck
    obtain ⟨e1, e2⟩ := mnx_spec c4
    have hV : a ∈ mVi := List.contains_iff_mem.mp c1
    obtain ⟨q, q1, q2, q3⟩ := gd_spec c3
    cases has : (st.take b).reverse with
    | nil => rw [has] at h; cases h
    | cons v as =>
      rw [has] at h htl
      obtain ⟨tv, r0⟩ := v
      split at h
      · rename_i heq; cases heq
      · rename_i kd' _ _ r1 as1 heq1 heq2
        cases heq1
        cases heq2
        obtain ⟨u1, h1, h2⟩ := bind_some h
        obtain ⟨pr, h3, h4⟩ := bind_some h2
        unfold gk at h1
        split at h1
        · rename_i hkd
          obtain ⟨d', rfl, hlen, hgo⟩ := hC _ _ _ h3
          obtain ⟨r, σ'⟩ := pr
          have hle := (mgr_leS n d' a 0 _ [] σ (r, σ') hgo) hNN
          have hle2 := hgr _ _ _ _ h4 hle.1
          have ha := lt_V a hV
          have hms := mrs_ok (mrs_all a ha)
          have hx : x = mrs (mRt a) := by rw [c8, c7]; rfl
          rw [hx, hms.2] at h4
          have hN := nxt _ _ _ _ h4 hle.1 (Int.le_trans hnn hle.2.1)
          subst e1; rw [e2] at hN
          have hst := take_app has
          rw [hst]
          have hb := Nat.eq_of_beq_eq_true c6
          exact wr_callI (d := d') cx kw hA q1 (by rw [hkd]; omega) hd (c5.imp ml_spec List.contains_iff_mem.mp) (mfn_V a hV) (mfv_ok a hV) c9 c7 (by rw [List.length_cons] at htl; omega) (fun hok ad => mMet ih hgo ha (mfn_V a hV) hlen hNN hnn hok ad) hle.2.1 hle.2.2 (by omega) (by omega) (by dsimp only at hle2 ⊢; omega) (by dsimp only at hle2 ⊢; omega) hcat hms.1 hN
        · cases h1
      · cases h
  · cases hck
end Whole
section Whole2
variable {l : Launch} {D : va_G} {A : Nat → Prop} {ro : Int → Nat} {h0 : Int → Int → Int} {sh0 : Int → Int × Int}
set_option maxHeartbeats 4000000 in
theorem mWL_all : ∀ n, mWL l D A ro h0 sh0 n := by
  intro n
  induction n with
  | zero => intro d k i L st σ r σ' h; cases h
  | succ n ih =>
    intro d k i L st σ r σ' h hk p e R s m args below meth c Q n0 t0 ad0 cx kw hA hf hlo hcR hsR hNN hnn hE
    unfold mgr at h
    cases hmi : (mProg k).1[i]? with
    | none => rw [hmi] at h; cases h
    | some mi =>
      rw [hmi] at h
      obtain ⟨ins, len, hd, hck⟩ := mok_at hk hmi
      have nxt : ∀ (i : Nat) (L st : List mV) (σ1 : mS), mgr mProg n d k i L st σ1 = some (r, σ') → NN σ1 → 0 ≤ σ1.2.2.1 → (mNp l D A ro h0 sh0 p e R s m args below meth c Q n0 t0 ad0 k (mPc k i) (L) (st) (σ1)) := fun i L st σ1 h1 h2 h3 => ih d k i L st σ1 r σ' h1 hk p e R s m args below meth c Q n0 t0 ad0 cx kw hA hf hlo hcR hsR h2 h3 hE
      have hgr : ∀ (i : Nat) (L st : List mV) (σ1 : mS), mgr mProg n d k i L st σ1 = some (r, σ') → leS σ1 (r, σ').2 := fun i L st σ1 h1 => mgr_leS n d k i L st σ1 (r, σ') h1
      have hf8 : 8 ≤ R.frames := by omega
      have hlo8 : 512 ≤ R.locals := by omega
      obtain ⟨op, a, b, x, t⟩ := mi
      match op, h, hck with
      | 0, h, hck => exact ms_0 (a := a) (b := b) (x := x) (t := t) cx kw nxt hNN hnn hd hck h
      | 1, h, hck =>
        simp only [mstep] at h
        split at h
        · rename_i tv v hl
          obtain ⟨hb, h⟩ := cond_some h
          exact ms_1 (x := x) cx nxt hNN hnn hd hck hl hb h
        · cases h
      | 2, h, hck =>
        simp only [mstep] at h
        split at h
        · obtain ⟨hb, h⟩ := cond_some h
          rw [Bool.and_eq_true] at hb
          have e1 := Nat.eq_of_beq_eq_true hb.1
          subst e1
          exact ms_2 (x := x) cx nxt hNN hnn hd hck (Nat.blt_eq.mp hb.2) h
        · cases h
      | 3, h, hck =>
        simp only [mstep] at h
        split at h
        · rename_i v hl
          exact ms_3 (a := a) (b := b) (x := x) (t := t) cx nxt hNN hnn hd hck hl h
        · cases h
      | 4, h, hck =>
        simp only [mstep] at h
        split at h
        · exact ms_4 (a := a) (b := b) (x := x) (t := t) cx nxt hNN hnn hd hck h
        · cases h
      | 5, h, hck =>
        simp only [mstep] at h
        split at h
        · exact ms_5 (a := a) (b := b) (x := x) (t := t) cx nxt hNN hnn hd hck h
        · cases h
      | 6, h, hck => exact ms_6 (a := a) (b := b) (x := x) (t := t) cx nxt hNN hnn hd hck h
      | 7, h, hck =>
        simp only [mstep] at h
        split at h
        · exact ms_7 (a := a) (b := b) (x := x) (t := t) cx nxt hNN hnn hd hck h
        · cases h
      | 8, h, hck =>
        simp only [mstep] at h
        split at h
        · exact ms_8 (a := a) (b := b) (x := x) (t := t) cx nxt hNN hnn hd hck h
        · cases h
      | 9, h, hck => exact ms_9 (a := a) (b := b) (x := x) (t := t) cx nxt hNN hnn hd hck h
      | 10, h, hck =>
        simp only [mstep] at h
        split at h
        · exact ms_10 (a := a) (b := b) (x := x) (t := t) cx nxt hNN hnn hd hck h
        · cases h
      | 11, h, hck =>
        simp only [mstep] at h
        split at h
        · exact ms_11 (a := a) (b := b) (x := x) (t := t) cx nxt hNN hnn hd hck h
        · cases h
      | 12, h, hck =>
        simp only [mstep] at h
        split at h
        · exact ms_12 (a := a) (b := b) (x := x) (t := t) cx nxt hNN hnn hd hck h
        · cases h
      | 13, h, hck =>
        simp only [mstep] at h
        split at h
        · exact ms_13 (a := a) (b := b) (x := x) (t := t) cx kw nxt hNN hnn hd hck h
        · cases h
      | 14, h, hck => exact ms_14 (a := a) (b := b) (x := x) (t := t) cx kw nxt hNN hnn hd hck h
      | 15, h, hck =>
        simp only [mstep] at h
        split at h
        · exact ms_15 (a := a) (b := b) (x := x) (t := t) cx kw nxt hNN hnn hd hck h
        · cases h
      | 16, h, hck => exact ms_16 (a := a) (b := b) (x := x) (t := t) cx kw nxt hNN hnn hd hck h
      | 17, h, hck =>
        simp only [mstep] at h
        split at h
        · exact ms_17 (a := a) (b := b) (x := x) (t := t) cx kw nxt hNN hnn hd hck h
        · cases h
      | 18, h, hck => exact ms_18 (a := a) (b := b) (x := x) (t := t) cx hA nxt hgr hcR hsR hNN hnn hd hck h
      | 19, h, hck =>
        simp only [mstep] at h
        split at h
        · exact ms_19 (a := a) (b := b) (x := x) (t := t) cx kw hA nxt hgr hcR hsR hNN hnn hd hck h
        · cases h
      | 20, h, hck =>
        simp only [mstep] at h
        refine ms_20 (a := a) (b := b) (x := x) (t := t) (C := fun k' as σ => match (generalizing := false) d with
          | 0 => none
          | d' + 1 => cond ((mexp as).length.ble (mProg k').2) (mgr mProg n d' k' 0 (mInit (mProg k').2 as) [] σ) none) ih cx kw hA nxt hgr hf hlo hcR hsR hNN hnn ?_ hd hck h
        intro a' as pr hp
        cases d with
        | zero => cases hp
        | succ d' =>
          obtain ⟨h1, h2⟩ := cond_some hp
          exact ⟨d', rfl, Nat.le_of_ble_eq_true h1, h2⟩
      | 21, h, hck => exact ms_21 (a := a) (b := b) (x := x) (t := t) (z := (r, σ')) hE hd hck h
      | 22, h, hck => exact ms_22 (a := a) (b := b) (x := x) (t := t) cx nxt hNN hnn hd hck h
      | 23, h, hck =>
        simp only [mstep] at h
        split at h
        · exact ms_23 (a := a) (b := b) (x := x) (t := t) cx kw nxt hf8 hlo8 hNN hnn hd hck h
        · cases h
      | 24, h, hck =>
        simp only [mstep] at h
        split at h
        · exact ms_24 (a := a) (b := b) (x := x) (t := t) cx kw nxt hf8 hlo8 hNN hnn hd hck h
        · cases h
      | 25, h, hck =>
        simp only [mstep] at h
        split at h
        · exact ms_25 (a := a) (b := b) (x := x) (t := t) cx kw nxt hf8 hlo8 hcR hsR hgr hNN hnn hd hck h
        · cases h
      | 26, h, hck =>
        simp only [mstep] at h
        split at h
        · exact ms_26 (a := a) (b := b) (x := x) (t := t) cx kw nxt hf8 hlo8 hcR hsR hgr hNN hnn hd hck h
        · cases h
      | 27, h, hck =>
        simp only [mstep] at h
        split at h
        · exact ms_27 (a := a) (b := b) (x := x) (t := t) cx kw hA nxt hgr hcR hsR hf8 hlo8 hNN hnn hd hck h
        · cases h
      | 28, h, hck =>
        simp only [mstep] at h
        split at h
        · exact ms_28 (a := a) (b := b) (x := x) (t := t) cx nxt hNN hnn hd hck h
        · cases h
      | 29, h, hck => exact ms_29 (a := a) (b := b) (x := x) (t := t) cx nxt hgr hcR hsR hf8 hlo8 hNN hnn hd hck h
      | j + 30, h, hck => cases hck
end Whole2
