/-! the three kinds of call -/
theorem room_ok {d' F Lo M : Nat} (h1 : d' + 1 + 8 ≤ F) (h2 : 64 * (d' + 1 + 8) ≤ Lo) (h3 : M ≤ 40) : d' + 8 + 1 ≤ F ∧ 8 + (M + 11) + 64 * (d' + 8) ≤ Lo := by omega
section Calls3
variable {l : Launch} {D : va_G} {A : Nat → Prop} {ro : Int → Nat} {h0 : Int → Int → Int} {sh0 : Int → Int × Int} {p : Program} {e : Env} {R : Room} {s : State} {m : MethodId} {args : Array Value} {below : List Frame} {meth : Method} {c : Code} {Q : State → Prop} {n0 t0 : Int} {ad0 : List Nat} {k : Nat} {L st : List mV} {σ σ' : mS} {pc d a ix : Nat} {as : List mV} {r : Int}
theorem wr_callS (cx : mCx k p s m args meth c) (kw : mKW A ro h0 sh0 s) (hA : ∀ q, s.heap.size ≤ q → A q) (hd : decode (mBy k) pc = .ok (.invokestatic ix, 3)) (hl : Cond.methodLink (mO (mI0 k).1) ix (mYn a) ∈ lw_g) (hfn : mfn a = true) (hfs : mfs a = true) (hlen : as.length = mparN a) (hM : (∀ v ∈ as, okV σ.2.2.1 v) → ∀ ad, Met l (mYn a) (wsk a) (rmk d σ σ') (Pck D A ro h0 sh0 ad as σ) (Qck D A ro h0 sh0 ad (mrt (mRt a)) r σ') (σ'.2.2.1 - σ.2.2.1).toNat (σ'.2.2.2 - σ.2.2.2).toNat A)
    (hnx : σ.2.2.1 ≤ σ'.2.2.1) (htt : σ.2.2.2 ≤ σ'.2.2.2) (hf : d + 1 + 8 ≤ R.frames) (hlo : 64 * (d + 1 + 8) ≤ R.locals) (hcR : (σ'.2.2.1 - n0).toNat ≤ R.cells) (hsR : (σ'.2.2.2 - t0).toNat ≤ R.slots) (h8 : mcat st ≤ 8) (ht : mrt (mRt a) = 0 ∨ mrt (mRt a) = 1 ∨ mrt (mRt a) = 2 ∨ mrt (mRt a) = 3 ∨ mrt (mRt a) = 4) (hn : (mNp l D A ro h0 sh0 p e R s m args below meth c Q n0 t0 ad0 k (pc + 3) (L) (mpush (if mrt (mRt a) = 4 then 1 else mrt (mRt a)) r st) (σ'))) : (mNp l D A ro h0 sh0 p e R s m args below meth c Q n0 t0 ad0 k (pc) (L) (as.reverse ++ st) (σ)) := by
  obtain ⟨f1, f2, f3, f4, f5, f6, f7, f8, f9⟩ := mfn_spec hfn
  refine wr_run (a := a) (arr := fun _ => #[]) hnx htt ht (fun H locs ls ws tys hB => hB.st' (fun v hv => hB.ok v (List.mem_append_right _ hv))) (fun g1 g2 H locs ls ws tys hB => ?_) hn
  have hBs := hB.st' (st' := st) (fun v hv => hB.ok v (List.mem_append_right _ hv))
  have hM1 := hM (fun v hv => hB.ok v (List.mem_append_left _ (List.mem_reverse.mpr hv))) (mAd ws)
  have hrm := room_ok hf hlo f7
  exact va_runS (As := as.map (encV (mAd ws) ro)) (rest := st.map (encV (mAd ws) ro)) (own := mO (mI0 k).1) ⟨cx.1, cx.2.1, cx.2.2.1, cx.2.2.2.1, cx.2.2.2.2.1⟩ hM1 ⟨callB_of (mparN a) cx.2.2.2.2.1 (good_g (fun w hw => (List.mem_cons.mp hw).elim (fun q => by rw [q]; exact f4) id)) rfl rfl rfl (cx.2.2.2.2.1 _ f5) (cx.2.2.2.2.1 _ hl) ⟨f2, f3, f8⟩ hrm, cx.2.2.2.2.1 _ (mfs_spec hfs)⟩ ⟨Pck.blind, fun U hU hW => Pck.at kw hA hB U hU hW⟩ rfl (by rw [List.length_map]; exact hlen) (by rw [← cx.2.2.1]; exact (hB.siz cx).symm) (by show (as.reverse ++ st).map _ = _; rw [List.map_append, List.map_reverse]) (by show 2 * 0 + _ ≤ 8; rw [hBs.cat]; omega) hd ⟨by omega, by omega⟩
theorem wr_callV (cx : mCx k p s m args meth c) (kw : mKW A ro h0 sh0 s) (hA : ∀ q, s.heap.size ≤ q → A q) {r0 : Int} {ci : Nat} {q : vw_C} (hc : mCl[ci]? = some q) (hk : (σ.2.1 r0).1 = (ci : Int) + 1) (hcls : (mYn a).cls = q.1) (hd : decode (mBy k) pc = .ok (.invokevirtual ix, 3)) (hl : Cond.methodLink (mO (mI0 k).1) ix (mYn a) ∈ lw_g) (hfn : mfn a = true) (hfv : mfv a = true) (hni : (mYn a).name ≠ "<init>") (hlen : as.length = mparN a) (hM : (∀ v ∈ (3, r0) :: as, okV σ.2.2.1 v) → ∀ ad, Met l (mYn a) (wsk a) (rmk d σ σ') (Pck D A ro h0 sh0 ad ((3, r0) :: as) σ) (Qck D A ro h0 sh0 ad (mrt (mRt a)) r σ') (σ'.2.2.1 - σ.2.2.1).toNat (σ'.2.2.2 - σ.2.2.2).toNat A)
    (hnx : σ.2.2.1 ≤ σ'.2.2.1) (htt : σ.2.2.2 ≤ σ'.2.2.2) (hf : d + 1 + 8 ≤ R.frames) (hlo : 64 * (d + 1 + 8) ≤ R.locals) (hcR : (σ'.2.2.1 - n0).toNat ≤ R.cells) (hsR : (σ'.2.2.2 - t0).toNat ≤ R.slots) (h8 : mcat st ≤ 8) (ht : mrt (mRt a) = 0 ∨ mrt (mRt a) = 1 ∨ mrt (mRt a) = 2 ∨ mrt (mRt a) = 3 ∨ mrt (mRt a) = 4) (hn : (mNp l D A ro h0 sh0 p e R s m args below meth c Q n0 t0 ad0 k (pc + 3) (L) (mpush (if mrt (mRt a) = 4 then 1 else mrt (mRt a)) r st) (σ'))) : (mNp l D A ro h0 sh0 p e R s m args below meth c Q n0 t0 ad0 k (pc) (L) (((3, r0) :: as).reverse ++ st) (σ)) := by
  obtain ⟨f1, f2, f3, f4, f5, f6, f7, f8, f9⟩ := mfn_spec hfn
  obtain ⟨v1, v2⟩ := mfv_spec hfv
  have v3 : Cond.selects q.1 (mYn a) (mYn a) ∈ lw_g := by rw [← hcls]; exact v2.resolve_left hni
  refine wr_run (a := a) (arr := fun _ => #[]) hnx htt ht (fun H locs ls ws tys hB => hB.st' (fun v hv => hB.ok v (List.mem_append_right _ hv))) (fun g1 g2 H locs ls ws tys hB => ?_) hn
  have hBs := hB.st' (st' := st) (fun v hv => hB.ok v (List.mem_append_right _ hv))
  have hM1 := hM (fun v hv => hB.ok v (List.mem_append_left _ (List.mem_reverse.mpr hv))) (mAd ws)
  have hrm := room_ok hf hlo f7
  obtain ⟨-, -, -, ar, hw, he, -⟩ := hB.1.obj kw hc hk
  exact va_runV (C := q.1) (b := ar) (As := as.map (encV (mAd ws) ro)) (rest := st.map (encV (mAd ws) ro)) (own := mO (mI0 k).1) ⟨cx.1, cx.2.1, cx.2.2.1, cx.2.2.2.1, cx.2.2.2.2.1⟩ hM1 ⟨callB_of (mparN a) cx.2.2.2.2.1 (good_g (fun w hw => (List.mem_cons.mp hw).elim (fun q => by rw [q]; exact f4) id)) rfl rfl rfl (cx.2.2.2.2.1 _ f5) (cx.2.2.2.2.1 _ hl) ⟨f2, f3, f8⟩ hrm, cx.2.2.2.2.1 _ v1, cx.2.2.2.2.1 _ v3⟩ ⟨Pck.blind, va_recv hB.1.2.2.2.1 hB.1.2.1 hc hw, fun U hU hW => by
      have h9 := Pck.at (as := (3, r0) :: as) kw hA hB U hU hW
      rw [List.map_cons, encV3 he] at h9
      exact h9⟩ rfl (by rw [List.length_map]; exact hlen) (by rw [← cx.2.2.1]; exact (hB.siz cx).symm) (by show (((3, r0) :: as).reverse ++ st).map _ = _; rw [List.map_append, List.reverse_cons, List.map_append, List.map_reverse, List.map_cons, List.map_nil, encV3 he, List.append_assoc]; rfl) (by show 2 * 0 + _ ≤ 8; rw [hBs.cat]; omega) hd ⟨by omega, by omega⟩
theorem wr_callI (cx : mCx k p s m args meth c) (kw : mKW A ro h0 sh0 s) (hA : ∀ q, s.heap.size ≤ q → A q) {r0 : Int} {ci : Nat} {q : vw_C} (hc : mCl[ci]? = some q) (hk : (σ.2.1 r0).1 = (ci : Int) + 1) (hd : decode (mBy k) pc = .ok (.invokespecial ix, 3)) (hl : Cond.methodLink (mO (mI0 k).1) ix (mYn a) ∈ lw_g ∨ ((mI0 k).1, ix, a) ∈ mTl) (hfn : mfn a = true) (hfv : mfv a = true) (hni : (mYn a).name = "<init>") (hrt : mRt a = none) (hlen : as.length = mparN a) (hM : (∀ v ∈ (3, r0) :: as, okV σ.2.2.1 v) → ∀ ad, Met l (mYn a) (wsk a) (rmk d σ σ') (Pck D A ro h0 sh0 ad ((3, r0) :: as) σ) (Qck D A ro h0 sh0 ad (mrt (mRt a)) r σ') (σ'.2.2.1 - σ.2.2.1).toNat (σ'.2.2.2 - σ.2.2.2).toNat A)
    (hnx : σ.2.2.1 ≤ σ'.2.2.1) (htt : σ.2.2.2 ≤ σ'.2.2.2) (hf : d + 1 + 8 ≤ R.frames) (hlo : 64 * (d + 1 + 8) ≤ R.locals) (hcR : (σ'.2.2.1 - n0).toNat ≤ R.cells) (hsR : (σ'.2.2.2 - t0).toNat ≤ R.slots) (h8 : mcat st ≤ 8) (ht : mrt (mRt a) = 0 ∨ mrt (mRt a) = 1 ∨ mrt (mRt a) = 2 ∨ mrt (mRt a) = 3 ∨ mrt (mRt a) = 4) (hn : (mNp l D A ro h0 sh0 p e R s m args below meth c Q n0 t0 ad0 k (pc + 3) (L) (mpush (if mrt (mRt a) = 4 then 1 else mrt (mRt a)) r st) (σ'))) : (mNp l D A ro h0 sh0 p e R s m args below meth c Q n0 t0 ad0 k (pc) (L) (((3, r0) :: as).reverse ++ st) (σ)) := by
  obtain ⟨f1, f2, f3, f4, f5, f6, f7, f8, f9⟩ := mfn_spec hfn
  obtain ⟨v1, -⟩ := mfv_spec hfv
  refine wr_run (a := a) (arr := fun _ => #[]) hnx htt ht (fun H locs ls ws tys hB => hB.st' (fun v hv => hB.ok v (List.mem_append_right _ hv))) (fun g1 g2 H locs ls ws tys hB => ?_) hn
  have hBs := hB.st' (st' := st) (fun v hv => hB.ok v (List.mem_append_right _ hv))
  have hM1 := hM (fun v hv => hB.ok v (List.mem_append_left _ (List.mem_reverse.mpr hv))) (mAd ws)
  have hrm := room_ok hf hlo f7
  obtain ⟨-, -, -, ar, hw, he, -⟩ := hB.1.obj kw hc hk
  have hpre : PreS s H (Pck D A ro h0 sh0 (mAd ws) ((3, r0) :: as) σ) (.ref ar :: as.map (encV (mAd ws) ro)) := ⟨Pck.blind, fun U hU hW => by
      have h9 := Pck.at (as := (3, r0) :: as) kw hA hB U hU hW
      rw [List.map_cons, encV3 he] at h9
      exact h9⟩
  have hstk : (((3, r0) :: as).reverse ++ st).map (encV (mAd ws) ro) = (as.map (encV (mAd ws) ro)).reverse ++ .ref ar :: st.map (encV (mAd ws) ro) := by
    rw [List.map_append, List.reverse_cons, List.map_append, List.map_reverse, List.map_cons, List.map_nil, encV3 he, List.append_assoc]; rfl
  have hgd : GoodIn lw_g (wsk a) := good_g (fun w hw => (List.mem_cons.mp hw).elim (fun q => by rw [q]; exact f4) id)
  have hwk : wsk a = Cond.code (mYn a) (mBy a) (mMx a) none :: lw_g := by show Cond.code _ _ _ (mRt a) :: _ = _; rw [hrt]
  rcases hl with hl | hl
  · exact va_runI (b := ar) (As := as.map (encV (mAd ws) ro)) (rest := st.map (encV (mAd ws) ro)) (own := mO (mI0 k).1) ⟨cx.1, cx.2.1, cx.2.2.1, cx.2.2.2.1, cx.2.2.2.2.1⟩ hM1 ⟨callB_of (mparN a) cx.2.2.2.2.1 hgd hwk rfl rfl (cx.2.2.2.2.1 _ f5) (cx.2.2.2.2.1 _ hl) ⟨f2, f3, f8⟩ hrm, hni, cx.2.2.2.2.1 _ v1⟩ hpre rfl (by rw [List.length_map]; exact hlen) (by rw [← cx.2.2.1]; exact (hB.siz cx).symm) hstk (by show 2 * 0 + _ ≤ 8; rw [hBs.cat]; omega) hd ⟨by omega, by omega⟩
  · have hl2 : va_Nw (.methodLinkNest (mO (mI0 k).1) ix (mYn a) "RoadWater") s := by
      have hl3 := kw.2.2.2.2.2.2.1 ((mI0 k).1, ix, a) hl
      exact hl3
    exact va_runIN (b := ar) (host := "RoadWater") (As := as.map (encV (mAd ws) ro)) (rest := st.map (encV (mAd ws) ro)) (own := mO (mI0 k).1) ⟨cx.1, cx.2.1, cx.2.2.1, cx.2.2.2.1, cx.2.2.2.2.1⟩ hM1 ⟨va_cnB (mparN a) cx.2.2.2.2.1 hgd hwk rfl rfl hl2 (cx.2.2.2.2.1 _ f5) ⟨f2, f3, f8⟩ hrm, hni, cx.2.2.2.2.1 _ v1⟩ hpre rfl (by rw [List.length_map]; exact hlen) (by rw [← cx.2.2.1]; exact (hB.siz cx).symm) hstk (by show 2 * 0 + _ ≤ 8; rw [hBs.cat]; omega) hd ⟨by omega, by omega⟩
end Calls3
