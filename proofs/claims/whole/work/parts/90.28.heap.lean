/-! rows of the heap -/
theorem lays_good (C : String) (T : u_T) (j : Nat) : goodWord (u_lay C T j) = true := by
  unfold u_lay
  split <;> rfl
theorem mCl_g {ci : Nat} {q : vw_C} (h : mCl[ci]? = some q) : ∀ w ∈ u_ws q.1 q.2.1 q.2.2, w ∈ lw_g := by
  intro w hw
  obtain ⟨C, T, N⟩ := q
  refine lw_g_in ((mCl_ok ci C T N h).1 w hw) ?_
  obtain ⟨j, -, rfl⟩ := List.mem_map.mp hw
  exact lays_good C T j
set_option maxRecDepth 100000 in
theorem mY_okb : (List.range 11).all (fun c => match mCl[c]? with
    | some q => (List.range q.2.2).all (fun b => decide (mfg (mY c b) = 1 ∨ mfg (mY c b) = 3))
    | none => true) = true := by decide +kernel
theorem mY_ok {ci : Nat} {q : vw_C} (h : mCl[ci]? = some q) {b : Nat} (hb : b < q.2.2) : mfg (mY ci b) = 1 ∨ mfg (mY ci b) = 3 := by
  have hc : ci < 11 := (List.getElem?_eq_some_iff.mp h).1
  have h1 := List.all_eq_true.mp mY_okb ci (List.mem_range.mpr hc)
  rw [h] at h1
  exact of_decide_eq_true (List.all_eq_true.mp h1 b (List.mem_range.mpr hb))
theorem range_set {α : Type} {N b : Nat} (f : Nat → α) (x : α) : ((List.range N).map f).set b x = (List.range N).map (fun j => if j = b then x else f j) := by
  apply List.ext_getElem?
  intro i
  rw [List.getElem?_set, List.getElem?_map, List.getElem?_map, List.length_map, List.length_range]
  by_cases hi : i < N
  · rw [List.getElem?_range hi]
    by_cases hb : b = i
    · subst hb; simp [hi]
    · have : ¬ i = b := fun q => hb q.symm
      simp [hb, this]
  · rw [List.getElem?_eq_none (by simpa using hi)]
    by_cases hb : b = i
    · subst hb; simp [hi]
    · simp [hb]
section Heap
variable {l : Launch} {D : va_G} {A : Nat → Prop} {ro : Int → Nat} {h0 : Int → Int → Int} {sh0 : Int → Int × Int} {p : Program} {e : Env} {R : Room} {s : State} {m : MethodId} {args : Array Value} {below : List Frame} {meth : Method} {c : Code} {Q : State → Prop} {n0 t0 : Int} {ad0 : List Nat} {k : Nat} {L st : List mV} {σ : mS} {pc : Nat}
theorem encF_V {ad : List Nat} {ty : FieldType} {x : Int} (h : mfg ty = 1 ∨ mfg ty = 3) : encV ad ro ((mfg ty).toNat, x) = encF ad ro ty x := by
  unfold encF
  rcases h with h | h
  · rw [h, if_neg (by decide)]; rfl
  · rw [h, if_pos rfl]; rfl
theorem okF_V {n : Int} {ty : FieldType} {x : Int} (h : mfg ty = 1 ∨ mfg ty = 3) (hx : okF n ty x) : okV n ((mfg ty).toNat, x) := by
  rcases h with h | h
  · rw [h]; exact hx.2 (by rw [h]; decide)
  · rw [h]; exact hx.1 h
theorem wr_getfield (cx : mCx k p s m args meth c) (kw : mKW A ro h0 sh0 s) {ix ci b : Nat} {q : vw_C} {r : Int} (hd : decode (mBy k) pc = .ok (.getfield ix, 3)) (hc : mCl[ci]? = some q) (hb : b < q.2.2) (hlink : Cond.fieldLink (mO (mI0 k).1) ix q.1 (q.2.1 b).2.1 (q.2.1 b).2.2.1 ∈ lw_g) (hdecl : (q.2.1 b).1 = q.1) (hk : (σ.2.1 r).1 = (ci : Int) + 1) (hn : (mNp l D A ro h0 sh0 p e R s m args below meth c Q n0 t0 ad0 k (pc + 3) (L) (((mfg (mY ci b)).toNat, σ.1 r b) :: st) (σ))) : (mNp l D A ro h0 sh0 p e R s m args below meth c Q n0 t0 ad0 k (pc) (L) ((3, r) :: st) (σ)) := by
  intro g1 g2 H locs ls ws tys hB
  obtain ⟨hr, hle, -, a, hw, he, hok⟩ := hB.1.obj kw hc hk
  have h1 := hn g1 g2 H locs ls ws tys (hB.pop.push (okF_V (mY_ok hc hb) (hok b hb)))
  rw [List.map_cons, encF_V (mY_ok hc hb)] at h1
  rw [List.map_cons, show encV (mAd ws) ro (3, r) = .ref a from by show va_rf (encO (mAd ws) ro r) = _; rw [he]; rfl]
  exact va_get (C := q.1) (T := q.2.1) (N := q.2.2) cx.1 cx.2.1 cx.2.2.2.2.1 (mCl_g hc) cx.2.2.2.1 hB.1.2.2.2.1 hB.1.2.1 (r - 1).toNat hw hc b hb (cx.2.2.2.2.1 _ hlink) (fun x hx => by rw [hdecl] at hx; exact hx) (v := encF (mAd ws) ro (mY ci b) (σ.1 r b)) (by rw [List.getElem?_map, List.getElem?_range hb]; rfl) hd h1
theorem mB.put {H H1 : Heap} {locs locs1 : List Loc} {ls : Array Slot} {ws : va_W} {tys : List (ClassId × FieldType)} (hB : mB D A ro h0 sh0 ad0 k s H locs ls L st σ ws tys) {g : Int → Int → Int} {j : Nat} {a : Nat} {x x' : va_E} (hw : ws[j]? = some (a, x)) (hR : mRel D A ro h0 sh0 (g, σ.2) (ws.set j (a, x')) tys s H1) (hS : va_S A s.heap H1 locs1) : mB D A ro h0 sh0 ad0 k s H1 locs1 ls L st (g, σ.2) (ws.set j (a, x')) tys := by
  obtain ⟨b1, b2, b3, b4, b5, b6⟩ := hB
  exact ⟨hR, hS, by rw [mAd_set hw]; exact b3, b4, b5, by rw [mAd_set hw]; exact b6⟩
theorem fits_of {ty : FieldType} {v : mV} {ad : List Nat} (h : (mft ty = 1 ∧ v.1 = 1) ∨ (mft ty = 4 ∧ v.1 = 1 ∧ (v.2 = 0 ∨ v.2 = 1)) ∨ (mft ty = 3 ∧ v.1 = 3)) : encV ad ro v = encF ad ro ty v.2 ∧ narrow ty (encV ad ro v) = encV ad ro v ∧ fits ty (encV ad ro v) = true := by
  obtain ⟨t, x⟩ := v
  rcases h with ⟨h1, h2⟩ | ⟨h1, h2, h3⟩ | ⟨h1, h2⟩
  · dsimp only at h2; subst h2
    cases ty <;> simp [mft] at h1
    exact ⟨rfl, rfl, rfl⟩
  · dsimp only at h2 h3; subst h2
    cases ty <;> simp [mft] at h1
    rcases h3 with rfl | rfl
    · exact ⟨rfl, rfl, rfl⟩
    · exact ⟨rfl, rfl, rfl⟩
  · dsimp only at h2; subst h2
    cases ty <;> simp [mft] at h1
    · refine ⟨rfl, ?_, ?_⟩ <;> (show _ = _) <;> (simp only [encV]; cases encO ad ro x <;> rfl)
    · refine ⟨rfl, ?_, ?_⟩ <;> (show _ = _) <;> (simp only [encV]; cases encO ad ro x <;> rfl)
theorem wr_putfield (cx : mCx k p s m args meth c) (kw : mKW A ro h0 sh0 s) {ix ci b : Nat} {q : vw_C} {r : Int} {v : mV} (hd : decode (mBy k) pc = .ok (.putfield ix, 3)) (hc : mCl[ci]? = some q) (hb : b < q.2.2) (hlink : Cond.fieldLink (mO (mI0 k).1) ix q.1 (q.2.1 b).2.1 (q.2.1 b).2.2.1 ∈ lw_g) (hdecl : (q.2.1 b).1 = q.1) (hk : (σ.2.1 r).1 = (ci : Int) + 1) (hfin : (q.2.1 b).2.2.2 = false ∨ ((q.2.1 b).2.2.2 = true ∧ (mYn k).name = "<init>" ∧ (q.2.1 b).1 = mO (mI0 k).1))
    (hv : (mft (mY ci b) = 1 ∧ v.1 = 1) ∨ (mft (mY ci b) = 4 ∧ v.1 = 1 ∧ (v.2 = 0 ∨ v.2 = 1)) ∨ (mft (mY ci b) = 3 ∧ v.1 = 3)) (hn : (mNp l D A ro h0 sh0 p e R s m args below meth c Q n0 t0 ad0 k (pc + 3) (L) (st) ((mup σ.1 r b v.2, σ.2)))) : (mNp l D A ro h0 sh0 p e R s m args below meth c Q n0 t0 ad0 k (pc) (L) (v :: (3, r) :: st) (σ)) := by
  intro g1 g2 H locs ls ws tys hB
  obtain ⟨hr, hle, hsz, a, hw, he, hok⟩ := hB.1.obj kw hc hk
  obtain ⟨f1, f2, f3⟩ := fits_of (ro := ro) (ad := mAd ws) hv
  obtain ⟨C, T, N⟩ := q
  obtain ⟨k1, k2, k3, -⟩ := mCl_ok ci C T N hc
  have hvk : okF σ.2.2.1 (mY ci b) v.2 := by
    have ht := hB.top
    obtain ⟨tv, xv⟩ := v
    rcases hv with ⟨h1, h2⟩ | ⟨h1, h2, h3⟩ | ⟨h1, h2⟩
    · dsimp only at h2; subst h2
      exact ⟨fun z => by cases hy : mY ci b <;> rw [hy] at h1 z <;> simp [mft, mfg] at h1 z, fun _ => ht⟩
    · dsimp only at h2; subst h2
      exact ⟨fun z => by cases hy : mY ci b <;> rw [hy] at h1 z <;> simp [mft, mfg] at h1 z, fun _ => ht⟩
    · dsimp only at h2; subst h2
      exact ⟨fun _ => ht, fun z => absurd (by cases hy : mY ci b <;> rw [hy] at h1 <;> simp [mft] at h1 <;> rfl) z⟩
  have hcell : ∀ g : Int → Int → Int, g = mup σ.1 r b v.2 → mCell (mAd ws) ro (g, σ.2) tys r (.inr (ci, ((List.range N).map fun j => encF (mAd ws) ro (mY ci j) (σ.1 r j)).set b (encV (mAd ws) ro v))) := by
    intro g hg
    refine Or.inl ⟨ci, (C, T, N), hc, ?_, ?_, ?_⟩
    · show σ.2.1 r = _
      rw [← hk, ← hsz]
    · rw [range_set]
      congr 2
      refine List.map_congr_left fun j hj => ?_
      subst hg
      by_cases e1 : j = b
      · subst e1
        show (if j = j then _ else _) = encF _ _ _ (mup σ.1 r j v.2 r j)
        rw [if_pos rfl, f1]
        unfold mup
        rw [if_pos rfl, if_pos rfl]
      · show (if j = b then _ else _) = encF _ _ _ (mup σ.1 r b v.2 r j)
        rw [if_neg e1]
        unfold mup
        rw [if_pos rfl, if_neg (by omega)]
    · intro j hj
      subst hg
      show okF σ.2.2.1 (mY ci j) (mup σ.1 r b v.2 r j)
      by_cases e1 : j = b
      · subst e1
        unfold mup
        rw [if_pos rfl, if_pos rfl]
        exact hvk
      · unfold mup
        rw [if_pos rfl, if_neg (by omega)]
        exact hok j hj
  rw [List.map_cons, List.map_cons, show encV (mAd ws) ro (3, r) = .ref a from by show va_rf (encO (mAd ws) ro r) = _; rw [he]; rfl]
  have fin : ∀ (H1 : Heap) (locs1 : List Loc), va_P D mCl (ws.set (r - 1).toNat (a, .inr (ci, ((List.range N).map fun j => encF (mAd ws) ro (mY ci j) (σ.1 r j)).set b (encV (mAd ws) ro v)))) H1 → va_D A (ws.set (r - 1).toNat (a, .inr (ci, ((List.range N).map fun j => encF (mAd ws) ro (mY ci j) (σ.1 r j)).set b (encV (mAd ws) ro v)))) → va_S A s.heap H1 locs1 → W p l e R s m args below meth c H1 locs1 (σ.2.2.1 - n0).toNat (σ.2.2.2 - t0).toNat Q (F0 m (pc + 3) ls (st.map (encV (mAd ws) ro))) := by
    intro H1 locs1 hP hD hS
    have hR := hB.1.put (g := mup σ.1 r b v.2) hr hw (fun r' hr' => by funext i'; unfold mup; rw [if_neg hr']) hP hD (hcell _ rfl)
    have h1 := hn g1 g2 H1 locs1 ls _ tys (hB.pop.pop.put hw hR hS)
    rw [mAd_set hw] at h1
    exact h1
  rcases hfin with hf | ⟨hf, hf2, hf3⟩
  · exact va_put (C := C) (T := T) (N := N) cx.1 cx.2.1 cx.2.2.2.2.1 (mCl_g hc) (mY ci) k2 k3 cx.2.2.2.1 hB.1.2.2.2.1 hB.1.2.1 hB.1.2.2.1 hB.2.1 (r - 1).toNat hw hc b hb (cx.2.2.2.2.1 _ hlink) (fun x hx => by rw [hdecl] at hx; exact hx) hf (k2 b hb) f2 f3 (by rw [List.length_map, List.length_range]; exact hb) hd fin
  · exact va_putF (C := C) (T := T) (N := N) cx.1 cx.2.1 cx.2.2.2.2.1 (mCl_g hc) (mY ci) k2 k3 cx.2.2.2.1 hB.1.2.2.2.1 hB.1.2.1 hB.1.2.2.1 hB.2.1 (r - 1).toNat hw hc b hb (cx.2.2.2.2.1 _ hlink) (fun x hx => by rw [hdecl] at hx; exact hx) hf (cx.2.2.2.2.2.2.2 hf2) hf3 (k2 b hb) f2 f3 (by rw [List.length_map, List.length_range]; exact hb) hd fin
theorem encV3 {ad : List Nat} {r : Int} {a : Nat} (he : encO ad ro r = some a) : encV ad ro (3, r) = .ref a := by
  show va_rf (encO ad ro r) = _
  rw [he]
  rfl
/-- an int array, made or there before -/
theorem wr_iald (cx : mCx k p s m args meth c) (kw : mKW A ro h0 sh0 s) {r i : Int} (hd : decode (mBy k) pc = .ok (.iaload, 1)) (hk : (σ.2.1 r).1 = 100) (h1 : 0 ≤ i) (h2 : i < (σ.2.1 r).2) (hn : (mNp l D A ro h0 sh0 p e R s m args below meth c Q n0 t0 ad0 k (pc + 1) (L) ((1, σ.1 r i) :: st) (σ))) : (mNp l D A ro h0 sh0 p e R s m args below meth c Q n0 t0 ad0 k (pc) (L) ((1, i) :: (3, r) :: st) (σ)) := by
  intro g1 g2 H locs ls ws tys hB
  have hi : rgI i := hB.top
  rcases Int.lt_or_le 0 r with hr | hr
  · obtain ⟨hle, a, n, cA, f, t0', hw, he, hsz, ht, hn31, hf⟩ := hB.1.arr hr (Or.inl ⟨rfl, rfl⟩) hk
    have hlt : i.toNat < n := by omega
    obtain ⟨e1, e2⟩ := hf i.toNat hlt
    rw [show ((i.toNat : Nat) : Int) = i from by omega] at e1 e2
    have h3 := hn g1 g2 H locs ls ws tys (hB.pop.pop.push e2)
    rw [List.map_cons, show encV (mAd ws) ro (1, σ.1 r i) = .int (f (Int32.ofInt i).toNatClampNeg) from by rw [i32_clamp hi, e1]; rfl] at h3
    rw [List.map_cons, List.map_cons, encV3 he]
    exact va_iald cx.1 cx.2.1 hB.1.2.2.2.1 hB.1.2.1 (r - 1).toNat t0' hw ht (i32_in hi h1 (by omega)) hd h3
  · obtain ⟨z1, z2⟩ := hB.1.1.2.1 r hr
    rw [z2] at hk h2
    obtain ⟨hT, hrg⟩ := kw.2.1 r hr hk
    have hneg : r < 0 := by
      rcases kw.1.1 r hr with w | ⟨-, w⟩ | ⟨-, w⟩
      · omega
      · exact w
      · exact w
    rw [z1] at hn
    have h3 := hn g1 g2 H locs ls ws tys (hB.pop.pop.push (hrg i))
    rw [List.map_cons, List.map_cons, encV3 (encO_neg hneg)]
    refine va_ti cx.1 cx.2.1 hT hB.2.1 (i32_in hi h1 (by omega)) (v := encV (mAd ws) ro (1, h0 r i)) ?_ hd h3
    dsimp only
    rw [i32_clamp hi, show ((i.toNat : Nat) : Int) = i from by omega]
    rfl
theorem wr_bald (cx : mCx k p s m args meth c) (kw : mKW A ro h0 sh0 s) {r i kd : Int} (hkd : kd = 101 ∨ kd = 102) (hd : decode (mBy k) pc = .ok (.baload, 1)) (hk : (σ.2.1 r).1 = kd) (h1 : 0 ≤ i) (h2 : i < (σ.2.1 r).2) (hn : (mNp l D A ro h0 sh0 p e R s m args below meth c Q n0 t0 ad0 k (pc + 1) (L) ((1, σ.1 r i) :: st) (σ))) : (mNp l D A ro h0 sh0 p e R s m args below meth c Q n0 t0 ad0 k (pc) (L) ((1, i) :: (3, r) :: st) (σ)) := by
  intro g1 g2 H locs ls ws tys hB
  have hi : rgI i := hB.top
  have hr : 0 < r := by
    rcases Int.lt_or_le 0 r with g | g
    · exact g
    · rw [(hB.1.1.2.1 r g).2] at hk
      rcases kw.1.1 r g with w | ⟨w, -⟩ | ⟨w, -⟩ <;> omega
  rcases hkd with rfl | rfl
  · obtain ⟨hle, a, n, cA, f, t0', hw, he, hsz, ht, hn31, hf⟩ := hB.1.arr (ty := .byte) hr (Or.inr (Or.inl ⟨rfl, rfl⟩)) hk
    have hlt : i.toNat < n := by omega
    obtain ⟨e1, e2⟩ := hf i.toNat hlt
    rw [show ((i.toNat : Nat) : Int) = i from by omega] at e1 e2
    have h3 := hn g1 g2 H locs ls ws tys (hB.pop.pop.push e2)
    rw [List.map_cons, show encV (mAd ws) ro (1, σ.1 r i) = .int (f (Int32.ofInt i).toNatClampNeg) from by rw [i32_clamp hi, e1]; rfl] at h3
    rw [List.map_cons, List.map_cons, encV3 he]
    exact va_bald cx.1 cx.2.1 hB.1.2.2.2.1 hB.1.2.1 (r - 1).toNat t0' hw ht (i32_in hi h1 (by omega)) hd h3
  · obtain ⟨hle, a, n, cA, f, t0', hw, he, hsz, ht, hn31, hf⟩ := hB.1.arr (ty := .boolean) hr (Or.inr (Or.inr ⟨rfl, rfl⟩)) hk
    have hlt : i.toNat < n := by omega
    obtain ⟨e1, e2⟩ := hf i.toNat hlt
    rw [show ((i.toNat : Nat) : Int) = i from by omega] at e1 e2
    have h3 := hn g1 g2 H locs ls ws tys (hB.pop.pop.push e2)
    rw [List.map_cons, show encV (mAd ws) ro (1, σ.1 r i) = .int (f (Int32.ofInt i).toNatClampNeg) from by rw [i32_clamp hi, e1]; rfl] at h3
    rw [List.map_cons, List.map_cons, encV3 he]
    exact va_zald cx.1 cx.2.1 hB.1.2.2.2.1 hB.1.2.1 (r - 1).toNat t0' hw ht (i32_in hi h1 (by omega)) hd h3
theorem wr_aald (cx : mCx k p s m args meth c) (kw : mKW A ro h0 sh0 s) {r i : Int} {ci : Nat} {q : vw_C} (hd : decode (mBy k) pc = .ok (.aaload, 1)) (hc : mCl[ci]? = some q) (hk : (σ.2.1 r).1 = 201 + (ci : Int)) (h1 : 0 ≤ i) (h2 : i < (σ.2.1 r).2) (hn : (mNp l D A ro h0 sh0 p e R s m args below meth c Q n0 t0 ad0 k (pc + 1) (L) ((3, σ.1 r i) :: st) (σ))) : (mNp l D A ro h0 sh0 p e R s m args below meth c Q n0 t0 ad0 k (pc) (L) ((1, i) :: (3, r) :: st) (σ)) := by
  intro g1 g2 H locs ls ws tys hB
  have hi : rgI i := hB.top
  obtain ⟨hr, hle, a, n, cA, f, t0', hw, he, hsz, ht, hn31, hf⟩ := hB.1.arq kw hc hk
  have hlt : i.toNat < n := by omega
  obtain ⟨e1, e2⟩ := hf i.toNat hlt
  rw [show ((i.toNat : Nat) : Int) = i from by omega] at e1 e2
  have h3 := hn g1 g2 H locs ls ws tys (hB.pop.pop.push e2)
  rw [List.map_cons, show encV (mAd ws) ro (3, σ.1 r i) = va_rf (f (Int32.ofInt i).toNatClampNeg) from by rw [i32_clamp hi, e1]; rfl] at h3
  rw [List.map_cons, List.map_cons, encV3 he]
  exact va_aldq cx.1 cx.2.1 hB.1.2.2.2.1 hB.1.2.1 (r - 1).toNat t0' hw ht (i32_in hi h1 (by omega)) hd h3
theorem wr_alen (cx : mCx k p s m args meth c) (kw : mKW A ro h0 sh0 s) {r : Int} (hd : decode (mBy k) pc = .ok (.arraylength, 1)) (hk : 100 ≤ (σ.2.1 r).1 ∧ (σ.2.1 r).1 < 300) (hn : (mNp l D A ro h0 sh0 p e R s m args below meth c Q n0 t0 ad0 k (pc + 1) (L) ((1, (σ.2.1 r).2) :: st) (σ))) : (mNp l D A ro h0 sh0 p e R s m args below meth c Q n0 t0 ad0 k (pc) (L) ((3, r) :: st) (σ)) := by
  intro g1 g2 H locs ls ws tys hB
  rcases Int.lt_or_le 0 r with hr | hr
  · obtain ⟨⟨a, x⟩, hw, hcl, hle⟩ := hB.1.cell hr (fun z => by rw [z] at hk; simp at hk)
    rcases hcl with ⟨c', q', e1, e2, -⟩ | ⟨ty, kd, n, cA, f, t0', e1, e2, e3, e4, e5, -⟩ | ⟨c', q', n, cA, f, t0', e1, e2, e3, e4, e5, -⟩
    · exfalso
      rw [e2] at hk
      have : c' < 11 := (List.getElem?_eq_some_iff.mp e1).1
      simp at hk
      omega
    · dsimp only at e3
      subst e3
      rw [e2] at hn
      have h3 := hn g1 g2 H locs ls ws tys (hB.pop.push (show rgI (n : Int) by unfold rgI; omega))
      rw [List.map_cons, encV3 (encO_at hr hw)]
      exact va_alen (x := (n, .inl f)) cx.1 cx.2.1 hB.1.2.2.2.1 hB.1.2.1 (r - 1).toNat t0' hw e4 (v := Int32.ofInt (n : Int)) (Int32.ofInt_eq_ofNat).symm hd h3
    · dsimp only at e3
      subst e3
      rw [e2] at hn
      have h3 := hn g1 g2 H locs ls ws tys (hB.pop.push (show rgI (n : Int) by unfold rgI; omega))
      rw [List.map_cons, encV3 (encO_at hr hw)]
      exact va_alen (x := (n, .inr (.inr (.inr (.inr f))))) cx.1 cx.2.1 hB.1.2.2.2.1 hB.1.2.1 (r - 1).toNat t0' hw e4 (v := Int32.ofInt (n : Int)) (Int32.ofInt_eq_ofNat).symm hd h3
  · obtain ⟨z1, z2⟩ := hB.1.1.2.1 r hr
    rw [z2] at hk hn
    have hk1 : (sh0 r).1 = 100 ∧ r < 0 := by
      rcases kw.1.1 r hr with w | w | ⟨w, -⟩
      · omega
      · exact w
      · omega
    obtain ⟨hT, hrg⟩ := kw.2.1 r hr hk1.1
    have hlen := kw.1.2 r hr
    have h3 := hn g1 g2 H locs ls ws tys (hB.pop.push (show rgI (sh0 r).2 by unfold rgI; omega))
    rw [List.map_cons, encV3 (encO_neg hk1.2)]
    refine va_tlen cx.1 cx.2.1 hT hB.2.1 (v := Int32.ofInt (sh0 r).2) ?_ hd h3
    rw [← Int32.ofInt_eq_ofNat]
    congr 1
    omega
end Heap
