/-! more rows: switches, Math, natives -/
def msel (d : Nat) (x : Int) : List (Int × Nat) → Nat
  | [] => d
  | (v, t) :: r => if x = v then t else msel d x r
theorem msw_sel {β : Type} {N : Nat → Option β} {d : Nat} {x : Int} : ∀ t, msw N d x t = N (msel d x t)
  | [] => rfl
  | (v, j) :: r => by
    unfold msw msel
    by_cases h : x = v
    · rw [if_pos h, if_pos h]
    · rw [if_neg h, if_neg h]; exact msw_sel r
theorem mtbl_out {k i d : Nat} {x : Int} : ∀ (os : List Int) (lo : Int) (t : List (Int × Nat)), mtbl k i lo os t = true → (x < lo ∨ lo + (os.length : Int) ≤ x) → msel d x t = d := by
  intro os
  induction os with
  | nil =>
    intro lo t h _
    cases t with
    | nil => rfl
    | cons a t => cases h
  | cons o os ih =>
    intro lo t h hx
    cases t with
    | nil => cases h
    | cons a t =>
      obtain ⟨v, j⟩ := a
      simp only [mtbl, Bool.and_eq_true, decide_eq_true_eq] at h
      simp only [List.length_cons] at hx
      unfold msel
      rw [if_neg (by omega)]
      exact ih (lo + 1) t h.2 (by omega)
theorem mtbl_in {k i d : Nat} {x : Int} : ∀ (os : List Int) (lo : Int) (t : List (Int × Nat)), mtbl k i lo os t = true → lo ≤ x → x < lo + (os.length : Int) → ∃ off, os[(x - lo).toNat]? = some off ∧ ((mPc k i : Nat) : Int) + off = ((mPc k (msel d x t) : Nat) : Int) := by
  intro os
  induction os with
  | nil => intro lo t h h1 h2; simp at h2; omega
  | cons o os ih =>
    intro lo t h h1 h2
    cases t with
    | nil => cases h
    | cons a t =>
      obtain ⟨v, j⟩ := a
      simp only [mtbl, Bool.and_eq_true, decide_eq_true_eq] at h
      simp only [List.length_cons] at h2
      unfold msel
      by_cases hx : x = lo
      · rw [if_pos (by omega), show (x - lo).toNat = 0 from by omega]
        exact ⟨o, rfl, of_decide_eq_true h.1.2⟩
      · rw [if_neg (by omega)]
        obtain ⟨off, e1, e2⟩ := ih (lo + 1) t h.2 (by omega) (by omega)
        refine ⟨off, ?_, e2⟩
        rw [show (x - lo).toNat = (x - (lo + 1)).toNat + 1 from by omega]
        exact e1
theorem mlkp_sel {k i d : Nat} {dd x : Int} : ∀ (ps : List (Int × Int)) (t : List (Int × Nat)), mlkp k i ps t = true → ((mPc k i : Nat) : Int) + dd = ((mPc k d : Nat) : Int) → ((mPc k i : Nat) : Int) + Op.lookupswitch.offset ps dd x = ((mPc k (msel d x t) : Nat) : Int) := by
  intro ps
  induction ps with
  | nil =>
    intro t h hd
    cases t with
    | nil => exact hd
    | cons a t => cases h
  | cons o ps ih =>
    intro t h hd
    cases t with
    | nil => cases h
    | cons a t =>
      obtain ⟨v, j⟩ := a
      obtain ⟨v', off⟩ := o
      simp only [mlkp, Bool.and_eq_true, decide_eq_true_eq] at h
      have h3 := ih t h.2 hd
      have h4 : ((mPc k i : Nat) : Int) + off = ((mPc k j : Nat) : Int) := of_decide_eq_true h.1.2
      have h5 := h.1.1
      unfold msel
      by_cases hx : x = v
      · rw [if_pos hx]
        have : Op.lookupswitch.offset ((v', off) :: ps) dd x = off := by simp [Op.lookupswitch.offset, hx, h5]
        rw [this]; exact h4
      · rw [if_neg hx]
        have : Op.lookupswitch.offset ((v', off) :: ps) dd x = Op.lookupswitch.offset ps dd x := by
          have : ¬ v' = x := fun q => hx (by rw [h5, q])
          have : ¬ x = v' := fun q => hx (by rw [h5, q])
          simp [Op.lookupswitch.offset, *]
        rw [this]; exact h3
section Rows3
variable {l : Launch} {D : va_G} {A : Nat → Prop} {ro : Int → Nat} {h0 : Int → Int → Int} {sh0 : Int → Int × Int} {p : Program} {e : Env} {R : Room} {s : State} {m : MethodId} {args : Array Value} {below : List Frame} {meth : Method} {c : Code} {Q : State → Prop} {n0 t0 : Int} {ad0 : List Nat} {k : Nat} {L st : List mV} {σ : mS} {pc : Nat}
theorem wr_table (cx : mCx k p s m args meth c) {i b len : Nat} {d lo hi x : Int} {os : Array Int} {t : List (Int × Nat)} (hd : decode (mBy k) (mPc k i) = .ok (.tableswitch d lo hi os, len)) (h1 : mtg k i d b = true) (h2 : (os.toList.length : Int) = hi - lo + 1) (h3 : mtbl k i lo os.toList t = true) (hn : (mNp l D A ro h0 sh0 p e R s m args below meth c Q n0 t0 ad0 k (mPc k (msel b x t)) (L) (st) (σ))) : (mNp l D A ro h0 sh0 p e R s m args below meth c Q n0 t0 ad0 k (mPc k i) (L) ((1, x) :: st) (σ)) := by
  intro g1 g2 H locs ls ws tys hB
  have hx : rgI x := hB.top
  have h4 := hn g1 g2 H locs ls ws tys hB.pop
  by_cases ho : x < lo ∨ hi < x
  · rw [mtbl_out os.toList lo t h3 (by omega)] at h4
    exact lv_tableOut (x := Int32.ofInt x) cx.1 cx.2.1 hd (by rw [i32_id hx]; exact ho) (of_decide_eq_true h1) h4
  · obtain ⟨off, e1, e2⟩ := mtbl_in (d := b) (x := x) os.toList lo t h3 (by omega) (by omega)
    exact lv_tableIn (x := Int32.ofInt x) cx.1 cx.2.1 hd (by rw [i32_id hx]; omega) (by rw [i32_id hx]; omega) (by rw [i32_id hx, ← Array.getElem?_toList]; exact e1) e2 h4
theorem wr_lookup (cx : mCx k p s m args meth c) {i b len : Nat} {d x : Int} {ps : Array (Int × Int)} {t : List (Int × Nat)} (hd : decode (mBy k) (mPc k i) = .ok (.lookupswitch d ps, len)) (h1 : mtg k i d b = true) (h2 : (ps.toList.zip (ps.toList.drop 1)).all (fun (a, next) => a.1 < next.1) = true) (h3 : mlkp k i ps.toList t = true) (hn : (mNp l D A ro h0 sh0 p e R s m args below meth c Q n0 t0 ad0 k (mPc k (msel b x t)) (L) (st) (σ))) : (mNp l D A ro h0 sh0 p e R s m args below meth c Q n0 t0 ad0 k (mPc k i) (L) ((1, x) :: st) (σ)) := by
  intro g1 g2 H locs ls ws tys hB
  have hx : rgI x := hB.top
  have h4 := hn g1 g2 H locs ls ws tys hB.pop
  exact lv_lookup (x := Int32.ofInt x) cx.1 cx.2.1 hd h2 (by rw [i32_id hx]) (mlkp_sel ps.toList t h3 (of_decide_eq_true h1)) h4
theorem mB.siz {H : Heap} {locs : List Loc} {ls : Array Slot} {ws : va_W} {tys : List (ClassId × FieldType)} (hB : mB D A ro h0 sh0 ad0 k s H locs ls L st σ ws tys) (cx : mCx k p s m args meth c) : c.maxLocals = ls.size := by rw [cx.2.2.1, hB.2.2.1.1, hB.2.2.2.1]
theorem mB.cat {H : Heap} {locs : List Loc} {ls : Array Slot} {ws : va_W} {tys : List (ClassId × FieldType)} (hB : mB D A ro h0 sh0 ad0 k s H locs ls L st σ ws tys) : ((st.map (encV (mAd ws) ro)).map fun v => v.category).sum = mcat st := mcat_eq hB.ok
theorem wr_max (cx : mCx k p s m args meth c) {ix : Nat} {x y : Int} (hd : decode (mBy k) pc = .ok (.invokestatic ix, 3)) (hl : Cond.methodLink (mO (mI0 k).1) ix (mMath 0) ∈ lw_g) (hf : 8 ≤ R.frames) (hlo : 512 ≤ R.locals) (hc : (σ.2.2.1 - n0).toNat ≤ R.cells) (hs : (σ.2.2.2 - t0).toNat ≤ R.slots) (h8 : mcat st ≤ 8) (hn : (mNp l D A ro h0 sh0 p e R s m args below meth c Q n0 t0 ad0 k (pc + 3) (L) ((1, jmax x y) :: st) (σ))) : (mNp l D A ro h0 sh0 p e R s m args below meth c Q n0 t0 ad0 k (pc) (L) ((1, y) :: (1, x) :: st) (σ)) := by
  intro g1 g2 H locs ls ws tys hB
  have hx : rgI x := hB.pop.top
  have hy : rgI y := hB.top
  have h4 := hn g1 g2 H locs ls ws tys (hB.pop.pop.push (by show rgI (jmax x y); unfold jmax; split <;> assumption))
  refine va_mmax (x := Int32.ofInt x) (y := Int32.ofInt y) cx.1 cx.2.1 (hB.siz cx) cx.2.2.2.1 (cx.2.2.2.2.1 _ hl) (cx.2.2.2.2.1 _ wx_maxS) (cx.2.2.2.2.1 _ wx_mathI) (cx.2.2.2.2.1 _ wx_maxC) (by omega) (by rw [hB.pop.pop.cat]; omega) hc hs hd ?_
  rw [show (if Int32.ofInt x < Int32.ofInt y then Int32.ofInt y else Int32.ofInt x) = Int32.ofInt (jmax x y) from by
    unfold jmax
    by_cases hh : x < y
    · rw [if_pos hh, if_pos ((i32_lt hx hy).mpr hh)]
    · rw [if_neg hh, if_neg (fun q => hh ((i32_lt hx hy).mp q))]]
  exact h4
theorem wr_min (cx : mCx k p s m args meth c) {ix : Nat} {x y : Int} (hd : decode (mBy k) pc = .ok (.invokestatic ix, 3)) (hl : Cond.methodLink (mO (mI0 k).1) ix (mMath 1) ∈ lw_g) (hf : 8 ≤ R.frames) (hlo : 512 ≤ R.locals) (hc : (σ.2.2.1 - n0).toNat ≤ R.cells) (hs : (σ.2.2.2 - t0).toNat ≤ R.slots) (h8 : mcat st ≤ 8) (hn : (mNp l D A ro h0 sh0 p e R s m args below meth c Q n0 t0 ad0 k (pc + 3) (L) ((1, jmin x y) :: st) (σ))) : (mNp l D A ro h0 sh0 p e R s m args below meth c Q n0 t0 ad0 k (pc) (L) ((1, y) :: (1, x) :: st) (σ)) := by
  intro g1 g2 H locs ls ws tys hB
  have hx : rgI x := hB.pop.top
  have hy : rgI y := hB.top
  have h4 := hn g1 g2 H locs ls ws tys (hB.pop.pop.push (by show rgI (jmin x y); unfold jmin; split <;> assumption))
  refine va_mmin (x := Int32.ofInt x) (y := Int32.ofInt y) cx.1 cx.2.1 (hB.siz cx) cx.2.2.2.1 (cx.2.2.2.2.1 _ hl) (cx.2.2.2.2.1 _ wx_minS) (cx.2.2.2.2.1 _ wx_mathI) (cx.2.2.2.2.1 _ wx_minC) (by omega) (by rw [hB.pop.pop.cat]; omega) hc hs hd ?_
  rw [show (if Int32.ofInt y < Int32.ofInt x then Int32.ofInt y else Int32.ofInt x) = Int32.ofInt (jmin x y) from by
    unfold jmin
    by_cases hh : y < x
    · rw [if_pos hh, if_pos ((i32_lt hy hx).mpr hh)]
    · rw [if_neg hh, if_neg (fun q => hh ((i32_lt hy hx).mp q))]]
  exact h4
theorem wr_abs (cx : mCx k p s m args meth c) {ix : Nat} {x : Int} (hd : decode (mBy k) pc = .ok (.invokestatic ix, 3)) (hl : Cond.methodLink (mO (mI0 k).1) ix (mMath 2) ∈ lw_g) (hf : 8 ≤ R.frames) (hlo : 512 ≤ R.locals) (hc : (σ.2.2.1 - n0).toNat ≤ R.cells) (hs : (σ.2.2.2 - t0).toNat ≤ R.slots) (h8 : mcat st ≤ 8) (hn : (mNp l D A ro h0 sh0 p e R s m args below meth c Q n0 t0 ad0 k (pc + 3) (L) ((1, jabs x) :: st) (σ))) : (mNp l D A ro h0 sh0 p e R s m args below meth c Q n0 t0 ad0 k (pc) (L) ((1, x) :: st) (σ)) := by
  intro g1 g2 H locs ls ws tys hB
  have hx : rgI x := hB.top
  have h4 := hn g1 g2 H locs ls ws tys (hB.pop.push (by show rgI (jabs x); unfold jabs; split; exact hx; exact rgI_w32 _))
  refine va_mabs (x := Int32.ofInt x) cx.1 cx.2.1 (hB.siz cx) cx.2.2.2.1 (cx.2.2.2.2.1 _ hl) (cx.2.2.2.2.1 _ wx_absS) (cx.2.2.2.2.1 _ wx_mathI) (cx.2.2.2.2.1 _ wx_absC) (by omega) (by rw [hB.pop.cat]; omega) hc hs hd ?_
  rw [show (if 0 ≤ Int32.ofInt x then Int32.ofInt x else 0 - Int32.ofInt x) = Int32.ofInt (jabs x) from by
    have hle : (0 : Int32) ≤ Int32.ofInt x ↔ 0 ≤ x := i32_le rg0 hx
    unfold jabs
    by_cases hh : 0 ≤ x
    · rw [if_pos hh, if_pos (hle.mpr hh)]
    · rw [if_neg hh, if_neg (fun q => hh (hle.mp q))]
      exact i32_sub 0 x]
  exact h4
theorem wr_objInit (cx : mCx k p s m args meth c) (kw : mKW A ro h0 sh0 s) {ix ci : Nat} {q : vw_C} {r : Int} (hd : decode (mBy k) pc = .ok (.invokespecial ix, 3)) (hl : Cond.methodLink (mO (mI0 k).1) ix objectInit ∈ lw_g) (hc : mCl[ci]? = some q) (hk : (σ.2.1 r).1 = (ci : Int) + 1) (hf : 8 ≤ R.frames) (hlo : 512 ≤ R.locals) (h8 : mcat st ≤ 8) (hn : (mNp l D A ro h0 sh0 p e R s m args below meth c Q n0 t0 ad0 k (pc + 3) (L) (st) (σ))) : (mNp l D A ro h0 sh0 p e R s m args below meth c Q n0 t0 ad0 k (pc) (L) ((3, r) :: st) (σ)) := by
  intro g1 g2 H locs ls ws tys hB
  obtain ⟨-, -, -, a, hw, he, -⟩ := hB.1.obj kw hc hk
  rw [List.map_cons, encV3 he]
  exact W.objInit cx.1 cx.2.1 cx.2.2.2.1 (cx.2.2.2.2.1 _ hl) (cx.2.2.2.2.1 _ wx_objI) (cx.2.2.2.2.1 _ wx_objC) rfl (hB.siz cx).symm rfl hd (by omega) (by show 2 * 0 + _ + 12 ≤ _; rw [hB.pop.cat]; omega) (hn g1 g2 H locs ls ws tys hB.pop)
/-- the field tables of what was there before: static rows -/
theorem wr_getsF (cx : mCx k p s m args meth c) (kw : mKW A ro h0 sh0 s) (hN : 0 ≤ σ.2.2.1) (hk : mO (mI0 k).1 = "RoadWater$Road") (hd : decode (mBy k) pc = .ok (.getstatic 51, 3)) (hn : (mNp l D A ro h0 sh0 p e R s m args below meth c Q n0 t0 ad0 k (pc + 3) (L) ((3, -2) :: st) (σ))) : (mNp l D A ro h0 sh0 p e R s m args below meth c Q n0 t0 ad0 k (pc) (L) (st) (σ)) := by
  intro g1 g2 H locs ls ws tys hB
  have h4 := hn g1 g2 H locs ls ws tys (hB.push (show (-2 : Int) ≤ σ.2.2.1 by omega))
  rw [List.map_cons, encV3 (encO_neg (by decide))] at h4
  have ho := cx.2.2.2.1
  rw [hk] at ho
  exact va_getsN cx.1 cx.2.1 kw.2.2.2.2.1.1 hB.2.1 ho (va_Nw.use rfl kw.2.2.2.2.2.1) (fun _ h => h) hd h4
theorem wr_getsH (cx : mCx k p s m args meth c) (kw : mKW A ro h0 sh0 s) (hN : 0 ≤ σ.2.2.1) (hk : mO (mI0 k).1 = "RoadWater") (hd : decode (mBy k) pc = .ok (.getstatic 134, 3)) (hn : (mNp l D A ro h0 sh0 p e R s m args below meth c Q n0 t0 ad0 k (pc + 3) (L) ((3, -3) :: st) (σ))) : (mNp l D A ro h0 sh0 p e R s m args below meth c Q n0 t0 ad0 k (pc) (L) (st) (σ)) := by
  intro g1 g2 H locs ls ws tys hB
  have h4 := hn g1 g2 H locs ls ws tys (hB.push (show (-3 : Int) ≤ σ.2.2.1 by omega))
  rw [List.map_cons, encV3 (encO_neg (by decide))] at h4
  have ho := cx.2.2.2.1
  rw [hk] at ho
  exact va_gets cx.1 cx.2.1 kw.2.2.2.2.1.2.1 hB.2.1 ho (cx.2.2.2.2.1 _ wx_high) (fun _ h => h) hd h4
theorem wr_clone (cx : mCx k p s m args meth c) (kw : mKW A ro h0 sh0 s) (hA : ∀ q, s.heap.size ≤ q → A q) {r : Int} (ho0 : mO (mI0 k).1 = "java/util/Arrays") (hd : decode (mBy k) pc = .ok (.invokevirtual 316, 3)) (hk : (σ.2.1 r).1 = 100) (hr : 0 < r) (hf : 8 ≤ R.frames) (hlo : 512 ≤ R.locals) (h8 : mcat st ≤ 8) (hg1 : n0 ≤ σ.2.2.1 → (σ.2.2.1 + 1 - n0).toNat ≤ R.cells) (hg2 : t0 ≤ σ.2.2.2 → (σ.2.2.2 + (σ.2.1 r).2 - t0).toNat ≤ R.slots)
    (hn : (mNp l D A ro h0 sh0 p e R s m args below meth c Q n0 t0 ad0 k (pc + 3) (L) ((3, σ.2.2.1 + 1) :: st) (((fun q i => if q = σ.2.2.1 + 1 then σ.1 r i else σ.1 q i), (fun q => if q = σ.2.2.1 + 1 then (100, (σ.2.1 r).2) else σ.2.1 q), σ.2.2.1 + 1, σ.2.2.2 + (σ.2.1 r).2)))) : (mNp l D A ro h0 sh0 p e R s m args below meth c Q n0 t0 ad0 k (pc) (L) ((3, r) :: st) (σ)) := by
  intro g1 g2 H locs ls ws tys hB
  obtain ⟨hle, a, n, cA, f, t0', hw, he, hsz, ht, hn31, hff⟩ := hB.1.arr (ty := .int) hr (Or.inl ⟨rfl, rfl⟩) hk
  have ho := cx.2.2.2.1
  rw [ho0] at ho
  have hcf : s.vm.findClass "[I" = some cA := (hB.1.2.2.2.1.2 t0' _ ht).2
  rw [List.map_cons, encV3 he]
  refine va_clone (ad := "[I") (x := (n, .inl f)) (ty := .int) cx.1 cx.2.1 (hB.siz cx) ho (cx.2.2.2.2.1 _ wx_cl1) (cx.2.2.2.2.1 _ wx_cl2) (cx.2.2.2.2.1 _ wx_cl3) (cx.2.2.2.2.1 _ wx_cl4) (cx.2.2.2.2.1 _ wx_cl5) kw.2.2.2.2.2.2.2.1 hB.1.2.2.2.1 hB.1.2.1 hB.1.2.2.1 hB.2.1 hA (r - 1).toNat t0' hw ht hcf ?_ (by omega) (by rw [hB.pop.cat]; omega) ?_ ?_ hd (fun a1 H1 hK hP hD hS => ?_)
  · intro i v hv
    have hlt : i < n := by
      have := (Array.getElem?_eq_some_iff.mp hv).1
      have hs : (vp_cell cA (n, .inl f)).slots.size = n := arrV_size _ _ _
      omega
    have : (vp_cell cA (n, .inl f)).slots[i]? = some (.int (f i)) := arrV_read _ _ hlt
    rw [this] at hv
    cases hv
    rfl
  · have := hg1 g1; omega
  · have := hg2 g2; dsimp only; omega
  · have hR := hB.1.new (σ' := ((fun q i => if q = σ.2.2.1 + 1 then σ.1 r i else σ.1 q i), (fun q => if q = σ.2.2.1 + 1 then (100, (σ.2.1 r).2) else σ.2.1 q), σ.2.2.1 + 1, σ.2.2.2 + (σ.2.1 r).2)) (tys' := tys ++ [(cA, .int)]) (fun r' hr' => ⟨by funext i; dsimp only; rw [if_neg hr'], by dsimp only; rw [if_neg hr']⟩) rfl (List.prefix_append _ _) hK hP hD (Or.inr (Or.inl ⟨.int, 100, n, cA, f, tys.length, Or.inl ⟨rfl, rfl⟩, by dsimp only; rw [if_pos rfl, hsz], rfl, by simp, hn31, fun j hj => by
        dsimp only
        rw [if_pos rfl]
        exact hff j hj⟩))
    obtain ⟨b1, b2⟩ := hB.pop.new (σ' := ((fun q i => if q = σ.2.2.1 + 1 then σ.1 r i else σ.1 q i), (fun q => if q = σ.2.2.1 + 1 then (100, (σ.2.1 r).2) else σ.2.1 q), σ.2.2.1 + 1, σ.2.2.2 + (σ.2.1 r).2)) rfl hR hS
    have h3 := hn (by show n0 ≤ σ.2.2.1 + 1; omega) (by show t0 ≤ σ.2.2.2 + (σ.2.1 r).2; omega) H1 locs ls _ _ b1
    rw [b2] at h3
    dsimp only at h3
    rw [show (σ.2.2.1 + 1 - n0).toNat = (σ.2.2.1 - n0).toNat + 1 from by omega, show (σ.2.2.2 + (σ.2.1 r).2 - t0).toNat = (σ.2.2.2 - t0).toNat + n from by omega] at h3
    exact h3
theorem wr_castA (cx : mCx k p s m args meth c) {r : Int} (ho0 : mO (mI0 k).1 = "java/util/Arrays") (hd : decode (mBy k) pc = .ok (.checkcast 317, 3)) (hk : (σ.2.1 r).1 = 100) (hr : 0 < r) (hn : (mNp l D A ro h0 sh0 p e R s m args below meth c Q n0 t0 ad0 k (pc + 3) (L) ((3, r) :: st) (σ))) : (mNp l D A ro h0 sh0 p e R s m args below meth c Q n0 t0 ad0 k (pc) (L) ((3, r) :: st) (σ)) := by
  intro g1 g2 H locs ls ws tys hB
  obtain ⟨hle, a, n, cA, f, t0', hw, he, hsz, ht, hn31, hff⟩ := hB.1.arr (ty := .int) hr (Or.inl ⟨rfl, rfl⟩) hk
  have ho := cx.2.2.2.1
  rw [ho0] at ho
  have h4 := hn g1 g2 H locs ls ws tys hB
  rw [List.map_cons, encV3 he] at h4 ⊢
  exact va_castA cx.1 cx.2.1 ho (cx.2.2.2.2.1 _ wx_cl6) hB.1.2.1 (r - 1).toNat hw (hB.1.2.2.2.1.2 t0' _ ht).2 hd h4
end Rows3
