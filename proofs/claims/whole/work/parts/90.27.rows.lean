/-! a row for each instruction of the small machine -/
def mCx (k : Nat) (p : Program) (s : State) (m : MethodId) (args : Array Value) (meth : Method) (c : Code) : Prop := p.tables.exec = Jvm.exec ∧ c.code = mBy k ∧ c.maxLocals = mMx k ∧ s.vm.findClass (mO (mI0 k).1) = some m.cls ∧ (∀ w ∈ lw_g, w.before args s = true) ∧ meth.locks = false ∧ meth.sig.returnType = mRt k ∧ ((mYn k).name = "<init>" → meth.name = "<init>")
def mNp (l : Launch) (D : va_G) (A : Nat → Prop) (ro : Int → Nat) (h0 : Int → Int → Int) (sh0 : Int → Int × Int) (p : Program) (e : Env) (R : Room) (s : State) (m : MethodId) (args : Array Value) (below : List Frame) (meth : Method) (c : Code) (Q : State → Prop) (n0 t0 : Int) (ad0 : List Nat) (k : Nat) (pc : Nat) (L st : List mV) (σ : mS) : Prop :=
  n0 ≤ σ.2.2.1 → t0 ≤ σ.2.2.2 → ∀ (H : Heap) (locs : List Loc) (ls : Array Slot) (ws : va_W) (tys : List (ClassId × FieldType)), mB D A ro h0 sh0 ad0 k s H locs ls L st σ ws tys → W p l e R s m args below meth c H locs (σ.2.2.1 - n0).toNat (σ.2.2.2 - t0).toNat Q (F0 m pc ls (st.map (encV (mAd ws) ro)))
theorem ne2 : (2 : Nat) ≠ 0 := by decide
theorem ne3 : (3 : Nat) ≠ 0 := by decide
section G
variable {p : Program} {l : Launch} {e : Env} {R : Room} {s : State} {m : MethodId} {args : Array Value} {below : List Frame} {meth : Method} {c : Code} {H : Heap} {locs : List Loc} {cells slots : Nat} {Q : State → Prop} {cc : ByteArray} {pc : Nat} {ls : Array Slot} {rest : List Value}
theorem lv_aload_nG (hx : p.tables.exec = Jvm.exec) (hb : c.code = cc) {j : Fin 4} {i : Nat} {o : Option Nat} (hd : decode cc pc = .ok (.aload_n j, 1)) (hi : (j : Nat) = i) (hl : ls[i]? = some (.val (va_rf o))) (kk : W p l e R s m args below meth c H locs cells slots Q (F0 m (pc + 1) ls (va_rf o :: rest))) : W p l e R s m args below meth c H locs cells slots Q (F0 m pc ls rest) := by
  cases o with
  | none => exact lv_aload_nN hx hb hd hi hl kk
  | some x => exact lv_aload_n hx hb hd hi hl kk
theorem lv_aloadG (hx : p.tables.exec = Jvm.exec) (hb : c.code = cc) {i : Nat} {o : Option Nat} (hd : decode cc pc = .ok (.aload i, 2)) (hl : ls[i]? = some (.val (va_rf o))) (kk : W p l e R s m args below meth c H locs cells slots Q (F0 m (pc + 2) ls (va_rf o :: rest))) : W p l e R s m args below meth c H locs cells slots Q (F0 m pc ls rest) := by
  cases o with
  | none => exact lv_aloadN hx hb hd hl kk
  | some x => exact lv_aload hx hb hd hl kk
theorem lv_astore_nG (hx : p.tables.exec = Jvm.exec) (hb : c.code = cc) {j : Fin 4} {i nL : Nat} {o : Option Nat} {lv : List (Nat × Value)} (hd : decode cc pc = .ok (.astore_n j, 1)) (hi : (j : Nat) = i) (h : lv_has ls nL lv) (hn : i < nL) (kk : ∀ ls', lv_has ls' nL ((i, va_rf o) :: lv.filter (fun q => !(q.1 == i) && !(q.1 + 1 == i && q.2.category == 2))) → W p l e R s m args below meth c H locs cells slots Q (F0 m (pc + 1) ls' rest)) : W p l e R s m args below meth c H locs cells slots Q (F0 m pc ls (va_rf o :: rest)) := by
  cases o with
  | none => exact lv_astore_nN hx hb hd hi h hn rfl kk
  | some x => exact lv_astore_n hx hb hd hi h hn rfl kk
theorem lv_astoreG (hx : p.tables.exec = Jvm.exec) (hb : c.code = cc) {i nL : Nat} {o : Option Nat} {lv : List (Nat × Value)} (hd : decode cc pc = .ok (.astore i, 2)) (h : lv_has ls nL lv) (hn : i < nL) (kk : ∀ ls', lv_has ls' nL ((i, va_rf o) :: lv.filter (fun q => !(q.1 == i) && !(q.1 + 1 == i && q.2.category == 2))) → W p l e R s m args below meth c H locs cells slots Q (F0 m (pc + 2) ls' rest)) : W p l e R s m args below meth c H locs cells slots Q (F0 m pc ls (va_rf o :: rest)) := by
  cases o with
  | none => exact lv_astoreN hx hb hd h hn rfl kk
  | some x => exact lv_astore hx hb hd h hn rfl kk
end G
section Rows
variable {l : Launch} {D : va_G} {A : Nat → Prop} {ro : Int → Nat} {h0 : Int → Int → Int} {sh0 : Int → Int × Int} {p : Program} {e : Env} {R : Room} {s : State} {m : MethodId} {args : Array Value} {below : List Frame} {meth : Method} {c : Code} {Q : State → Prop} {n0 t0 : Int} {ad0 : List Nat} {k : Nat} {L st : List mV} {σ : mS} {pc : Nat}
theorem wr_iconst (cx : mCx k p s m args meth c) {n x : Int} (hd : decode (mBy k) pc = .ok (.iconst n, 1)) (hc : (Int32.ofInt n).toInt = x) (hn : (mNp l D A ro h0 sh0 p e R s m args below meth c Q n0 t0 ad0 k (pc + 1) (L) ((1, x) :: st) (σ))) : (mNp l D A ro h0 sh0 p e R s m args below meth c Q n0 t0 ad0 k (pc) (L) (st) (σ)) := by
  subst hc
  intro g1 g2 H locs ls ws tys hB
  exact lv_iconst cx.1 cx.2.1 hd (i32_back _).symm (hn g1 g2 H locs ls ws tys (hB.push (i32_rg _)))
theorem wr_bipush (cx : mCx k p s m args meth c) {n x : Int} (hd : decode (mBy k) pc = .ok (.bipush n, 2)) (hc : (Int8.ofInt n).toInt32.toInt = x) (hn : (mNp l D A ro h0 sh0 p e R s m args below meth c Q n0 t0 ad0 k (pc + 2) (L) ((1, x) :: st) (σ))) : (mNp l D A ro h0 sh0 p e R s m args below meth c Q n0 t0 ad0 k (pc) (L) (st) (σ)) := by
  subst hc
  intro g1 g2 H locs ls ws tys hB
  exact lv_bipush cx.1 cx.2.1 hd (i32_back _).symm (hn g1 g2 H locs ls ws tys (hB.push (i32_rg _)))
theorem wr_sipush (cx : mCx k p s m args meth c) {n x : Int} (hd : decode (mBy k) pc = .ok (.sipush n, 3)) (hc : (Int16.ofInt n).toInt32.toInt = x) (hn : (mNp l D A ro h0 sh0 p e R s m args below meth c Q n0 t0 ad0 k (pc + 3) (L) ((1, x) :: st) (σ))) : (mNp l D A ro h0 sh0 p e R s m args below meth c Q n0 t0 ad0 k (pc) (L) (st) (σ)) := by
  subst hc
  intro g1 g2 H locs ls ws tys hB
  exact lv_sipush cx.1 cx.2.1 hd (i32_back _).symm (hn g1 g2 H locs ls ws tys (hB.push (i32_rg _)))
theorem wr_ldc (cx : mCx k p s m args meth c) {ix : Nat} {x : Int} (hd : decode (mBy k) pc = .ok (.ldc ix, 2)) (hw : Cond.constant (mO (mI0 k).1) ix (Int32.ofInt x) ∈ lw_g) (hc : (Int32.ofInt x).toInt = x) (hn : (mNp l D A ro h0 sh0 p e R s m args below meth c Q n0 t0 ad0 k (pc + 2) (L) ((1, x) :: st) (σ))) : (mNp l D A ro h0 sh0 p e R s m args below meth c Q n0 t0 ad0 k (pc) (L) (st) (σ)) := by
  intro g1 g2 H locs ls ws tys hB
  exact lv_ldc cx.1 cx.2.1 cx.2.2.2.1 (cx.2.2.2.2.1 _ hw) hd (hn g1 g2 H locs ls ws tys (hB.push (by show rgI x; rw [← hc]; exact i32_rg _)))
theorem wr_ldcw (cx : mCx k p s m args meth c) {ix : Nat} {x : Int} (hd : decode (mBy k) pc = .ok (.ldc_w ix, 3)) (hw : Cond.constant (mO (mI0 k).1) ix (Int32.ofInt x) ∈ lw_g) (hc : (Int32.ofInt x).toInt = x) (hn : (mNp l D A ro h0 sh0 p e R s m args below meth c Q n0 t0 ad0 k (pc + 3) (L) ((1, x) :: st) (σ))) : (mNp l D A ro h0 sh0 p e R s m args below meth c Q n0 t0 ad0 k (pc) (L) (st) (σ)) := by
  intro g1 g2 H locs ls ws tys hB
  exact lv_ldcw cx.1 cx.2.1 cx.2.2.2.1 (cx.2.2.2.2.1 _ hw) hd (hn g1 g2 H locs ls ws tys (hB.push (by show rgI x; rw [← hc]; exact i32_rg _)))
theorem wr_ldc2 (cx : mCx k p s m args meth c) {ix : Nat} {x : Int} (hd : decode (mBy k) pc = .ok (.ldc2_w ix, 3)) (hw : Cond.constantLong (mO (mI0 k).1) ix (Int64.ofInt x) ∈ lw_g) (hc : (Int64.ofInt x).toInt = x) (hn : (mNp l D A ro h0 sh0 p e R s m args below meth c Q n0 t0 ad0 k (pc + 3) (L) ((2, x) :: st) (σ))) : (mNp l D A ro h0 sh0 p e R s m args below meth c Q n0 t0 ad0 k (pc) (L) (st) (σ)) := by
  intro g1 g2 H locs ls ws tys hB
  exact lv_ldc2 cx.1 cx.2.1 cx.2.2.2.1 (cx.2.2.2.2.1 _ hw) hd (hn g1 g2 H locs ls ws tys (hB.push (by show rgL x; rw [← hc]; exact i64_rg _)))
theorem wr_lconst (cx : mCx k p s m args meth c) {n : Fin 2} {x : Int} (hd : decode (mBy k) pc = .ok (.lconst n, 1)) (hc : (Int64.ofNat (n : Nat)).toInt = x) (hn : (mNp l D A ro h0 sh0 p e R s m args below meth c Q n0 t0 ad0 k (pc + 1) (L) ((2, x) :: st) (σ))) : (mNp l D A ro h0 sh0 p e R s m args below meth c Q n0 t0 ad0 k (pc) (L) (st) (σ)) := by
  subst hc
  intro g1 g2 H locs ls ws tys hB
  exact lv_lconst cx.1 cx.2.1 hd (i64_back _).symm (hn g1 g2 H locs ls ws tys (hB.push (i64_rg _)))
theorem wr_null (cx : mCx k p s m args meth c) (hN : 0 ≤ σ.2.2.1) (hd : decode (mBy k) pc = .ok (.aconst_null, 1)) (hn : (mNp l D A ro h0 sh0 p e R s m args below meth c Q n0 t0 ad0 k (pc + 1) (L) ((3, 0) :: st) (σ))) : (mNp l D A ro h0 sh0 p e R s m args below meth c Q n0 t0 ad0 k (pc) (L) (st) (σ)) := by
  intro g1 g2 H locs ls ws tys hB
  exact lv_null cx.1 cx.2.1 hd (hn g1 g2 H locs ls ws tys (hB.push hN))
theorem encO_neg {ad : List Nat} {x : Int} (h : x < 0) : encO ad ro x = some (ro x) := by
  unfold encO
  rw [if_neg (by omega), if_neg (by omega)]
theorem wr_ldcS (cx : mCx k p s m args meth c) (kw : mKW A ro h0 sh0 s) (hN : 0 ≤ σ.2.2.1) {ix : Nat} {x : Int} {wi : Nat} (hd : decode (mBy k) pc = .ok (.ldc ix, 2)) (hw : (ix, x, wi) ∈ mSl (mI0 k).1) (hn : (mNp l D A ro h0 sh0 p e R s m args below meth c Q n0 t0 ad0 k (pc + 2) (L) ((3, x) :: st) (σ))) : (mNp l D A ro h0 sh0 p e R s m args below meth c Q n0 t0 ad0 k (pc) (L) (st) (σ)) := by
  intro g1 g2 H locs ls ws tys hB
  obtain ⟨hx0, tx, hR⟩ := kw.2.2.2.1 _ _ hw
  dsimp only at hx0 hR
  have h1 := hn g1 g2 H locs ls ws tys (hB.push (show x ≤ σ.2.2.1 by omega))
  have e1 : encV (mAd ws) ro (3, x) = .ref (ro x) := by show va_rf (encO (mAd ws) ro x) = _; rw [encO_neg hx0]; rfl
  rw [List.map_cons, e1] at h1
  exact va_ldcS cx.1 cx.2.1 cx.2.2.2.1 hR hd h1
theorem wr_iload (cx : mCx k p s m args meth c) {a : Nat} {x : Int} (hd : decode (mBy k) pc = .ok (.iload a, 2)) (hl : L[a]? = some (1, x)) (hn : (mNp l D A ro h0 sh0 p e R s m args below meth c Q n0 t0 ad0 k (pc + 2) (L) ((1, x) :: st) (σ))) : (mNp l D A ro h0 sh0 p e R s m args below meth c Q n0 t0 ad0 k (pc) (L) (st) (σ)) := by
  intro g1 g2 H locs ls ws tys hB
  obtain ⟨v1, v2⟩ := hB.2.2.1.2.2 a _ hl Nat.one_ne_zero
  exact lv_iload cx.1 cx.2.1 hd v2 (hn g1 g2 H locs ls ws tys (hB.push v1))
theorem wr_iload_n (cx : mCx k p s m args meth c) {j : Fin 4} {a : Nat} {x : Int} (hd : decode (mBy k) pc = .ok (.iload_n j, 1)) (hj : (j : Nat) = a) (hl : L[a]? = some (1, x)) (hn : (mNp l D A ro h0 sh0 p e R s m args below meth c Q n0 t0 ad0 k (pc + 1) (L) ((1, x) :: st) (σ))) : (mNp l D A ro h0 sh0 p e R s m args below meth c Q n0 t0 ad0 k (pc) (L) (st) (σ)) := by
  intro g1 g2 H locs ls ws tys hB
  obtain ⟨v1, v2⟩ := hB.2.2.1.2.2 a _ hl Nat.one_ne_zero
  exact lv_iload_n cx.1 cx.2.1 hd hj v2 (hn g1 g2 H locs ls ws tys (hB.push v1))
theorem wr_lload (cx : mCx k p s m args meth c) {a : Nat} {x : Int} (hd : decode (mBy k) pc = .ok (.lload a, 2)) (hl : L[a]? = some (2, x)) (hn : (mNp l D A ro h0 sh0 p e R s m args below meth c Q n0 t0 ad0 k (pc + 2) (L) ((2, x) :: st) (σ))) : (mNp l D A ro h0 sh0 p e R s m args below meth c Q n0 t0 ad0 k (pc) (L) (st) (σ)) := by
  intro g1 g2 H locs ls ws tys hB
  obtain ⟨v1, v2⟩ := hB.2.2.1.2.2 a _ hl ne2
  exact lv_lload cx.1 cx.2.1 hd v2 (hn g1 g2 H locs ls ws tys (hB.push v1))
theorem wr_lload_n (cx : mCx k p s m args meth c) {j : Fin 4} {a : Nat} {x : Int} (hd : decode (mBy k) pc = .ok (.lload_n j, 1)) (hj : (j : Nat) = a) (hl : L[a]? = some (2, x)) (hn : (mNp l D A ro h0 sh0 p e R s m args below meth c Q n0 t0 ad0 k (pc + 1) (L) ((2, x) :: st) (σ))) : (mNp l D A ro h0 sh0 p e R s m args below meth c Q n0 t0 ad0 k (pc) (L) (st) (σ)) := by
  intro g1 g2 H locs ls ws tys hB
  obtain ⟨v1, v2⟩ := hB.2.2.1.2.2 a _ hl ne2
  exact lv_lload_n cx.1 cx.2.1 hd hj v2 (hn g1 g2 H locs ls ws tys (hB.push v1))
theorem wr_aload (cx : mCx k p s m args meth c) {a : Nat} {x : Int} (hd : decode (mBy k) pc = .ok (.aload a, 2)) (hl : L[a]? = some (3, x)) (hn : (mNp l D A ro h0 sh0 p e R s m args below meth c Q n0 t0 ad0 k (pc + 2) (L) ((3, x) :: st) (σ))) : (mNp l D A ro h0 sh0 p e R s m args below meth c Q n0 t0 ad0 k (pc) (L) (st) (σ)) := by
  intro g1 g2 H locs ls ws tys hB
  obtain ⟨v1, v2⟩ := hB.2.2.1.2.2 a _ hl ne3
  exact lv_aloadG cx.1 cx.2.1 hd v2 (hn g1 g2 H locs ls ws tys (hB.push v1))
theorem wr_aload_n (cx : mCx k p s m args meth c) {j : Fin 4} {a : Nat} {x : Int} (hd : decode (mBy k) pc = .ok (.aload_n j, 1)) (hj : (j : Nat) = a) (hl : L[a]? = some (3, x)) (hn : (mNp l D A ro h0 sh0 p e R s m args below meth c Q n0 t0 ad0 k (pc + 1) (L) ((3, x) :: st) (σ))) : (mNp l D A ro h0 sh0 p e R s m args below meth c Q n0 t0 ad0 k (pc) (L) (st) (σ)) := by
  intro g1 g2 H locs ls ws tys hB
  obtain ⟨v1, v2⟩ := hB.2.2.1.2.2 a _ hl ne3
  exact lv_aload_nG cx.1 cx.2.1 hd hj v2 (hn g1 g2 H locs ls ws tys (hB.push v1))
theorem mB.set1 {H : Heap} {locs : List Loc} {ls ls' : Array Slot} {ws : va_W} {tys : List (ClassId × FieldType)} {a : Nat} {v : mV} (hB : mB D A ro h0 sh0 ad0 k s H locs ls L (v :: st) σ ws tys) (ha : a < L.length) (h2 : v.1 ≠ 2) (h' : lv_has ls' L.length ((a, encV (mAd ws) ro v) :: ((List.range L.length).filterMap fun i => match L[i]? with
    | some v => if v.1 = 0 then none else some (i, encV (mAd ws) ro v)
    | none => none).filter (fun q => !(q.1 == a) && !(q.1 + 1 == a && q.2.category == 2)))) : mB D A ro h0 sh0 ad0 k s H locs ls' (mset L a v) st σ ws tys :=
  ⟨hB.1, hB.2.1, mLoc_set1 hB.2.2.1 ha hB.top h2 h', by rw [mset_len]; exact hB.2.2.2.1, hB.pop.ok, hB.2.2.2.2.2⟩
theorem mB.set2 {H : Heap} {locs : List Loc} {ls ls' : Array Slot} {ws : va_W} {tys : List (ClassId × FieldType)} {a : Nat} {v : mV} (hB : mB D A ro h0 sh0 ad0 k s H locs ls L (v :: st) σ ws tys) (ha : a + 1 < L.length) (h2 : v.1 = 2) (h' : lv_has ls' L.length ((a, encV (mAd ws) ro v) :: ((List.range L.length).filterMap fun i => match L[i]? with
    | some v => if v.1 = 0 then none else some (i, encV (mAd ws) ro v)
    | none => none).filter (fun q => !(q.1 == a) && (!(q.1 == a + 1) && !(q.1 + 1 == a && q.2.category == 2))))) : mB D A ro h0 sh0 ad0 k s H locs ls' (mset L a v) st σ ws tys :=
  ⟨hB.1, hB.2.1, mLoc_set2 hB.2.2.1 ha hB.top h2 h', by rw [mset_len]; exact hB.2.2.2.1, hB.pop.ok, hB.2.2.2.2.2⟩
theorem o12 {x : Int} : ((1, x) : mV).1 ≠ 2 := (by decide : (1 : Nat) ≠ 2)
theorem o32 {x : Int} : ((3, x) : mV).1 ≠ 2 := (by decide : (3 : Nat) ≠ 2)
theorem wr_istore (cx : mCx k p s m args meth c) {a : Nat} {x : Int} (hd : decode (mBy k) pc = .ok (.istore a, 2)) (ha : a < L.length) (hn : (mNp l D A ro h0 sh0 p e R s m args below meth c Q n0 t0 ad0 k (pc + 2) (mset L a (1, x)) (st) (σ))) : (mNp l D A ro h0 sh0 p e R s m args below meth c Q n0 t0 ad0 k (pc) (L) ((1, x) :: st) (σ)) := by
  intro g1 g2 H locs ls ws tys hB
  exact lv_istore cx.1 cx.2.1 hd (mLoc_has hB.2.2.1) ha rfl (fun ls' hl' => hn g1 g2 H locs ls' ws tys (hB.set1 ha o12 hl'))
theorem wr_istore_n (cx : mCx k p s m args meth c) {j : Fin 4} {a : Nat} {x : Int} (hd : decode (mBy k) pc = .ok (.istore_n j, 1)) (hj : (j : Nat) = a) (ha : a < L.length) (hn : (mNp l D A ro h0 sh0 p e R s m args below meth c Q n0 t0 ad0 k (pc + 1) (mset L a (1, x)) (st) (σ))) : (mNp l D A ro h0 sh0 p e R s m args below meth c Q n0 t0 ad0 k (pc) (L) ((1, x) :: st) (σ)) := by
  intro g1 g2 H locs ls ws tys hB
  exact lv_istore_n cx.1 cx.2.1 hd hj (mLoc_has hB.2.2.1) ha rfl (fun ls' hl' => hn g1 g2 H locs ls' ws tys (hB.set1 ha o12 hl'))
theorem wr_lstore (cx : mCx k p s m args meth c) {a : Nat} {x : Int} (hd : decode (mBy k) pc = .ok (.lstore a, 2)) (ha : a + 1 < L.length) (hn : (mNp l D A ro h0 sh0 p e R s m args below meth c Q n0 t0 ad0 k (pc + 2) (mset L a (2, x)) (st) (σ))) : (mNp l D A ro h0 sh0 p e R s m args below meth c Q n0 t0 ad0 k (pc) (L) ((2, x) :: st) (σ)) := by
  intro g1 g2 H locs ls ws tys hB
  exact lv_lstore cx.1 cx.2.1 hd (mLoc_has hB.2.2.1) ha rfl (fun ls' hl' => hn g1 g2 H locs ls' ws tys (hB.set2 ha rfl hl'))
theorem wr_lstore_n (cx : mCx k p s m args meth c) {j : Fin 4} {a : Nat} {x : Int} (hd : decode (mBy k) pc = .ok (.lstore_n j, 1)) (hj : (j : Nat) = a) (ha : a + 1 < L.length) (hn : (mNp l D A ro h0 sh0 p e R s m args below meth c Q n0 t0 ad0 k (pc + 1) (mset L a (2, x)) (st) (σ))) : (mNp l D A ro h0 sh0 p e R s m args below meth c Q n0 t0 ad0 k (pc) (L) ((2, x) :: st) (σ)) := by
  intro g1 g2 H locs ls ws tys hB
  exact lv_lstore_n cx.1 cx.2.1 hd hj (mLoc_has hB.2.2.1) ha rfl (fun ls' hl' => hn g1 g2 H locs ls' ws tys (hB.set2 ha rfl hl'))
theorem wr_astore (cx : mCx k p s m args meth c) {a : Nat} {x : Int} (hd : decode (mBy k) pc = .ok (.astore a, 2)) (ha : a < L.length) (hn : (mNp l D A ro h0 sh0 p e R s m args below meth c Q n0 t0 ad0 k (pc + 2) (mset L a (3, x)) (st) (σ))) : (mNp l D A ro h0 sh0 p e R s m args below meth c Q n0 t0 ad0 k (pc) (L) ((3, x) :: st) (σ)) := by
  intro g1 g2 H locs ls ws tys hB
  exact lv_astoreG cx.1 cx.2.1 hd (mLoc_has hB.2.2.1) ha (fun ls' hl' => hn g1 g2 H locs ls' ws tys (hB.set1 ha o32 hl'))
theorem wr_astore_n (cx : mCx k p s m args meth c) {j : Fin 4} {a : Nat} {x : Int} (hd : decode (mBy k) pc = .ok (.astore_n j, 1)) (hj : (j : Nat) = a) (ha : a < L.length) (hn : (mNp l D A ro h0 sh0 p e R s m args below meth c Q n0 t0 ad0 k (pc + 1) (mset L a (3, x)) (st) (σ))) : (mNp l D A ro h0 sh0 p e R s m args below meth c Q n0 t0 ad0 k (pc) (L) ((3, x) :: st) (σ)) := by
  intro g1 g2 H locs ls ws tys hB
  exact lv_astore_nG cx.1 cx.2.1 hd hj (mLoc_has hB.2.2.1) ha (fun ls' hl' => hn g1 g2 H locs ls' ws tys (hB.set1 ha o32 hl'))
theorem wr_iinc (cx : mCx k p s m args meth c) {a : Nat} {n x y : Int} (hd : decode (mBy k) pc = .ok (.iinc a n, 3)) (hc : (Int32.ofInt n).toInt = y) (hl : L[a]? = some (1, x)) (hn : (mNp l D A ro h0 sh0 p e R s m args below meth c Q n0 t0 ad0 k (pc + 3) (mset L a (1, w32 (x + y))) (st) (σ))) : (mNp l D A ro h0 sh0 p e R s m args below meth c Q n0 t0 ad0 k (pc) (L) (st) (σ)) := by
  intro g1 g2 H locs ls ws tys hB
  obtain ⟨v1, v2⟩ := hB.2.2.1.2.2 a _ hl Nat.one_ne_zero
  obtain ⟨j, hj⟩ := List.getElem?_of_mem (mLoc_in (ad := mAd ws) (ro := ro) hl Nat.one_ne_zero)
  have ha : a < L.length := (List.getElem?_eq_some_iff.mp hl).1
  exact lv_iinc (v := Int32.ofInt (w32 (x + y))) cx.1 cx.2.1 hd (mLoc_has hB.2.2.1) hj (by rw [← i32_add, ← hc, i32_back]) ha rfl (fun ls' hl' => hn g1 g2 H locs ls' ws tys ((hB.push (v := (1, w32 (x + y))) (rgI_w32 _)).set1 ha o12 hl'))
theorem wr_iadd (cx : mCx k p s m args meth c) {x y : Int} (hd : decode (mBy k) pc = .ok (.iadd, 1)) (hn : (mNp l D A ro h0 sh0 p e R s m args below meth c Q n0 t0 ad0 k (pc + 1) (L) ((1, w32 (x + y)) :: st) (σ))) : (mNp l D A ro h0 sh0 p e R s m args below meth c Q n0 t0 ad0 k (pc) (L) ((1, y) :: (1, x) :: st) (σ)) := by
  intro g1 g2 H locs ls ws tys hB
  exact lv_iadd (x := Int32.ofInt x) (y := Int32.ofInt y) cx.1 cx.2.1 hd (by rw [i32_add]; exact hn g1 g2 H locs ls ws tys (hB.pop.pop.push (rgI_w32 _)))
theorem wr_isub (cx : mCx k p s m args meth c) {x y : Int} (hd : decode (mBy k) pc = .ok (.isub, 1)) (hn : (mNp l D A ro h0 sh0 p e R s m args below meth c Q n0 t0 ad0 k (pc + 1) (L) ((1, w32 (x - y)) :: st) (σ))) : (mNp l D A ro h0 sh0 p e R s m args below meth c Q n0 t0 ad0 k (pc) (L) ((1, y) :: (1, x) :: st) (σ)) := by
  intro g1 g2 H locs ls ws tys hB
  exact lv_isub (x := Int32.ofInt x) (y := Int32.ofInt y) cx.1 cx.2.1 hd (by rw [i32_sub]; exact hn g1 g2 H locs ls ws tys (hB.pop.pop.push (rgI_w32 _)))
theorem wr_imul (cx : mCx k p s m args meth c) {x y : Int} (hd : decode (mBy k) pc = .ok (.imul, 1)) (hn : (mNp l D A ro h0 sh0 p e R s m args below meth c Q n0 t0 ad0 k (pc + 1) (L) ((1, w32 (x * y)) :: st) (σ))) : (mNp l D A ro h0 sh0 p e R s m args below meth c Q n0 t0 ad0 k (pc) (L) ((1, y) :: (1, x) :: st) (σ)) := by
  intro g1 g2 H locs ls ws tys hB
  exact lv_imul (x := Int32.ofInt x) (y := Int32.ofInt y) cx.1 cx.2.1 hd (by rw [i32_mul]; exact hn g1 g2 H locs ls ws tys (hB.pop.pop.push (rgI_w32 _)))
theorem wr_idiv (cx : mCx k p s m args meth c) {x y : Int} (hd : decode (mBy k) pc = .ok (.idiv, 1)) (hy : y ≠ 0) (hn : (mNp l D A ro h0 sh0 p e R s m args below meth c Q n0 t0 ad0 k (pc + 1) (L) ((1, w32 (Int.tdiv x y)) :: st) (σ))) : (mNp l D A ro h0 sh0 p e R s m args below meth c Q n0 t0 ad0 k (pc) (L) ((1, y) :: (1, x) :: st) (σ)) := by
  intro g1 g2 H locs ls ws tys hB
  exact lv_idiv (x := Int32.ofInt x) (y := Int32.ofInt y) cx.1 cx.2.1 hd (fun q => hy ((i32_eq hB.top (by unfold rgI; omega)).mp q)) (by rw [i32_div hB.pop.top hB.top]; exact hn g1 g2 H locs ls ws tys (hB.pop.pop.push (rgI_w32 _)))
theorem wr_irem (cx : mCx k p s m args meth c) {x y : Int} (hd : decode (mBy k) pc = .ok (.irem, 1)) (hy : y ≠ 0) (hn : (mNp l D A ro h0 sh0 p e R s m args below meth c Q n0 t0 ad0 k (pc + 1) (L) ((1, Int.tmod x y) :: st) (σ))) : (mNp l D A ro h0 sh0 p e R s m args below meth c Q n0 t0 ad0 k (pc) (L) ((1, y) :: (1, x) :: st) (σ)) := by
  intro g1 g2 H locs ls ws tys hB
  exact lv_irem (x := Int32.ofInt x) (y := Int32.ofInt y) cx.1 cx.2.1 hd (fun q => hy ((i32_eq hB.top (by unfold rgI; omega)).mp q)) (by rw [i32_rem hB.pop.top hB.top]; exact hn g1 g2 H locs ls ws tys (hB.pop.pop.push (rgI_tmod hB.pop.top hy)))
theorem wr_iand (cx : mCx k p s m args meth c) {x y : Int} (hd : decode (mBy k) pc = .ok (.iand, 1)) (hn : (mNp l D A ro h0 sh0 p e R s m args below meth c Q n0 t0 ad0 k (pc + 1) (L) ((1, iand x y) :: st) (σ))) : (mNp l D A ro h0 sh0 p e R s m args below meth c Q n0 t0 ad0 k (pc) (L) ((1, y) :: (1, x) :: st) (σ)) := by
  intro g1 g2 H locs ls ws tys hB
  exact lv_iand (x := Int32.ofInt x) (y := Int32.ofInt y) cx.1 cx.2.1 hd (by rw [← i32_back (Int32.ofInt x &&& Int32.ofInt y)]; exact hn g1 g2 H locs ls ws tys (hB.pop.pop.push (i32_rg _)))
theorem wr_ior (cx : mCx k p s m args meth c) {x y : Int} (hd : decode (mBy k) pc = .ok (.ior, 1)) (hn : (mNp l D A ro h0 sh0 p e R s m args below meth c Q n0 t0 ad0 k (pc + 1) (L) ((1, ior x y) :: st) (σ))) : (mNp l D A ro h0 sh0 p e R s m args below meth c Q n0 t0 ad0 k (pc) (L) ((1, y) :: (1, x) :: st) (σ)) := by
  intro g1 g2 H locs ls ws tys hB
  exact lv_ior (x := Int32.ofInt x) (y := Int32.ofInt y) cx.1 cx.2.1 hd (by rw [← i32_back (Int32.ofInt x ||| Int32.ofInt y)]; exact hn g1 g2 H locs ls ws tys (hB.pop.pop.push (i32_rg _)))
theorem wr_ixor (cx : mCx k p s m args meth c) {x y : Int} (hd : decode (mBy k) pc = .ok (.ixor, 1)) (hn : (mNp l D A ro h0 sh0 p e R s m args below meth c Q n0 t0 ad0 k (pc + 1) (L) ((1, ixor x y) :: st) (σ))) : (mNp l D A ro h0 sh0 p e R s m args below meth c Q n0 t0 ad0 k (pc) (L) ((1, y) :: (1, x) :: st) (σ)) := by
  intro g1 g2 H locs ls ws tys hB
  exact lv_ixor (x := Int32.ofInt x) (y := Int32.ofInt y) cx.1 cx.2.1 hd (by rw [← i32_back (Int32.ofInt x ^^^ Int32.ofInt y)]; exact hn g1 g2 H locs ls ws tys (hB.pop.pop.push (i32_rg _)))
theorem wr_ishl (cx : mCx k p s m args meth c) {x y : Int} (hd : decode (mBy k) pc = .ok (.ishl, 1)) (hn : (mNp l D A ro h0 sh0 p e R s m args below meth c Q n0 t0 ad0 k (pc + 1) (L) ((1, ishl x y) :: st) (σ))) : (mNp l D A ro h0 sh0 p e R s m args below meth c Q n0 t0 ad0 k (pc) (L) ((1, y) :: (1, x) :: st) (σ)) := by
  intro g1 g2 H locs ls ws tys hB
  exact lv_ishl (x := Int32.ofInt x) (y := Int32.ofInt y) cx.1 cx.2.1 hd (by rw [← i32_back (Int32.ofInt x <<< (Int32.ofInt y &&& 31))]; exact hn g1 g2 H locs ls ws tys (hB.pop.pop.push (i32_rg _)))
theorem wr_ishr (cx : mCx k p s m args meth c) {x y : Int} (hd : decode (mBy k) pc = .ok (.ishr, 1)) (hn : (mNp l D A ro h0 sh0 p e R s m args below meth c Q n0 t0 ad0 k (pc + 1) (L) ((1, ishr x y) :: st) (σ))) : (mNp l D A ro h0 sh0 p e R s m args below meth c Q n0 t0 ad0 k (pc) (L) ((1, y) :: (1, x) :: st) (σ)) := by
  intro g1 g2 H locs ls ws tys hB
  exact lv_ishr (x := Int32.ofInt x) (y := Int32.ofInt y) cx.1 cx.2.1 hd (by rw [← i32_back (Int32.ofInt x >>> (Int32.ofInt y &&& 31))]; exact hn g1 g2 H locs ls ws tys (hB.pop.pop.push (i32_rg _)))
theorem wr_iushr (cx : mCx k p s m args meth c) {x y : Int} (hd : decode (mBy k) pc = .ok (.iushr, 1)) (hn : (mNp l D A ro h0 sh0 p e R s m args below meth c Q n0 t0 ad0 k (pc + 1) (L) ((1, iushr x y) :: st) (σ))) : (mNp l D A ro h0 sh0 p e R s m args below meth c Q n0 t0 ad0 k (pc) (L) ((1, y) :: (1, x) :: st) (σ)) := by
  intro g1 g2 H locs ls ws tys hB
  exact lv_iushr (x := Int32.ofInt x) (y := Int32.ofInt y) (v := Int32.ofInt (iushr x y)) cx.1 cx.2.1 hd (i32_back _).symm (hn g1 g2 H locs ls ws tys (hB.pop.pop.push (i32_rg _)))
theorem wr_ladd (cx : mCx k p s m args meth c) {x y : Int} (hd : decode (mBy k) pc = .ok (.ladd, 1)) (hn : (mNp l D A ro h0 sh0 p e R s m args below meth c Q n0 t0 ad0 k (pc + 1) (L) ((2, w64 (x + y)) :: st) (σ))) : (mNp l D A ro h0 sh0 p e R s m args below meth c Q n0 t0 ad0 k (pc) (L) ((2, y) :: (2, x) :: st) (σ)) := by
  intro g1 g2 H locs ls ws tys hB
  exact lv_ladd (x := Int64.ofInt x) (y := Int64.ofInt y) cx.1 cx.2.1 hd (by rw [i64_add]; exact hn g1 g2 H locs ls ws tys (hB.pop.pop.push (rgL_w64 _)))
theorem wr_lsub (cx : mCx k p s m args meth c) {x y : Int} (hd : decode (mBy k) pc = .ok (.lsub, 1)) (hn : (mNp l D A ro h0 sh0 p e R s m args below meth c Q n0 t0 ad0 k (pc + 1) (L) ((2, w64 (x - y)) :: st) (σ))) : (mNp l D A ro h0 sh0 p e R s m args below meth c Q n0 t0 ad0 k (pc) (L) ((2, y) :: (2, x) :: st) (σ)) := by
  intro g1 g2 H locs ls ws tys hB
  exact lv_lsub (x := Int64.ofInt x) (y := Int64.ofInt y) cx.1 cx.2.1 hd (by rw [i64_sub]; exact hn g1 g2 H locs ls ws tys (hB.pop.pop.push (rgL_w64 _)))
theorem wr_lmul (cx : mCx k p s m args meth c) {x y : Int} (hd : decode (mBy k) pc = .ok (.lmul, 1)) (hn : (mNp l D A ro h0 sh0 p e R s m args below meth c Q n0 t0 ad0 k (pc + 1) (L) ((2, w64 (x * y)) :: st) (σ))) : (mNp l D A ro h0 sh0 p e R s m args below meth c Q n0 t0 ad0 k (pc) (L) ((2, y) :: (2, x) :: st) (σ)) := by
  intro g1 g2 H locs ls ws tys hB
  exact lv_lmul (x := Int64.ofInt x) (y := Int64.ofInt y) cx.1 cx.2.1 hd (by rw [i64_mul]; exact hn g1 g2 H locs ls ws tys (hB.pop.pop.push (rgL_w64 _)))
theorem wr_ldiv (cx : mCx k p s m args meth c) {x y : Int} (hd : decode (mBy k) pc = .ok (.ldiv, 1)) (hy : y ≠ 0) (hn : (mNp l D A ro h0 sh0 p e R s m args below meth c Q n0 t0 ad0 k (pc + 1) (L) ((2, w64 (Int.tdiv x y)) :: st) (σ))) : (mNp l D A ro h0 sh0 p e R s m args below meth c Q n0 t0 ad0 k (pc) (L) ((2, y) :: (2, x) :: st) (σ)) := by
  intro g1 g2 H locs ls ws tys hB
  exact lv_ldiv (x := Int64.ofInt x) (y := Int64.ofInt y) cx.1 cx.2.1 hd (fun q => hy ((i64_eq hB.top (by unfold rgL; omega)).mp q)) (by rw [i64_div hB.pop.top hB.top]; exact hn g1 g2 H locs ls ws tys (hB.pop.pop.push (rgL_w64 _)))
theorem wr_lrem (cx : mCx k p s m args meth c) {x y : Int} (hd : decode (mBy k) pc = .ok (.lrem, 1)) (hy : y ≠ 0) (hn : (mNp l D A ro h0 sh0 p e R s m args below meth c Q n0 t0 ad0 k (pc + 1) (L) ((2, Int.tmod x y) :: st) (σ))) : (mNp l D A ro h0 sh0 p e R s m args below meth c Q n0 t0 ad0 k (pc) (L) ((2, y) :: (2, x) :: st) (σ)) := by
  intro g1 g2 H locs ls ws tys hB
  exact lv_lrem (x := Int64.ofInt x) (y := Int64.ofInt y) cx.1 cx.2.1 hd (fun q => hy ((i64_eq hB.top (by unfold rgL; omega)).mp q)) (by rw [i64_rem hB.pop.top hB.top]; exact hn g1 g2 H locs ls ws tys (hB.pop.pop.push (rgL_tmod hB.pop.top hy)))
theorem wr_ineg (cx : mCx k p s m args meth c) {x : Int} (hd : decode (mBy k) pc = .ok (.ineg, 1)) (hn : (mNp l D A ro h0 sh0 p e R s m args below meth c Q n0 t0 ad0 k (pc + 1) (L) ((1, w32 (-x)) :: st) (σ))) : (mNp l D A ro h0 sh0 p e R s m args below meth c Q n0 t0 ad0 k (pc) (L) ((1, x) :: st) (σ)) := by
  intro g1 g2 H locs ls ws tys hB
  exact lv_ineg (x := Int32.ofInt x) cx.1 cx.2.1 hd (by rw [i32_neg]; exact hn g1 g2 H locs ls ws tys (hB.pop.push (rgI_w32 _)))
theorem wr_i2l (cx : mCx k p s m args meth c) {x : Int} (hd : decode (mBy k) pc = .ok (.i2l, 1)) (hn : (mNp l D A ro h0 sh0 p e R s m args below meth c Q n0 t0 ad0 k (pc + 1) (L) ((2, x) :: st) (σ))) : (mNp l D A ro h0 sh0 p e R s m args below meth c Q n0 t0 ad0 k (pc) (L) ((1, x) :: st) (σ)) := by
  intro g1 g2 H locs ls ws tys hB
  exact lv_i2l (x := Int32.ofInt x) cx.1 cx.2.1 hd (i32_64 hB.top) (hn g1 g2 H locs ls ws tys (hB.pop.push (rgI_L hB.top)))
theorem wr_l2i (cx : mCx k p s m args meth c) {x : Int} (hd : decode (mBy k) pc = .ok (.l2i, 1)) (hn : (mNp l D A ro h0 sh0 p e R s m args below meth c Q n0 t0 ad0 k (pc + 1) (L) ((1, w32 x) :: st) (σ))) : (mNp l D A ro h0 sh0 p e R s m args below meth c Q n0 t0 ad0 k (pc) (L) ((2, x) :: st) (σ)) := by
  intro g1 g2 H locs ls ws tys hB
  exact lv_l2i (x := Int64.ofInt x) cx.1 cx.2.1 hd (i64_32 x hB.top) (hn g1 g2 H locs ls ws tys (hB.pop.push (rgI_w32 _)))
theorem wr_i2b (cx : mCx k p s m args meth c) {x : Int} (hd : decode (mBy k) pc = .ok (.i2b, 1)) (hn : (mNp l D A ro h0 sh0 p e R s m args below meth c Q n0 t0 ad0 k (pc + 1) (L) ((1, w8 x) :: st) (σ))) : (mNp l D A ro h0 sh0 p e R s m args below meth c Q n0 t0 ad0 k (pc) (L) ((1, x) :: st) (σ)) := by
  intro g1 g2 H locs ls ws tys hB
  exact lv_i2b (x := Int32.ofInt x) cx.1 cx.2.1 hd (i32_8 x hB.top) (hn g1 g2 H locs ls ws tys (hB.pop.push (by show rgI (w8 x); unfold rgI w8; omega)))
theorem wr_lcmp (cx : mCx k p s m args meth c) {x y : Int} (hd : decode (mBy k) pc = .ok (.lcmp, 1)) (hn : (mNp l D A ro h0 sh0 p e R s m args below meth c Q n0 t0 ad0 k (pc + 1) (L) ((1, lcp x y) :: st) (σ))) : (mNp l D A ro h0 sh0 p e R s m args below meth c Q n0 t0 ad0 k (pc) (L) ((2, y) :: (2, x) :: st) (σ)) := by
  intro g1 g2 H locs ls ws tys hB
  exact W.lcmp (x := Int64.ofInt x) (y := Int64.ofInt y) cx.1 cx.2.1 hd (by rw [i64_cmp hB.pop.top hB.top]; exact hn g1 g2 H locs ls ws tys (hB.pop.pop.push (by show rgI (lcp x y); unfold lcp rgI; split <;> (try split) <;> omega)))
/-- what a branch asks -/
def mcd (a : Nat) (x y : Int) : Prop := match a with
  | 0 => x = y
  | 1 => ¬ x = y
  | 2 => x < y
  | 3 => ¬ x < y
  | 4 => y < x
  | _ => ¬ y < x
theorem rg0 : rgI 0 := by unfold rgI; omega
theorem wr_if (cx : mCx k p s m args meth c) (cd : Jvm.ClassFile.Cond) {x off : Int} {tgt : Nat} (hd : decode (mBy k) pc = .ok (.ifCond cd off, 3)) (ht : (pc : Int) + off = (tgt : Int)) (hT : mcd (mcn cd) x 0 → (mNp l D A ro h0 sh0 p e R s m args below meth c Q n0 t0 ad0 k (tgt) (L) (st) (σ))) (hF : ¬ mcd (mcn cd) x 0 → (mNp l D A ro h0 sh0 p e R s m args below meth c Q n0 t0 ad0 k (pc + 3) (L) (st) (σ))) : (mNp l D A ro h0 sh0 p e R s m args below meth c Q n0 t0 ad0 k (pc) (L) ((1, x) :: st) (σ)) := by
  intro g1 g2 H locs ls ws tys hB
  have hx : rgI x := hB.top
  cases cd with
  | eq => exact lv_if_eq (x := Int32.ofInt x) cx.1 cx.2.1 hd ht (fun q => hT ((i32_eq hx rg0).mp q) g1 g2 H locs ls ws tys hB.pop) (fun q => hF (fun z => q ((i32_eq hx rg0).mpr z)) g1 g2 H locs ls ws tys hB.pop)
  | ne => exact lv_if_ne (x := Int32.ofInt x) cx.1 cx.2.1 hd ht (fun q => hT (fun z => q ((i32_eq hx rg0).mpr z)) g1 g2 H locs ls ws tys hB.pop) (fun q => hF (fun z => z ((i32_eq hx rg0).mp q)) g1 g2 H locs ls ws tys hB.pop)
  | lt => exact lv_if_lt (x := Int32.ofInt x) cx.1 cx.2.1 hd ht (fun q => hT ((i32_lt hx rg0).mp q) g1 g2 H locs ls ws tys hB.pop) (fun q => hF (fun z => q ((i32_lt hx rg0).mpr z)) g1 g2 H locs ls ws tys hB.pop)
  | ge => exact lv_if_ge (x := Int32.ofInt x) cx.1 cx.2.1 hd ht (fun q => hT (Int.not_lt.mpr ((i32_le rg0 hx).mp q)) g1 g2 H locs ls ws tys hB.pop) (fun q => hF (fun z => q ((i32_le rg0 hx).mpr (Int.not_lt.mp z))) g1 g2 H locs ls ws tys hB.pop)
  | gt => exact lv_if_gt (x := Int32.ofInt x) cx.1 cx.2.1 hd ht (fun q => hT ((i32_lt rg0 hx).mp q) g1 g2 H locs ls ws tys hB.pop) (fun q => hF (fun z => q ((i32_lt rg0 hx).mpr z)) g1 g2 H locs ls ws tys hB.pop)
  | le => exact lv_if_le (x := Int32.ofInt x) cx.1 cx.2.1 hd ht (fun q => hT (Int.not_lt.mpr ((i32_le hx rg0).mp q)) g1 g2 H locs ls ws tys hB.pop) (fun q => hF (fun z => q ((i32_le hx rg0).mpr (Int.not_lt.mp z))) g1 g2 H locs ls ws tys hB.pop)
theorem wr_icmp (cx : mCx k p s m args meth c) (cd : Jvm.ClassFile.Cond) {x y off : Int} {tgt : Nat} (hd : decode (mBy k) pc = .ok (.if_icmp cd off, 3)) (ht : (pc : Int) + off = (tgt : Int)) (hT : mcd (mcn cd) x y → (mNp l D A ro h0 sh0 p e R s m args below meth c Q n0 t0 ad0 k (tgt) (L) (st) (σ))) (hF : ¬ mcd (mcn cd) x y → (mNp l D A ro h0 sh0 p e R s m args below meth c Q n0 t0 ad0 k (pc + 3) (L) (st) (σ))) : (mNp l D A ro h0 sh0 p e R s m args below meth c Q n0 t0 ad0 k (pc) (L) ((1, y) :: (1, x) :: st) (σ)) := by
  intro g1 g2 H locs ls ws tys hB
  have hx : rgI x := hB.pop.top
  have hy : rgI y := hB.top
  cases cd with
  | eq => exact lv_icmp_eq (x := Int32.ofInt x) (y := Int32.ofInt y) cx.1 cx.2.1 hd ht (fun q => hT ((i32_eq hx hy).mp q) g1 g2 H locs ls ws tys hB.pop.pop) (fun q => hF (fun z => q ((i32_eq hx hy).mpr z)) g1 g2 H locs ls ws tys hB.pop.pop)
  | ne => exact lv_icmp_ne (x := Int32.ofInt x) (y := Int32.ofInt y) cx.1 cx.2.1 hd ht (fun q => hT (fun z => q ((i32_eq hx hy).mpr z)) g1 g2 H locs ls ws tys hB.pop.pop) (fun q => hF (fun z => z ((i32_eq hx hy).mp q)) g1 g2 H locs ls ws tys hB.pop.pop)
  | lt => exact lv_icmp_lt (x := Int32.ofInt x) (y := Int32.ofInt y) cx.1 cx.2.1 hd ht (fun q => hT ((i32_lt hx hy).mp q) g1 g2 H locs ls ws tys hB.pop.pop) (fun q => hF (fun z => q ((i32_lt hx hy).mpr z)) g1 g2 H locs ls ws tys hB.pop.pop)
  | ge => exact lv_icmp_ge (x := Int32.ofInt x) (y := Int32.ofInt y) cx.1 cx.2.1 hd ht (fun q => hT (Int.not_lt.mpr ((i32_le hy hx).mp q)) g1 g2 H locs ls ws tys hB.pop.pop) (fun q => hF (fun z => q ((i32_le hy hx).mpr (Int.not_lt.mp z))) g1 g2 H locs ls ws tys hB.pop.pop)
  | gt => exact lv_icmp_gt (x := Int32.ofInt x) (y := Int32.ofInt y) cx.1 cx.2.1 hd ht (fun q => hT ((i32_lt hy hx).mp q) g1 g2 H locs ls ws tys hB.pop.pop) (fun q => hF (fun z => q ((i32_lt hy hx).mpr z)) g1 g2 H locs ls ws tys hB.pop.pop)
  | le => exact lv_icmp_le (x := Int32.ofInt x) (y := Int32.ofInt y) cx.1 cx.2.1 hd ht (fun q => hT (Int.not_lt.mpr ((i32_le hx hy).mp q)) g1 g2 H locs ls ws tys hB.pop.pop) (fun q => hF (fun z => q ((i32_le hx hy).mpr (Int.not_lt.mp z))) g1 g2 H locs ls ws tys hB.pop.pop)
theorem wr_goto (cx : mCx k p s m args meth c) {off : Int} {tgt : Nat} (hd : decode (mBy k) pc = .ok (.goto off, 3)) (ht : (pc : Int) + off = (tgt : Int)) (hn : (mNp l D A ro h0 sh0 p e R s m args below meth c Q n0 t0 ad0 k (tgt) (L) (st) (σ))) : (mNp l D A ro h0 sh0 p e R s m args below meth c Q n0 t0 ad0 k (pc) (L) (st) (σ)) := by
  intro g1 g2 H locs ls ws tys hB
  exact lv_goto cx.1 cx.2.1 hd ht (hn g1 g2 H locs ls ws tys hB)
theorem encO_none {ad : List Nat} {x : Int} : encO ad ro x = none ↔ x = 0 := by
  unfold encO
  by_cases h : x = 0
  · simp [h]
  · rw [if_neg h]
    by_cases h2 : 0 < x <;> simp [h, h2]
theorem wr_ifnull (cx : mCx k p s m args meth c) {x off : Int} {tgt : Nat} (hd : decode (mBy k) pc = .ok (.ifnull off, 3)) (ht : (pc : Int) + off = (tgt : Int)) (hT : x = 0 → (mNp l D A ro h0 sh0 p e R s m args below meth c Q n0 t0 ad0 k (tgt) (L) (st) (σ))) (hF : ¬ x = 0 → (mNp l D A ro h0 sh0 p e R s m args below meth c Q n0 t0 ad0 k (pc + 3) (L) (st) (σ))) : (mNp l D A ro h0 sh0 p e R s m args below meth c Q n0 t0 ad0 k (pc) (L) ((3, x) :: st) (σ)) := by
  intro g1 g2 H locs ls ws tys hB
  show W _ _ _ _ _ _ _ _ _ _ _ _ _ _ _ (F0 m pc ls (va_rf (encO (mAd ws) ro x) :: st.map (encV (mAd ws) ro)))
  cases he : encO (mAd ws) ro x with
  | none => exact lv_ifnullN cx.1 cx.2.1 hd ht (hT (encO_none.mp he) g1 g2 H locs ls ws tys hB.pop)
  | some q => exact lv_ifnull cx.1 cx.2.1 hd (hF (fun z => by rw [encO_none.mpr z] at he; cases he) g1 g2 H locs ls ws tys hB.pop)
theorem wr_ifnonnull (cx : mCx k p s m args meth c) {x off : Int} {tgt : Nat} (hd : decode (mBy k) pc = .ok (.ifnonnull off, 3)) (ht : (pc : Int) + off = (tgt : Int)) (hT : ¬ x = 0 → (mNp l D A ro h0 sh0 p e R s m args below meth c Q n0 t0 ad0 k (tgt) (L) (st) (σ))) (hF : x = 0 → (mNp l D A ro h0 sh0 p e R s m args below meth c Q n0 t0 ad0 k (pc + 3) (L) (st) (σ))) : (mNp l D A ro h0 sh0 p e R s m args below meth c Q n0 t0 ad0 k (pc) (L) ((3, x) :: st) (σ)) := by
  intro g1 g2 H locs ls ws tys hB
  show W _ _ _ _ _ _ _ _ _ _ _ _ _ _ _ (F0 m pc ls (va_rf (encO (mAd ws) ro x) :: st.map (encV (mAd ws) ro)))
  cases he : encO (mAd ws) ro x with
  | none => exact lv_ifnonnullN cx.1 cx.2.1 hd (hF (encO_none.mp he) g1 g2 H locs ls ws tys hB.pop)
  | some q => exact lv_ifnonnull cx.1 cx.2.1 hd ht (hT (fun z => by rw [encO_none.mpr z] at he; cases he) g1 g2 H locs ls ws tys hB.pop)
/-- two references are one where their numbers are -/
theorem encO_inj {H : Heap} {ws : va_W} {tys : List (ClassId × FieldType)} (h : mRel D A ro h0 sh0 σ ws tys s H) {x y : Int} (hx : 0 ≤ x ∧ x ≤ σ.2.2.1) (hy : 0 ≤ y ∧ y ≤ σ.2.2.1) (he : encO (mAd ws) ro x = encO (mAd ws) ro y) : x = y := by
  have hl := h.1.1
  by_cases h1 : x = 0
  · have := encO_none.mp (he.symm.trans (encO_none.mpr h1)); omega
  · by_cases h2 : y = 0
    · exact absurd (encO_none.mp (he.trans (encO_none.mpr h2))) h1
    · have hx1 : (x - 1).toNat < ws.length := by omega
      have hy1 : (y - 1).toNat < ws.length := by omega
      have ex := encO_at (ro := ro) (show 0 < x by omega) (List.getElem?_eq_getElem hx1)
      have ey := encO_at (ro := ro) (show 0 < y by omega) (List.getElem?_eq_getElem hy1)
      rw [ex, ey] at he
      have := h.2.2.1.1 _ _ _ _ (List.getElem?_eq_getElem hx1) (List.getElem?_eq_getElem hy1) (Option.some.inj he)
      omega
theorem wr_acmp (cx : mCx k p s m args meth c) (cd : ACond) {x y off : Int} {tgt : Nat} (hd : decode (mBy k) pc = .ok (.if_acmp cd off, 3)) (ht : (pc : Int) + off = (tgt : Int)) (hx : 0 ≤ x) (hy : 0 ≤ y) (hT : mcd (mac cd) x y → (mNp l D A ro h0 sh0 p e R s m args below meth c Q n0 t0 ad0 k (tgt) (L) (st) (σ))) (hF : ¬ mcd (mac cd) x y → (mNp l D A ro h0 sh0 p e R s m args below meth c Q n0 t0 ad0 k (pc + 3) (L) (st) (σ))) : (mNp l D A ro h0 sh0 p e R s m args below meth c Q n0 t0 ad0 k (pc) (L) ((3, y) :: (3, x) :: st) (σ)) := by
  intro g1 g2 H locs ls ws tys hB
  have inj : encO (mAd ws) ro x = encO (mAd ws) ro y → x = y := encO_inj hB.1 ⟨hx, hB.pop.top⟩ ⟨hy, hB.top⟩
  cases cd with
  | eq => exact lv_acmp_eq cx.1 cx.2.1 hd ht (fun q => hT (inj q) g1 g2 H locs ls ws tys hB.pop.pop) (fun q => hF (fun z => q (by rw [show x = y from z])) g1 g2 H locs ls ws tys hB.pop.pop)
  | ne => exact lv_acmp_ne cx.1 cx.2.1 hd ht (fun q => hT (fun z => q (by rw [z])) g1 g2 H locs ls ws tys hB.pop.pop) (fun q => hF (fun z => z (inj q)) g1 g2 H locs ls ws tys hB.pop.pop)
theorem wr_dup1 (cx : mCx k p s m args meth c) {x : Int} (hd : decode (mBy k) pc = .ok (.dup, 1)) (hn : (mNp l D A ro h0 sh0 p e R s m args below meth c Q n0 t0 ad0 k (pc + 1) (L) ((1, x) :: (1, x) :: st) (σ))) : (mNp l D A ro h0 sh0 p e R s m args below meth c Q n0 t0 ad0 k (pc) (L) ((1, x) :: st) (σ)) := by
  intro g1 g2 H locs ls ws tys hB
  exact lv_dup cx.1 cx.2.1 hd rfl (hn g1 g2 H locs ls ws tys (hB.push hB.top))
theorem rf_cat (o : Option Nat) : (va_rf o).category = 1 := by cases o <;> rfl
theorem wr_dup3 (cx : mCx k p s m args meth c) {x : Int} (hd : decode (mBy k) pc = .ok (.dup, 1)) (hn : (mNp l D A ro h0 sh0 p e R s m args below meth c Q n0 t0 ad0 k (pc + 1) (L) ((3, x) :: (3, x) :: st) (σ))) : (mNp l D A ro h0 sh0 p e R s m args below meth c Q n0 t0 ad0 k (pc) (L) ((3, x) :: st) (σ)) := by
  intro g1 g2 H locs ls ws tys hB
  exact lv_dup cx.1 cx.2.1 hd (rf_cat _) (hn g1 g2 H locs ls ws tys (hB.push hB.top))
theorem wr_dup2 (cx : mCx k p s m args meth c) {x y : Int} (hd : decode (mBy k) pc = .ok (.dup2, 1)) (hn : (mNp l D A ro h0 sh0 p e R s m args below meth c Q n0 t0 ad0 k (pc + 1) (L) ((1, y) :: (3, x) :: (1, y) :: (3, x) :: st) (σ))) : (mNp l D A ro h0 sh0 p e R s m args below meth c Q n0 t0 ad0 k (pc) (L) ((1, y) :: (3, x) :: st) (σ)) := by
  intro g1 g2 H locs ls ws tys hB
  exact lv_dup2_11 cx.1 cx.2.1 hd rfl (rf_cat _) (hn g1 g2 H locs ls ws tys ((hB.push hB.pop.top).push hB.top))
theorem wr_pop1 (cx : mCx k p s m args meth c) {x : Int} (hd : decode (mBy k) pc = .ok (.pop, 1)) (hn : (mNp l D A ro h0 sh0 p e R s m args below meth c Q n0 t0 ad0 k (pc + 1) (L) (st) (σ))) : (mNp l D A ro h0 sh0 p e R s m args below meth c Q n0 t0 ad0 k (pc) (L) ((1, x) :: st) (σ)) := by
  intro g1 g2 H locs ls ws tys hB
  exact lv_pop cx.1 cx.2.1 hd rfl (hn g1 g2 H locs ls ws tys hB.pop)
theorem wr_pop3 (cx : mCx k p s m args meth c) {x : Int} (hd : decode (mBy k) pc = .ok (.pop, 1)) (hn : (mNp l D A ro h0 sh0 p e R s m args below meth c Q n0 t0 ad0 k (pc + 1) (L) (st) (σ))) : (mNp l D A ro h0 sh0 p e R s m args below meth c Q n0 t0 ad0 k (pc) (L) ((3, x) :: st) (σ)) := by
  intro g1 g2 H locs ls ws tys hB
  exact lv_pop cx.1 cx.2.1 hd (rf_cat _) (hn g1 g2 H locs ls ws tys hB.pop)
end Rows
