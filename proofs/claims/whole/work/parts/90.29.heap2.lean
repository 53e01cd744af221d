/-! rows of the heap: stores and new cells -/
theorem bit1 (x : Int) : Int32.ofInt x &&& 1 = Int32.ofInt (x % 2) := by
  apply Int32.toBitVec_inj.mp
  show BitVec.ofInt 32 x &&& 1#32 = BitVec.ofInt 32 (x % 2)
  apply BitVec.eq_of_toNat_eq
  rw [BitVec.toNat_and, BitVec.toNat_ofInt, BitVec.toNat_ofInt]
  show (x % ((2 ^ 32 : Nat) : Int)).toNat &&& 1 = _
  rw [Nat.and_one_is_mod]
  show (x % 4294967296).toNat % 2 = (x % 2 % 4294967296).toNat
  omega
theorem i32_nar_z (x : Int) : vp_nar .boolean (Int32.ofInt x) = Int32.ofInt (mnar 102 x) := by
  show Int32.ofInt x &&& 1 = _
  rw [bit1]
  rfl
theorem mnar_rg {kd v : Int} (h : rgI v) : rgI (mnar kd v) := by
  unfold mnar
  split
  · unfold rgI w8; omega
  · split
    · unfold rgI; omega
    · exact h
section Heap2
variable {l : Launch} {D : va_G} {A : Nat → Prop} {ro : Int → Nat} {h0 : Int → Int → Int} {sh0 : Int → Int × Int} {p : Program} {e : Env} {R : Room} {s : State} {m : MethodId} {args : Array Value} {below : List Frame} {meth : Method} {c : Code} {Q : State → Prop} {n0 t0 : Int} {ad0 : List Nat} {k : Nat} {L st : List mV} {σ : mS} {pc : Nat}
theorem mCell.store {ad : List Nat} {tys : List (ClassId × FieldType)} {r i v kd : Int} {ty : FieldType} {n : Nat} {cA : ClassId} {f : Nat → Int32} {t0 : Nat} {x : Int32} (hkd : kd = 100 ∧ ty = .int ∨ kd = 101 ∧ ty = .byte ∨ kd = 102 ∧ ty = .boolean) (hk : (σ.2.1 r).1 = kd) (hsz : (σ.2.1 r).2 = (n : Int)) (ht : tys[t0]? = some (cA, ty)) (hn : n < 2147483648) (hf : ∀ j : Nat, j < n → f j = Int32.ofInt (σ.1 r j) ∧ rgI (σ.1 r j)) (h1 : 0 ≤ i) (hv : rgI v) (hx : x = Int32.ofInt v) : mCell ad ro (mup σ.1 r i v, σ.2) tys r (.inl (cA, n, .inl (upd f i.toNat x))) := by
  refine Or.inr (Or.inl ⟨ty, kd, n, cA, _, t0, hkd, by show σ.2.1 r = _; rw [← hk, ← hsz], rfl, ht, hn, fun j hj => ?_⟩)
  show upd f i.toNat x j = Int32.ofInt (mup σ.1 r i v r j) ∧ rgI (mup σ.1 r i v r j)
  unfold mup
  rw [if_pos rfl]
  by_cases e1 : j = i.toNat
  · rw [if_pos (by omega), e1, pk_us]
    exact ⟨hx, hv⟩
  · rw [if_neg (by omega), pk_un e1]
    exact hf j hj
theorem wr_iast (cx : mCx k p s m args meth c) {r i v : Int} (hd : decode (mBy k) pc = .ok (.iastore, 1)) (hk : (σ.2.1 r).1 = 100) (hr : 0 < r) (h1 : 0 ≤ i) (h2 : i < (σ.2.1 r).2) (hn : (mNp l D A ro h0 sh0 p e R s m args below meth c Q n0 t0 ad0 k (pc + 1) (L) (st) ((mup σ.1 r i v, σ.2)))) : (mNp l D A ro h0 sh0 p e R s m args below meth c Q n0 t0 ad0 k (pc) (L) ((1, v) :: (1, i) :: (3, r) :: st) (σ)) := by
  intro g1 g2 H locs ls ws tys hB
  have hv : rgI v := hB.top
  have hi : rgI i := hB.pop.top
  obtain ⟨hle, a, n, cA, f, t0', hw, he, hsz, ht, hn31, hf⟩ := hB.1.arr (ty := .int) hr (Or.inl ⟨rfl, rfl⟩) hk
  rw [List.map_cons, List.map_cons, List.map_cons, encV3 he]
  refine va_iast (x := Int32.ofInt v) cx.1 cx.2.1 hB.1.2.2.2.1 hB.1.2.1 hB.1.2.2.1 hB.2.1 (r - 1).toNat t0' hw ht (i32_in hi h1 (by omega)) hd (fun H1 locs1 hP hD hS => ?_)
  rw [i32_clamp hi] at hP hD
  have hR := hB.1.put (g := mup σ.1 r i v) hr hw (fun r' hr' => by funext i'; unfold mup; rw [if_neg hr']) hP hD (mCell.store (Or.inl ⟨rfl, rfl⟩) hk hsz ht hn31 hf h1 hv rfl)
  have h3 := hn g1 g2 H1 locs1 ls _ tys (hB.pop.pop.pop.put hw hR hS)
  rw [mAd_set hw] at h3
  exact h3
theorem wr_bast (cx : mCx k p s m args meth c) {r i v : Int} (hd : decode (mBy k) pc = .ok (.bastore, 1)) (hk : (σ.2.1 r).1 = 101) (hr : 0 < r) (h1 : 0 ≤ i) (h2 : i < (σ.2.1 r).2) (hn : (mNp l D A ro h0 sh0 p e R s m args below meth c Q n0 t0 ad0 k (pc + 1) (L) (st) ((mup σ.1 r i (mnar 101 v), σ.2)))) : (mNp l D A ro h0 sh0 p e R s m args below meth c Q n0 t0 ad0 k (pc) (L) ((1, v) :: (1, i) :: (3, r) :: st) (σ)) := by
  intro g1 g2 H locs ls ws tys hB
  have hv : rgI v := hB.top
  have hi : rgI i := hB.pop.top
  obtain ⟨hle, a, n, cA, f, t0', hw, he, hsz, ht, hn31, hf⟩ := hB.1.arr (ty := .byte) hr (Or.inr (Or.inl ⟨rfl, rfl⟩)) hk
  rw [List.map_cons, List.map_cons, List.map_cons, encV3 he]
  refine va_bast (x := Int32.ofInt v) cx.1 cx.2.1 hB.1.2.2.2.1 hB.1.2.1 hB.1.2.2.1 hB.2.1 (r - 1).toNat t0' hw ht (i32_in hi h1 (by omega)) hd (fun H1 locs1 hP hD hS => ?_)
  rw [i32_clamp hi] at hP hD
  have hR := hB.1.put (g := mup σ.1 r i (mnar 101 v)) hr hw (fun r' hr' => by funext i'; unfold mup; rw [if_neg hr']) hP hD (mCell.store (Or.inr (Or.inl ⟨rfl, rfl⟩)) hk hsz ht hn31 hf h1 (mnar_rg hv) (i32_nar_b v hv))
  have h3 := hn g1 g2 H1 locs1 ls _ tys (hB.pop.pop.pop.put hw hR hS)
  rw [mAd_set hw] at h3
  exact h3
theorem wr_zast (cx : mCx k p s m args meth c) {r i v : Int} (hd : decode (mBy k) pc = .ok (.bastore, 1)) (hk : (σ.2.1 r).1 = 102) (hr : 0 < r) (h1 : 0 ≤ i) (h2 : i < (σ.2.1 r).2) (hn : (mNp l D A ro h0 sh0 p e R s m args below meth c Q n0 t0 ad0 k (pc + 1) (L) (st) ((mup σ.1 r i (mnar 102 v), σ.2)))) : (mNp l D A ro h0 sh0 p e R s m args below meth c Q n0 t0 ad0 k (pc) (L) ((1, v) :: (1, i) :: (3, r) :: st) (σ)) := by
  intro g1 g2 H locs ls ws tys hB
  have hv : rgI v := hB.top
  have hi : rgI i := hB.pop.top
  obtain ⟨hle, a, n, cA, f, t0', hw, he, hsz, ht, hn31, hf⟩ := hB.1.arr (ty := .boolean) hr (Or.inr (Or.inr ⟨rfl, rfl⟩)) hk
  rw [List.map_cons, List.map_cons, List.map_cons, encV3 he]
  refine va_zast (x := Int32.ofInt v) cx.1 cx.2.1 hB.1.2.2.2.1 hB.1.2.1 hB.1.2.2.1 hB.2.1 (r - 1).toNat t0' hw ht (i32_in hi h1 (by omega)) hd (fun H1 locs1 hP hD hS => ?_)
  rw [i32_clamp hi] at hP hD
  have hR := hB.1.put (g := mup σ.1 r i (mnar 102 v)) hr hw (fun r' hr' => by funext i'; unfold mup; rw [if_neg hr']) hP hD (mCell.store (Or.inr (Or.inr ⟨rfl, rfl⟩)) hk hsz ht hn31 hf h1 (mnar_rg hv) (i32_nar_z v))
  have h3 := hn g1 g2 H1 locs1 ls _ tys (hB.pop.pop.pop.put hw hR hS)
  rw [mAd_set hw] at h3
  exact h3
theorem wr_aast (cx : mCx k p s m args meth c) (kw : mKW A ro h0 sh0 s) {r i v : Int} {ci : Nat} {q : vw_C} (hd : decode (mBy k) pc = .ok (.aastore, 1)) (hc : mCl[ci]? = some q) (hk : (σ.2.1 r).1 = 201 + (ci : Int)) (h1 : 0 ≤ i) (h2 : i < (σ.2.1 r).2) (hv0 : v = 0 ∨ 0 < v ∧ (σ.2.1 v).1 = (ci : Int) + 1) (hn : (mNp l D A ro h0 sh0 p e R s m args below meth c Q n0 t0 ad0 k (pc + 1) (L) (st) ((mup σ.1 r i v, σ.2)))) : (mNp l D A ro h0 sh0 p e R s m args below meth c Q n0 t0 ad0 k (pc) (L) ((3, v) :: (1, i) :: (3, r) :: st) (σ)) := by
  intro g1 g2 H locs ls ws tys hB
  have hv : v ≤ σ.2.2.1 := hB.top
  have hi : rgI i := hB.pop.top
  obtain ⟨hr, hle, a, n, cA, f, t0', hw, he, hsz, ht, hn31, hf⟩ := hB.1.arq kw hc hk
  have key : ∀ (o : Option Nat), encO (mAd ws) ro v = o → ∀ (H1 : Heap) (locs1 : List Loc), va_P D mCl (ws.set (r - 1).toNat (a, .inl (cA, n, .inr (.inr (.inr (.inr (va_up f (Int32.ofInt i).toNatClampNeg o))))))) H1 → va_D A (ws.set (r - 1).toNat (a, .inl (cA, n, .inr (.inr (.inr (.inr (va_up f (Int32.ofInt i).toNatClampNeg o))))))) → va_S A s.heap H1 locs1 → W p l e R s m args below meth c H1 locs1 (σ.2.2.1 - n0).toNat (σ.2.2.2 - t0).toNat Q (F0 m (pc + 1) ls (st.map (encV (mAd ws) ro))) := by
    intro o ho H1 locs1 hP hD hS
    rw [i32_clamp hi] at hP hD
    have hR := hB.1.put (g := mup σ.1 r i v) hr hw (fun r' hr' => by funext i'; unfold mup; rw [if_neg hr']) hP hD (Or.inr (Or.inr ⟨ci, q, n, cA, _, t0', hc, by show σ.2.1 r = _; rw [← hk, ← hsz], rfl, ht, hn31, fun j hj => by
        show va_up f i.toNat o j = encO (mAd ws) ro (mup σ.1 r i v r j) ∧ mup σ.1 r i v r j ≤ σ.2.2.1
        unfold mup va_up
        rw [if_pos rfl]
        by_cases e1 : j = i.toNat
        · rw [if_pos e1, if_pos (by omega)]
          exact ⟨ho.symm, hv⟩
        · rw [if_neg e1, if_neg (by omega)]
          exact hf j hj⟩))
    have h3 := hn g1 g2 H1 locs1 ls _ tys (hB.pop.pop.pop.put hw hR hS)
    rw [mAd_set hw] at h3
    exact h3
  rw [List.map_cons, List.map_cons, List.map_cons, encV3 he]
  rcases hv0 with rfl | ⟨hv1, hv2⟩
  · have e0 : encO (mAd ws) ro 0 = none := encO_none.mpr rfl
    rw [show encV (mAd ws) ro (3, 0) = .null from by show va_rf (encO (mAd ws) ro 0) = _; rw [e0]; rfl]
    exact va_astqN cx.1 cx.2.1 hB.1.2.2.2.1 hB.1.2.1 hB.1.2.2.1 hB.2.1 (r - 1).toNat t0' hw ht (i32_in hi h1 (by omega)) hd (key none e0)
  · obtain ⟨-, -, -, av, hwv, hev, -⟩ := hB.1.obj kw hc hv2
    rw [encV3 hev]
    exact va_astq (r := q) cx.1 cx.2.1 hB.1.2.2.2.1 hB.1.2.1 hB.1.2.2.1 hB.2.1 (r - 1).toNat t0' (v - 1).toNat ci hw ht hwv hc (i32_in hi h1 (by omega)) hd (key (some av) hev)
/-- what goes on when a cell has come -/
theorem mB.new {H H1 : Heap} {locs : List Loc} {ls : Array Slot} {ws : va_W} {tys tys' : List (ClassId × FieldType)} (hB : mB D A ro h0 sh0 ad0 k s H locs ls L st σ ws tys) {a : Nat} {x : va_E} {σ' : mS} (hn : σ'.2.2.1 = σ.2.2.1 + 1) (hR : mRel D A ro h0 sh0 σ' (ws ++ [(a, x)]) tys' s H1) (hS : va_S A s.heap H1 locs) : mB D A ro h0 sh0 ad0 k s H1 locs ls L ((3, σ.2.2.1 + 1) :: st) σ' (ws ++ [(a, x)]) tys' ∧ ((3, σ.2.2.1 + 1) :: st).map (encV (mAd (ws ++ [(a, x)])) ro) = .ref a :: st.map (encV (mAd ws) ro) := by
  have hp : mAd ws <+: mAd (ws ++ [(a, x)]) := by rw [mAd_push]; exact List.prefix_append _ _
  obtain ⟨b1, b2⟩ := hB.moved hp (by omega) hR hS
  refine ⟨b1.push (by show σ.2.2.1 + 1 ≤ σ'.2.2.1; omega), ?_⟩
  rw [List.map_cons, b2]
  congr 1
  refine encV3 (encO_at (q := (a, x)) (by have := hB.1.1.1; omega) ?_)
  rw [show (σ.2.2.1 + 1 - 1).toNat = ws.length from by have := hB.1.1.1; omega]
  simp
theorem wr_new (cx : mCx k p s m args meth c) (hA : ∀ q, s.heap.size ≤ q → A q) {ix ci : Nat} {q : vw_C} (hd : decode (mBy k) pc = .ok (.new ix, 3)) (hc : mCl[ci]? = some q) (hlink : Cond.classLink (mO (mI0 k).1) ix q.1 ∈ lw_g) (hg1 : n0 ≤ σ.2.2.1 → (σ.2.2.1 + 1 - n0).toNat ≤ R.cells) (hg2 : t0 ≤ σ.2.2.2 → (σ.2.2.2 + (q.2.2 : Int) - t0).toNat ≤ R.slots) (hn : (mNp l D A ro h0 sh0 p e R s m args below meth c Q n0 t0 ad0 k (pc + 3) (L) ((3, σ.2.2.1 + 1) :: st) (mnew ((ci : Int) + 1) (q.2.2 : Int) σ))) : (mNp l D A ro h0 sh0 p e R s m args below meth c Q n0 t0 ad0 k (pc) (L) (st) (σ)) := by
  intro g1 g2 H locs ls ws tys hB
  obtain ⟨C, T, N⟩ := q
  obtain ⟨k1, k2, k3, k4, k5, -⟩ := mCl_ok ci C T N hc
  have hf : ∀ j, j < N → defaultValue (mY ci j) = vp_V ((List.range N).map fun j => encF [] ro (mY ci j) 0) j := by
    intro j hj
    unfold vp_V
    rw [List.getD_eq_getElem?_getD, List.getElem?_map, List.getElem?_range hj]
    show _ = encF [] ro (mY ci j) 0
    have := mY_ok hc hj
    unfold encF
    cases hy : mY ci j <;> rw [hy] at this <;> simp [mfg] at this <;> rfl
  refine va_new (ci := ci) (C := C) (T := T) (N := N) cx.1 cx.2.1 cx.2.2.2.2.1 (mCl_g hc) (mY ci) k2 cx.2.2.2.1 (cx.2.2.2.2.1 _ hlink) (cx.2.2.2.2.1 _ (lw_g_in k4 rfl)) (cx.2.2.2.2.1 _ (lw_g_in k5 rfl)) hB.1.2.2.2.1 hB.1.2.1 hB.1.2.2.1 hB.2.1 hA hc hf ?_ ?_ hd (fun a H1 hP hD hS => ?_)
  · have := hg1 g1; omega
  · have := hg2 g2; dsimp only at this; omega
  · have hR := hB.1.new (σ' := mnew ((ci : Int) + 1) (N : Int) σ) (fun r hr => ⟨by funext i; unfold mnew; dsimp only; rw [if_neg hr], by unfold mnew; dsimp only; rw [if_neg hr]⟩) rfl (List.prefix_refl _) hB.1.2.2.2.1 hP hD (Or.inl ⟨ci, (C, T, N), hc, by unfold mnew; dsimp only; rw [if_pos rfl], by
        congr 2
        refine List.map_congr_left fun j hj => ?_
        unfold mnew encF
        dsimp only
        rw [if_pos rfl]
        have e0 : ∀ ad : List Nat, encO ad ro 0 = none := fun ad => encO_none.mpr rfl
        rw [e0, e0], fun j hj => by
        unfold mnew
        dsimp only
        rw [if_pos rfl]
        exact ⟨fun _ => by have := hB.1.1.1; omega, fun _ => rg0⟩⟩)
    obtain ⟨b1, b2⟩ := hB.new (σ' := mnew ((ci : Int) + 1) (N : Int) σ) rfl hR hS
    have h3 := hn (by show n0 ≤ σ.2.2.1 + 1; omega) (by show t0 ≤ σ.2.2.2 + (N : Int); omega) H1 locs ls _ tys b1
    rw [b2] at h3
    have e1 : ((mnew ((ci : Int) + 1) (N : Int) σ).2.2.1 - n0).toNat = (σ.2.2.1 - n0).toNat + 1 := by show (σ.2.2.1 + 1 - n0).toNat = _; omega
    have e2 : ((mnew ((ci : Int) + 1) (N : Int) σ).2.2.2 - t0).toNat = (σ.2.2.2 - t0).toNat + N := by show (σ.2.2.2 + (N : Int) - t0).toNat = _; omega
    rw [e1, e2] at h3
    exact h3
theorem wr_newa (cx : mCx k p s m args meth c) (hA : ∀ q, s.heap.size ≤ q → A q) {at_ : ArrayType} {ty : FieldType} {kd n : Int} (hkd : kd = 100 ∧ ty = .int ∨ kd = 101 ∧ ty = .byte ∨ kd = 102 ∧ ty = .boolean) (hty : newarray.typeOf at_ = ty) (hw0 : Cond.arrayClass ty ∈ lw_g) (hd : decode (mBy k) pc = .ok (.newarray at_, 2)) (hn0 : 0 ≤ n ∧ n ≤ 1000000) (hg1 : n0 ≤ σ.2.2.1 → (σ.2.2.1 + 1 - n0).toNat ≤ R.cells) (hg2 : t0 ≤ σ.2.2.2 → (σ.2.2.2 + n - t0).toNat ≤ R.slots) (hn : (mNp l D A ro h0 sh0 p e R s m args below meth c Q n0 t0 ad0 k (pc + 2) (L) ((3, σ.2.2.1 + 1) :: st) (mnew kd n σ))) : (mNp l D A ro h0 sh0 p e R s m args below meth c Q n0 t0 ad0 k (pc) (L) ((1, n) :: st) (σ)) := by
  intro g1 g2 H locs ls ws tys hB
  have hi : rgI n := hB.top
  have hcb : componentBytes ty ≤ 8 := by rcases hkd with ⟨-, z⟩ | ⟨-, z⟩ | ⟨-, z⟩ <;> subst z <;> decide
  refine va_newa (a0 := (n.toNat, .inl (fun _ => 0))) cx.1 cx.2.1 (by rw [hty]; exact cx.2.2.2.2.1 _ hw0) hty hB.1.2.2.2.1 hB.1.2.1 hB.1.2.2.1 hB.2.1 hA ?_ (i32_nneg hi hn0.1) (i32_clamp hi) ?_ ?_ ?_ hd (fun a cA H1 hK hP hD hS => ?_)
  · intro cA
    rcases hkd with ⟨-, z⟩ | ⟨-, z⟩ | ⟨-, z⟩ <;> subst z <;> rfl
  · have : n.toNat ≤ 1000000 := by omega
    calc n.toNat * componentBytes ty ≤ 1000000 * 8 := Nat.mul_le_mul this hcb
      _ ≤ 536870912 := by decide
  · have := hg1 g1; omega
  · have := hg2 g2; omega
  · have hR := hB.1.new (σ' := mnew kd n σ) (tys' := tys ++ [(cA, ty)]) (fun r hr => ⟨by funext i; unfold mnew; dsimp only; rw [if_neg hr], by unfold mnew; dsimp only; rw [if_neg hr]⟩) rfl (List.prefix_append _ _) hK hP hD (Or.inr (Or.inl ⟨ty, kd, n.toNat, cA, fun _ => 0, tys.length, hkd, by unfold mnew; dsimp only; rw [if_pos rfl]; congr 1; omega, rfl, by simp, by omega, fun j hj => by
        unfold mnew
        dsimp only
        rw [if_pos rfl]
        exact ⟨rfl, rg0⟩⟩))
    obtain ⟨b1, b2⟩ := hB.pop.new (σ' := mnew kd n σ) rfl hR hS
    have h3 := hn (by show n0 ≤ σ.2.2.1 + 1; omega) (by show t0 ≤ σ.2.2.2 + n; omega) H1 locs ls _ _ b1
    rw [b2] at h3
    have e1 : ((mnew kd n σ).2.2.1 - n0).toNat = (σ.2.2.1 - n0).toNat + 1 := by show (σ.2.2.1 + 1 - n0).toNat = _; omega
    have e2 : ((mnew kd n σ).2.2.2 - t0).toNat = (σ.2.2.2 - t0).toNat + n.toNat := by show (σ.2.2.2 + n - t0).toNat = _; omega
    rw [e1, e2] at h3
    exact h3
theorem wr_newq (cx : mCx k p s m args meth c) (hA : ∀ q, s.heap.size ≤ q → A q) {ix ci : Nat} {q : vw_C} {n : Int} (hd : decode (mBy k) pc = .ok (.anewarray ix, 3)) (hc : mCl[ci]? = some q) (hlink : Cond.classLink (mO (mI0 k).1) ix q.1 ∈ lw_g) (hao : va_AO q.1 s) (hn0 : 0 ≤ n ∧ n ≤ 1000000) (hg1 : n0 ≤ σ.2.2.1 → (σ.2.2.1 + 1 - n0).toNat ≤ R.cells) (hg2 : t0 ≤ σ.2.2.2 → (σ.2.2.2 + n - t0).toNat ≤ R.slots) (hn : (mNp l D A ro h0 sh0 p e R s m args below meth c Q n0 t0 ad0 k (pc + 3) (L) ((3, σ.2.2.1 + 1) :: st) (mnew (201 + (ci : Int)) n σ))) : (mNp l D A ro h0 sh0 p e R s m args below meth c Q n0 t0 ad0 k (pc) (L) ((1, n) :: st) (σ)) := by
  intro g1 g2 H locs ls ws tys hB
  have hi : rgI n := hB.top
  refine va_newq cx.1 cx.2.1 cx.2.2.2.1 (cx.2.2.2.2.1 _ hlink) hao hB.1.2.2.2.1 hB.1.2.1 hB.1.2.2.1 hB.2.1 hA (i32_nneg hi hn0.1) (i32_clamp hi) ?_ ?_ ?_ hd (fun a cA H1 hK hP hD hS => ?_)
  · omega
  · have := hg1 g1; omega
  · have := hg2 g2; omega
  · have hR := hB.1.new (σ' := mnew (201 + (ci : Int)) n σ) (tys' := tys ++ [(cA, .object q.1)]) (fun r hr => ⟨by funext i; unfold mnew; dsimp only; rw [if_neg hr], by unfold mnew; dsimp only; rw [if_neg hr]⟩) rfl (List.prefix_append _ _) hK hP hD (Or.inr (Or.inr ⟨ci, q, n.toNat, cA, fun _ => none, tys.length, hc, by unfold mnew; dsimp only; rw [if_pos rfl]; congr 1; omega, rfl, by simp, by omega, fun j hj => by
        unfold mnew
        dsimp only
        rw [if_pos rfl]
        exact ⟨(encO_none.mpr rfl).symm, by have := hB.1.1.1; omega⟩⟩))
    obtain ⟨b1, b2⟩ := hB.pop.new (σ' := mnew (201 + (ci : Int)) n σ) rfl hR hS
    have h3 := hn (by show n0 ≤ σ.2.2.1 + 1; omega) (by show t0 ≤ σ.2.2.2 + n; omega) H1 locs ls _ _ b1
    rw [b2] at h3
    have e1 : ((mnew (201 + (ci : Int)) n σ).2.2.1 - n0).toNat = (σ.2.2.1 - n0).toNat + 1 := by show (σ.2.2.1 + 1 - n0).toNat = _; omega
    have e2 : ((mnew (201 + (ci : Int)) n σ).2.2.2 - t0).toNat = (σ.2.2.2 - t0).toNat + n.toNat := by show (σ.2.2.2 + n - t0).toNat = _; omega
    rw [e1, e2] at h3
    exact h3
end Heap2
