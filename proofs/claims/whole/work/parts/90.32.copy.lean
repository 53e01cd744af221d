/-! System.arraycopy -/
section CopyT
variable {p : Program} {l : Launch} {e : Env} {R : Room} {s : State} {m : MethodId} {args : Array Value} {below : List Frame} {meth : Method} {c : Code} {H : Heap} {locs : List Loc} {cells slots : Nat} {Q : State → Prop} {cc : ByteArray} {pc : Nat} {ls : Array Slot} {rest : List Value} {D : va_G} {cl : List vw_C} {A : Nat → Prop} {a : Nat} {tys : List (ClassId × FieldType)} {ws : va_W}
/-- out of an int array that was there before -/
theorem w_copyt (hx : p.tables.exec = Jvm.exec) (hb : c.code = cc) (hml : c.maxLocals = ls.size) {own : String} {ix : Nat} (hown : s.vm.findClass own = some m.cls) (hlink : (Cond.methodLink own ix arraycopyName).before args s = true) (hnat : (Cond.native arraycopyName).before args s = true) (hstat : (Cond.static arraycopyName).before args s = true) (hini : (Cond.initialized "java/lang/System").before args s = true)
    (hK : va_K D cl tys s) (hP : va_P D cl ws H) (hD : va_D A ws) (hS : va_S A s.heap H locs) {b0 N0 : Nat} {f : Nat → Int32} (hX : va_T .int b0 N0 (fun j => .int (f j)) A s s.heap) (q1 t1 : Nat) {c1 : ClassId} {N1 : Nat} {g : Nat → Int32} (ha1 : ws[q1]? = some (a, .inl (c1, N1, .inl g))) (ht1 : tys[t1]? = some (c1, .int))
    {sp dp n : Int32} (h1 : ¬ sp < 0) (h2 : ¬ dp < 0) (h3 : ¬ n < 0) (h4 : sp.toNatClampNeg + n.toNatClampNeg ≤ N0) (h5 : dp.toNatClampNeg + n.toNatClampNeg ≤ N1)
    (hframes : 1 ≤ R.frames) (hlocals : (rest.map fun v => v.category).sum + 18 ≤ R.locals) (hd : decode cc pc = .ok (.invokestatic ix, 3))
    (kk : ∀ (H1 : Heap) (locs1 : List Loc), va_P D cl (ws.set q1 (a, .inl (c1, N1, .inl (va_cpy f g sp.toNatClampNeg dp.toNatClampNeg n.toNatClampNeg)))) H1 → va_D A (ws.set q1 (a, .inl (c1, N1, .inl (va_cpy f g sp.toNatClampNeg dp.toNatClampNeg n.toNatClampNeg)))) → va_S A s.heap H1 locs1 → W p l e R s m args below meth c H1 locs1 cells slots Q (F0 m (pc + 3) ls rest)) : W p l e R s m args below meth c H locs cells slots Q (F0 m pc ls (.int n :: .int dp :: .ref a :: .int sp :: .ref b0 :: rest)) := by
  have nn : ∀ z : Int32, ¬ z < 0 → z.toInt = (z.toNatClampNeg : Int) := by
    intro z hz
    have hz0 : (0 : Int) ≤ z.toInt := by
      have := Int32.not_lt.mp hz
      simpa using Int32.le_iff_toInt_le.mp this
    show z.toInt = ((z.toInt.toNat : Nat) : Int)
    omega
  intro T hT X
  obtain ⟨scr, s1, s2, s3, s4, -, s5, s7⟩ := hX
  have hc0 : H[b0]? = some scr := by rw [hS.2.1 b0 (Array.getElem?_eq_some_iff.mp s1).1 s7]; exact s1
  have hc1 : H[a]? = some (vp_cell c1 (N1, .inl g)) := hP q1 _ ha1
  obtain ⟨s6, k0, hk0, cm0, hkk0⟩ := s2
  obtain ⟨-, k1, hk1, cm1, hkk1⟩ := (hK.2 t1 _ ht1).1 N1 (fun j => .int (g j))
  obtain ⟨vm', X', step⟩ := X.arraycopy hx hown hlink hnat hstat hini (src := b0) (dst := a) (cs := scr) (cd := vp_cell c1 (N1, .inl g)) (srcPos := sp) (destPos := dp) (n := n) (by rw [hT]; exact hc0) (by rw [hT]; exact hc1)
    s6 (fun _ h => by cases h) s3 (fun h => by cases h) hk0 hk1 hkk0 hkk1 (by simp [refKind]) h1 h2 h3
    (by rw [nn sp h1, nn n h3]; omega)
    (by rw [nn dp h2, nn n h3]; show ¬ _ > ((arrV c1 N1 (fun j => .int (g j))).slots.size : Int); rw [arrV_size]; omega)
    (fun vm₁ _ i hi => by
      have eq1 : scr.slots.getD (sp.toNatClampNeg + i) .null = .int (f (sp.toNatClampNeg + i)) := by
        rw [Array.getD_eq_getD_getElem?, s5 _ (by omega)]
        rfl
      rw [eq1]
      exact ⟨rfl, trivial⟩)
    (g := F0 m pc ls (.int n :: .int dp :: .ref a :: .int sp :: .ref b0 :: rest)) rfl (by rw [hml]) (rest := rest) rfl (by rw [hb]; exact hd) hframes (by show 2 * 0 + _ + (7 + 11) ≤ _; omega)
  have eq2 : copied scr (vp_cell c1 (N1, .inl g)) sp dp n = vp_cell c1 (N1, .inl (va_cpy f g sp.toNatClampNeg dp.toNatClampNeg n.toNatClampNeg)) := va_copiedX (fun z => .int z) scr c1 f g s5 h4
  rw [eq2] at X' step
  generalize va_cpy f g sp.toNatClampNeg dp.toNatClampNeg n.toNatClampNeg = F at X' step kk
  have hl : a < H.size := (Array.getElem?_eq_some_iff.mp hc1).1
  have oq : ∀ q : Nat, q ≠ a → (H.setIfInBounds a (vp_cell c1 (N1, .inl F)))[q]? = H[q]? := fun q hq => by simp [Array.getElem?_setIfInBounds, Ne.symm hq]
  obtain ⟨t, a1, b1⟩ := kk (H.setIfInBounds a (vp_cell c1 (N1, .inl F))) _ (hP.set hD ha1 (show (H.setIfInBounds a _)[a]? = some _ by simp [Array.getElem?_setIfInBounds, hl]) oq) (hD.set ha1) ⟨by simp; exact hS.1, fun q z1 z2 => by
      rw [oq q (fun z => z2 (by rw [z]; exact hD.2 q1 _ ha1))]
      exact hS.2.1 q z1 z2, fun q hq => by
      rcases List.mem_append.mp hq with h | h
      · exact hS.2.2 q h
      · obtain ⟨z, -, hz⟩ := List.mem_map.mp h
        rw [← hz]
        exact hD.2 q1 _ ha1⟩ _ (by rw [← hT]; rfl) X'
  exact ⟨t, step t a1, b1⟩
end CopyT
section Copy
variable {l : Launch} {D : va_G} {A : Nat → Prop} {ro : Int → Nat} {h0 : Int → Int → Int} {sh0 : Int → Int × Int} {p : Program} {e : Env} {R : Room} {s : State} {m : MethodId} {args : Array Value} {below : List Frame} {meth : Method} {c : Code} {Q : State → Prop} {n0 t0 : Int} {ad0 : List Nat} {k : Nat} {L st : List mV} {σ : mS} {pc : Nat}
theorem wr_copy (cx : mCx k p s m args meth c) (kw : mKW A ro h0 sh0 s) {ix : Nat} {r r' u u' n : Int} (hd : decode (mBy k) pc = .ok (.invokestatic ix, 3)) (hl : Cond.methodLink (mO (mI0 k).1) ix arraycopyName ∈ lw_g) (hf : 8 ≤ R.frames) (hlo : 512 ≤ R.locals) (h8 : mcat st ≤ 8) (hc : (σ.2.1 r).1 = 100 ∧ (σ.2.1 r').1 = 100 ∧ 0 < r' ∧ r ≠ r' ∧ 0 ≤ u ∧ 0 ≤ u' ∧ 0 ≤ n ∧ u + n ≤ (σ.2.1 r).2 ∧ u' + n ≤ (σ.2.1 r').2)
    (hn : (mNp l D A ro h0 sh0 p e R s m args below meth c Q n0 t0 ad0 k (pc + 3) (L) (st) (((fun q i => if q = r' then (if u' ≤ i ∧ i < u' + n then σ.1 r (u + (i - u')) else σ.1 q i) else σ.1 q i), σ.2)))) : (mNp l D A ro h0 sh0 p e R s m args below meth c Q n0 t0 ad0 k (pc) (L) ((1, n) :: (1, u') :: (3, r') :: (1, u) :: (3, r) :: st) (σ)) := by
  intro g1 g2 H locs ls ws tys hB
  obtain ⟨c1, c2, c3, c4, c5, c6, c7, c8, c9⟩ := hc
  have hrn : rgI n := hB.top
  have hru' : rgI u' := hB.pop.top
  have hru : rgI u := hB.pop.pop.pop.top
  have hBs := hB.pop.pop.pop.pop.pop
  obtain ⟨hle1, a1, N1, cA1, fd, t1, hw1, he1, hsz1, ht1, hn31, hf1⟩ := hB.1.arr (ty := .int) c3 (Or.inl ⟨rfl, rfl⟩) c2
  have key : ∀ (f : Nat → Int32), (∀ j : Nat, (j : Int) < (σ.2.1 r).2 → f j = Int32.ofInt (σ.1 r j) ∧ rgI (σ.1 r j)) → ∀ (H1 : Heap) (locs1 : List Loc), va_P D mCl (ws.set (r' - 1).toNat (a1, .inl (cA1, N1, .inl (va_cpy f fd (Int32.ofInt u).toNatClampNeg (Int32.ofInt u').toNatClampNeg (Int32.ofInt n).toNatClampNeg)))) H1 → va_D A (ws.set (r' - 1).toNat (a1, .inl (cA1, N1, .inl (va_cpy f fd (Int32.ofInt u).toNatClampNeg (Int32.ofInt u').toNatClampNeg (Int32.ofInt n).toNatClampNeg)))) → va_S A s.heap H1 locs1 → W p l e R s m args below meth c H1 locs1 (σ.2.2.1 - n0).toNat (σ.2.2.2 - t0).toNat Q (F0 m (pc + 3) ls (st.map (encV (mAd ws) ro))) := by
    intro f hff H1 locs1 hP hD hS
    rw [i32_clamp hrn, i32_clamp hru, i32_clamp hru'] at hP hD
    have hR := hB.1.put (g := fun q i => if q = r' then (if u' ≤ i ∧ i < u' + n then σ.1 r (u + (i - u')) else σ.1 q i) else σ.1 q i) c3 hw1 (fun r2 hr2 => by funext i'; exact if_neg hr2) hP hD (Or.inr (Or.inl ⟨.int, 100, N1, cA1, _, t1, Or.inl ⟨rfl, rfl⟩, by show σ.2.1 r' = _; rw [← c2, ← hsz1], rfl, ht1, hn31, fun j hj => by
        show va_cpy f fd u.toNat u'.toNat n.toNat j = Int32.ofInt (if r' = r' then _ else _) ∧ rgI (if r' = r' then _ else _)
        rw [if_pos rfl]
        unfold va_cpy
        by_cases hin : u'.toNat ≤ j ∧ j < u'.toNat + n.toNat
        · rw [if_pos hin, if_pos (by omega)]
          have := hff (u.toNat + (j - u'.toNat)) (by omega)
          rw [show ((u.toNat + (j - u'.toNat) : Nat) : Int) = u + ((j : Int) - u') from by omega] at this
          exact this
        · rw [if_neg hin, if_neg (by omega)]
          exact hf1 j hj⟩))
    have h3 := hn g1 g2 H1 locs1 ls _ tys (hBs.put hw1 hR hS)
    rw [mAd_set hw1] at h3
    exact h3
  rw [List.map_cons, List.map_cons, List.map_cons, List.map_cons, List.map_cons, encV3 he1]
  rcases Int.lt_or_le 0 r with hr | hr
  · obtain ⟨hle0, a0, N0, cA0, fs, t0', hw0, he0, hsz0, ht0, hn310, hf0⟩ := hB.1.arr (ty := .int) hr (Or.inl ⟨rfl, rfl⟩) c1
    rw [encV3 he0]
    refine va_copyi (ty := .int) cx.1 cx.2.1 (hB.siz cx) cx.2.2.2.1 (cx.2.2.2.2.1 _ hl) (cx.2.2.2.2.1 _ wx_acN) (cx.2.2.2.2.1 _ wx_acS) (cx.2.2.2.2.1 _ wx_acI) hB.1.2.2.2.1 hB.1.2.1 hB.1.2.2.1 hB.2.1 (r - 1).toNat (r' - 1).toNat t0' t1 hw0 hw1 ht0 ht1 rfl (i32_nneg hru c5) (i32_nneg hru' c6) (i32_nneg hrn c7) ?_ ?_ (fun _ _ => rfl) (by omega) ?_ hd (key fs (fun j hj => hf0 j (by omega)))
    · rw [i32_clamp hru, i32_clamp hrn]; omega
    · rw [i32_clamp hru', i32_clamp hrn]; omega
    · show _ + (7 + 11) ≤ _
      rw [hBs.cat]; omega
  · obtain ⟨z1, z2⟩ := hB.1.1.2.1 r hr
    have hk1 : (sh0 r).1 = 100 ∧ r < 0 := by
      rw [z2] at c1
      rcases kw.1.1 r hr with w | w | ⟨w, -⟩
      · omega
      · exact w
      · omega
    obtain ⟨hT, hrg⟩ := kw.2.1 r hr hk1.1
    rw [encV3 (encO_neg hk1.2)]
    refine w_copyt (f := fun j => Int32.ofInt (h0 r j)) cx.1 cx.2.1 (hB.siz cx) cx.2.2.2.1 (cx.2.2.2.2.1 _ hl) (cx.2.2.2.2.1 _ wx_acN) (cx.2.2.2.2.1 _ wx_acS) (cx.2.2.2.2.1 _ wx_acI) hB.1.2.2.2.1 hB.1.2.1 hB.1.2.2.1 hB.2.1 hT (r' - 1).toNat t1 hw1 ht1 (i32_nneg hru c5) (i32_nneg hru' c6) (i32_nneg hrn c7) ?_ ?_ (by omega) ?_ hd (key _ (fun j hj => by rw [z1]; exact ⟨rfl, hrg j⟩))
    · rw [i32_clamp hru, i32_clamp hrn]; rw [z2] at c8; omega
    · rw [i32_clamp hru', i32_clamp hrn]; omega
    · rw [hBs.cat]; omega
end Copy
