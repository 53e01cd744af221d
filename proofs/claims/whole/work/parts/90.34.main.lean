/-! the whole machine -/
theorem mfn_spec {a : Nat} (h : mfn a = true) : plainName (mYn a).cls = true ∧ (mYn a).cls ≠ "java/lang/invoke/MethodHandle" ∧ (mYn a).cls ≠ "java/lang/invoke/VarHandle" ∧ Cond.code (mYn a) (mBy a) (mMx a) (mRt a) ∈ lw_g ∧ Cond.initialized (mYn a).cls ∈ lw_g ∧ mO (mI0 a).1 = (mYn a).cls ∧ mMx a ≤ 40 ∧ (parseMethodDescriptor (mYn a).desc).map (fun d => d.parameters.length) = some (mparN a) ∧ (mProg a).2 = mMx a := by
  unfold mfn at h
  simp only [Bool.and_eq_true, decide_eq_true_eq] at h
  obtain ⟨⟨⟨⟨⟨⟨⟨⟨h1, h2⟩, h3⟩, h4⟩, h5⟩, h6⟩, h7⟩, h8⟩, h9⟩ := h
  exact ⟨h1, h2, h3, mw_in h4, mw_in h5, h6, Nat.le_of_ble_eq_true h7, h8, h9⟩
theorem mfv_spec {a : Nat} (h : mfv a = true) : Cond.instanceMethod (mYn a) ∈ lw_g ∧ ((mYn a).name = "<init>" ∨ Cond.selects (mYn a).cls (mYn a) (mYn a) ∈ lw_g) := by
  unfold mfv at h
  simp only [Bool.and_eq_true, Bool.or_eq_true, decide_eq_true_eq] at h
  exact ⟨mw_in h.1, h.2.imp id mw_in⟩
theorem mfs_spec {a : Nat} (h : mfs a = true) : Cond.static (mYn a) ∈ lw_g := mw_in h
theorem mfn_V (a : Nat) (h : a ∈ mVi) : mfn a = true := mfn_ok a ((by decide +kernel : ∀ a ∈ mVi, a ∈ ([0, 1, 2, 3, 4, 5, 6, 7, 8, 9, 10, 11, 12, 13, 14, 15, 16, 17, 18, 19, 20, 21, 22, 23, 24, 25, 26, 27, 28, 29, 30, 31, 32, 33, 34, 35, 36, 37, 38, 39, 40, 41, 42, 43, 44, 45, 46, 47, 48, 49, 50, 51, 52, 53, 54, 55, 56, 57, 58, 59, 60, 61, 62, 63, 64, 65, 66, 67, 68, 69, 70, 71, 72, 73, 74, 75, 76, 77, 78, 79, 80, 81, 82, 83, 84, 85, 86, 87, 88, 89, 90, 91, 92, 93, 94, 95, 96, 97, 98, 99, 100, 101, 102, 103, 104, 105, 106, 107, 108, 109, 110, 111, 112, 113, 114, 115, 116, 117, 118, 119, 120, 121, 122, 123, 124, 125, 126, 127, 128, 129, 130, 131, 132, 133, 134, 135, 136, 137, 138, 139, 140, 141, 142, 143, 144, 145, 146, 147, 148, 149, 150, 151, 152, 153, 154, 155, 156, 157, 158, 159, 160, 161, 162, 163, 164, 165, 166, 167, 168, 169, 170, 171, 172, 173, 174, 175, 176, 177, 178, 179, 180, 181, 182, 183, 184, 185, 186, 187, 188, 189, 190, 191, 192, 193, 194, 195, 196, 197, 198, 199, 200, 201, 202, 203, 204, 205, 206, 207, 208, 209, 210, 211, 212, 213, 214, 215, 216, 217, 218, 219, 220, 221, 222, 223, 224, 225, 226, 227, 228, 229, 230, 231, 232, 233, 234, 235, 236, 238, 239, 240, 241] : List Nat)) a h)
theorem mfn_S (a : Nat) (h : a ∈ mSt) : mfn a = true := mfn_ok a ((by decide +kernel : ∀ a ∈ mSt, a ∈ ([0, 1, 2, 3, 4, 5, 6, 7, 8, 9, 10, 11, 12, 13, 14, 15, 16, 17, 18, 19, 20, 21, 22, 23, 24, 25, 26, 27, 28, 29, 30, 31, 32, 33, 34, 35, 36, 37, 38, 39, 40, 41, 42, 43, 44, 45, 46, 47, 48, 49, 50, 51, 52, 53, 54, 55, 56, 57, 58, 59, 60, 61, 62, 63, 64, 65, 66, 67, 68, 69, 70, 71, 72, 73, 74, 75, 76, 77, 78, 79, 80, 81, 82, 83, 84, 85, 86, 87, 88, 89, 90, 91, 92, 93, 94, 95, 96, 97, 98, 99, 100, 101, 102, 103, 104, 105, 106, 107, 108, 109, 110, 111, 112, 113, 114, 115, 116, 117, 118, 119, 120, 121, 122, 123, 124, 125, 126, 127, 128, 129, 130, 131, 132, 133, 134, 135, 136, 137, 138, 139, 140, 141, 142, 143, 144, 145, 146, 147, 148, 149, 150, 151, 152, 153, 154, 155, 156, 157, 158, 159, 160, 161, 162, 163, 164, 165, 166, 167, 168, 169, 170, 171, 172, 173, 174, 175, 176, 177, 178, 179, 180, 181, 182, 183, 184, 185, 186, 187, 188, 189, 190, 191, 192, 193, 194, 195, 196, 197, 198, 199, 200, 201, 202, 203, 204, 205, 206, 207, 208, 209, 210, 211, 212, 213, 214, 215, 216, 217, 218, 219, 220, 221, 222, 223, 224, 225, 226, 227, 228, 229, 230, 231, 232, 233, 234, 235, 236, 238, 239, 240, 241] : List Nat)) a h)
theorem lt_V (a : Nat) (h : a ∈ mVi) : a < 242 := (by decide +kernel : ∀ a ∈ mVi, a < 242) a h
theorem lt_S (a : Nat) (h : a ∈ mSt) : a < 242 := (by decide +kernel : ∀ a ∈ mSt, a < 242) a h
theorem mok_all (k : Nat) (h : k < 242) : mokk k = true := mok_ok k ((by decide +kernel : ∀ k, k < 242 → k ∈ ([0, 1, 2, 3, 4, 5, 6, 7, 8, 9, 10, 11, 12, 13, 14, 15, 16, 17, 18, 19, 20, 21, 22, 23, 24, 25, 26, 27, 28, 29, 30, 31, 32, 33, 34, 35, 36, 37, 38, 39, 40, 41, 42, 43, 44, 45, 46, 47, 48, 49, 50, 51, 52, 53, 54, 55, 56, 57, 58, 59, 60, 61, 62, 63, 64, 65, 66, 67, 68, 69, 70, 71, 72, 73, 74, 75, 76, 77, 78, 79, 80, 81, 82, 83, 84, 85, 86, 87, 88, 89, 90, 91, 92, 93, 94, 95, 96, 97, 98, 99, 100, 101, 102, 103, 104, 105, 106, 107, 108, 109, 110, 111, 112, 113, 114, 115, 116, 117, 118, 119, 120, 121, 122, 123, 124, 125, 126, 127, 128, 129, 130, 131, 132, 133, 134, 135, 136, 137, 138, 139, 140, 141, 142, 143, 144, 145, 146, 147, 148, 149, 150, 151, 152, 153, 154, 155, 156, 157, 158, 159, 160, 161, 162, 163, 164, 165, 166, 167, 168, 169, 170, 171, 172, 173, 174, 175, 176, 177, 178, 179, 180, 181, 182, 183, 184, 185, 186, 187, 188, 189, 190, 191, 192, 193, 194, 195, 196, 197, 198, 199, 200, 201, 202, 203, 204, 205, 206, 207, 208, 209, 210, 211, 212, 213, 214, 215, 216, 217, 218, 219, 220, 221, 222, 223, 224, 225, 226, 227, 228, 229, 230, 231, 232, 233, 234, 235, 236, 237, 238, 239, 240, 241] : List Nat)) k h)
theorem mokL_get {k : Nat} {mi : mI} : ∀ {l : List mI} {j i : Nat}, mokL k j l = true → l[i]? = some mi → mok1 k (j + i) mi = true
  | [], _, _, _, h => by simp at h
  | x :: l, j, 0, h, h2 => by
    simp only [mokL, Bool.and_eq_true] at h
    simp at h2
    subst h2
    exact h.1
  | x :: l, j, i + 1, h, h2 => by
    simp only [mokL, Bool.and_eq_true] at h
    have := mokL_get (j := j + 1) (i := i) h.2 (by simpa using h2)
    rw [show j + (i + 1) = j + 1 + i from by omega]
    exact this
theorem mok_at {k i : Nat} {mi : mI} (hk : k < 242) (h : (mProg k).1[i]? = some mi) : ∃ ins len, decode (mBy k) (mPc k i) = .ok (ins, len) ∧ mchk k i ins len mi = true := by
  have h1 := mokL_get (mok_all k hk) h
  rw [Nat.zero_add] at h1
  unfold mok1 at h1
  split at h1
  · rename_i ins len hd
    exact ⟨ins, len, hd, h1⟩
  · cases h1
theorem mnx_spec {k i len n : Nat} (h : mnx k i len n = true) : len = n ∧ mPc k (i + 1) = mPc k i + n := by
  unfold mnx at h
  simp only [Bool.and_eq_true] at h
  exact ⟨Nat.eq_of_beq_eq_true h.1, Nat.eq_of_beq_eq_true h.2⟩
theorem mtg_spec {k i t : Nat} {off : Int} (h : mtg k i off t = true) : ((mPc k i : Nat) : Int) + off = ((mPc k t : Nat) : Int) := of_decide_eq_true h
theorem mif_cases {β : Type} {a : Nat} {x y : Int} {T F : Option β} {z : β} (h : mif a x y T F = some z) : (mcd a x y → T = some z) ∧ (¬ mcd a x y → F = some z) := by
  match a, h with
  | 0, h => by_cases hc : x = y <;> simp only [mif, hc, if_true, if_false] at h <;> exact ⟨fun q => by first | exact h | exact absurd q hc, fun q => by first | exact h | exact absurd hc q⟩
  | 1, h => by_cases hc : x = y <;> simp only [mif, hc, if_true, if_false] at h <;> exact ⟨fun q => by first | exact h | exact absurd hc q, fun q => by first | exact h | exact absurd hc q⟩
  | 2, h => by_cases hc : x < y <;> simp only [mif, hc, if_true, if_false] at h <;> exact ⟨fun q => by first | exact h | exact absurd q hc, fun q => by first | exact h | exact absurd hc q⟩
  | 3, h => by_cases hc : x < y <;> simp only [mif, hc, if_true, if_false] at h <;> exact ⟨fun q => by first | exact h | exact absurd hc q, fun q => by first | exact h | exact absurd hc q⟩
  | 4, h => by_cases hc : y < x <;> simp only [mif, hc, if_true, if_false] at h <;> exact ⟨fun q => by first | exact h | exact absurd q hc, fun q => by first | exact h | exact absurd hc q⟩
  | n + 5, h => by_cases hc : y < x <;> simp only [mif, hc, if_true, if_false] at h <;> exact ⟨fun q => by first | exact h | exact absurd hc q, fun q => by first | exact h | exact absurd hc q⟩
def mEnd (l : Launch) (D : va_G) (A : Nat → Prop) (ro : Int → Nat) (h0 : Int → Int → Int) (sh0 : Int → Int × Int) (p : Program) (e : Env) (R : Room) (s : State) (m : MethodId) (args : Array Value) (below : List Frame) (meth : Method) (c : Code) (Q : State → Prop) (n0 t0 : Int) (ad0 : List Nat) (k : Nat) (r : Int) (σ' : mS) : Prop :=
  ∀ (H : Heap) (locs : List Loc) (pc : Nat) (ls : Array Slot) (ws : va_W) (tys : List (ClassId × FieldType)), decode (mBy k) pc = .ok (mRi (mrt (mRt k)), 1) → (mrt (mRt k) = 0 ∨ mrt (mRt k) = 1 ∨ mrt (mRt k) = 2 ∨ mrt (mRt k) = 3 ∨ mrt (mRt k) = 4) → mRel D A ro h0 sh0 σ' ws tys s H → va_S A s.heap H locs → ad0 <+: mAd ws → okR σ'.2.2.1 (mrt (mRt k)) r → W p l e R s m args below meth c H locs (σ'.2.2.1 - n0).toNat (σ'.2.2.2 - t0).toNat Q (F0 m pc ls (mRv (mAd ws) ro (mrt (mRt k)) r).toList)
def mWL (l : Launch) (D : va_G) (A : Nat → Prop) (ro : Int → Nat) (h0 : Int → Int → Int) (sh0 : Int → Int × Int) (n : Nat) : Prop :=
  ∀ (d k i : Nat) (L st : List mV) (σ : mS) (r : Int) (σ' : mS), mgr mProg n d k i L st σ = some (r, σ') → k < 242 → ∀ (p : Program) (e : Env) (R : Room) (s : State) (m : MethodId) (args : Array Value) (below : List Frame) (meth : Method) (c : Code) (Q : State → Prop) (n0 t0 : Int) (ad0 : List Nat),
    mCx k p s m args meth c → mKW A ro h0 sh0 s → (∀ q, s.heap.size ≤ q → A q) → d + 8 ≤ R.frames → 64 * (d + 8) ≤ R.locals → (σ'.2.2.1 - n0).toNat ≤ R.cells → (σ'.2.2.2 - t0).toNat ≤ R.slots → NN σ → 0 ≤ σ.2.2.1 →
    mEnd l D A ro h0 sh0 p e R s m args below meth c Q n0 t0 ad0 k r σ' → (mNp l D A ro h0 sh0 p e R s m args below meth c Q n0 t0 ad0 k (mPc k i) (L) (st) (σ))
theorem mexp_get {ad : List Nat} {ro : Int → Nat} {n : Int} : ∀ {as : List mV} {i : Nat} {v : mV}, (∀ v ∈ as, okV n v) → (mexp as)[i]? = some v → v.1 ≠ 0 → okV n v ∧ (lg_sl (as.map (encV ad ro)))[i]? = some (.val (encV ad ro v))
  | [], _, _, _, h, _ => by simp [mexp] at h
  | (t, x) :: as, i, v, hok, h, hv => by
    have h1 := hok (t, x) List.mem_cons_self
    have hok' : ∀ v ∈ as, okV n v := fun v hv => hok v (List.mem_cons_of_mem _ hv)
    have hc := encV_cat (ad := ad) (ro := ro) h1
    match t, h1, hc with
    | 1, h1, hc =>
      have e1 : lg_sl (((1, x) :: as).map (encV ad ro)) = .val (encV ad ro (1, x)) :: lg_sl (as.map (encV ad ro)) := by
        simp only [lg_sl, List.map_cons, List.flatMap_cons]
        rw [if_neg (by rw [hc]; exact (by decide : ¬ ((1 : Nat) = 2)))]
        rfl
      rw [e1]
      cases i with
      | zero => simp [mexp] at h; subst h; exact ⟨h1, rfl⟩
      | succ i => exact mexp_get hok' (by simpa [mexp] using h) hv
    | 2, h1, hc =>
      have e1 : lg_sl (((2, x) :: as).map (encV ad ro)) = .val (encV ad ro (2, x)) :: .second :: lg_sl (as.map (encV ad ro)) := by
        simp only [lg_sl, List.map_cons, List.flatMap_cons]
        rw [if_pos (by rw [hc]; rfl)]
        rfl
      rw [e1]
      match i with
      | 0 => simp [mexp] at h; subst h; exact ⟨h1, rfl⟩
      | 1 => simp [mexp] at h; subst h; exact absurd rfl hv
      | i + 2 => exact mexp_get hok' (by simpa [mexp] using h) hv
    | 3, h1, hc =>
      have e1 : lg_sl (((3, x) :: as).map (encV ad ro)) = .val (encV ad ro (3, x)) :: lg_sl (as.map (encV ad ro)) := by
        simp only [lg_sl, List.map_cons, List.flatMap_cons]
        rw [if_neg (by rw [hc]; exact (by decide : ¬ ((1 : Nat) = 2)))]
        rfl
      rw [e1]
      cases i with
      | zero => simp [mexp] at h; subst h; exact ⟨h1, rfl⟩
      | succ i => exact mexp_get hok' (by simpa [mexp] using h) hv
theorem mexp_len {ad : List Nat} {ro : Int → Nat} {n : Int} : ∀ {as : List mV}, (∀ v ∈ as, okV n v) → (lg_sl (as.map (encV ad ro))).length = (mexp as).length
  | [], _ => rfl
  | (t, x) :: as, hok => by
    have h1 := hok (t, x) List.mem_cons_self
    have ih := mexp_len (ad := ad) (ro := ro) (as := as) (fun v hv => hok v (List.mem_cons_of_mem _ hv))
    have hc := encV_cat (ad := ad) (ro := ro) h1
    match t, h1, hc with
    | 1, h1, hc =>
      have e1 : lg_sl (((1, x) :: as).map (encV ad ro)) = .val (encV ad ro (1, x)) :: lg_sl (as.map (encV ad ro)) := by
        simp only [lg_sl, List.map_cons, List.flatMap_cons]
        rw [if_neg (by rw [hc]; exact (by decide : ¬ ((1 : Nat) = 2)))]
        rfl
      rw [e1, List.length_cons, ih]
      rfl
    | 2, h1, hc =>
      have e1 : lg_sl (((2, x) :: as).map (encV ad ro)) = .val (encV ad ro (2, x)) :: .second :: lg_sl (as.map (encV ad ro)) := by
        simp only [lg_sl, List.map_cons, List.flatMap_cons]
        rw [if_pos (by rw [hc]; rfl)]
        rfl
      rw [e1, List.length_cons, List.length_cons, ih]
      rfl
    | 3, h1, hc =>
      have e1 : lg_sl (((3, x) :: as).map (encV ad ro)) = .val (encV ad ro (3, x)) :: lg_sl (as.map (encV ad ro)) := by
        simp only [lg_sl, List.map_cons, List.flatMap_cons]
        rw [if_neg (by rw [hc]; exact (by decide : ¬ ((1 : Nat) = 2)))]
        rfl
      rw [e1, List.length_cons, ih]
      rfl
theorem mInit_loc {ad : List Nat} {ro : Int → Nat} {n : Int} {as : List mV} {N : Nat} (hok : ∀ v ∈ as, okV n v) (hl : (mexp as).length ≤ N) : mLoc ad ro n (lg_sl (as.map (encV ad ro)) ++ List.replicate (N - (lg_sl (as.map (encV ad ro))).length) Slot.unset).toArray (mInit N as) ∧ (mInit N as).length = N := by
  have h1 := lv_entry (as.map (encV ad ro)) (n := N) (by rw [mexp_len hok]; exact hl)
  have h2 : (mInit N as).length = N := by unfold mInit; simp; omega
  refine ⟨⟨by rw [h2]; exact h1.1, h1.2.1, fun i v hi hv => ?_⟩, h2⟩
  unfold mInit at hi
  rw [List.getElem?_append] at hi
  by_cases hlt : i < (mexp as).length
  · rw [if_pos hlt] at hi
    obtain ⟨g1, g2⟩ := mexp_get (ad := ad) (ro := ro) hok hi hv
    refine ⟨g1, ?_⟩
    rw [List.getElem?_toArray, List.getElem?_append_left (by rw [mexp_len hok]; exact hlt)]
    exact g2
  · rw [if_neg hlt] at hi
    rw [List.getElem?_replicate] at hi
    split at hi
    · cases hi; exact absurd rfl hv
    · cases hi
theorem mPc0 (a : Nat) (h : a < 242) : mPc a 0 = 0 := (by decide +kernel : ∀ a, a < 242 → mPc a 0 = 0) a h
section Main
variable {l : Launch} {D : va_G} {A : Nat → Prop} {ro : Int → Nat} {h0 : Int → Int → Int} {sh0 : Int → Int × Int}
theorem mEnd_met {p : Program} {e : Env} {R : Room} {s : State} {m : MethodId} {args : Array Value} {below : List Frame} {meth : Method} {c : Code} {ad : List Nat} {k : Nat} {r : Int} {σ σ' : mS} (cx : mCx k p s m args meth c) : mEnd l D A ro h0 sh0 p e R s m args below meth c (MQ below (Qck D A ro h0 sh0 ad (mrt (mRt k)) r σ') args s (σ'.2.2.1 - σ.2.2.1).toNat (σ'.2.2.2 - σ.2.2.2).toNat A) σ.2.2.1 σ.2.2.2 ad k r σ' := by
  intro H locs pc ls ws tys hd ht hR hS hp hok
  have hq : ∀ t : State, t.heap = H → s.WarmedH t.vm → Qck D A ro h0 sh0 ad (mrt (mRt k)) r σ' args s (.returned (mRv (mAd ws) ro (mrt (mRt k)) r)) t := fun t ht hW => ⟨⟨ws, tys, hp, by rw [ht]; exact hR.moved hW.alike, hok, rfl⟩, hS.F ht⟩
  have hlk := cx.2.2.2.2.2.1
  have hr := cx.2.2.2.2.2.2.1
  cases hrt : mRt k with
  | none =>
    rw [hrt] at hd hq hr
    exact W.vret cx.1 cx.2.1 hr hq hS.2.2 hd
  | some ty =>
    rw [hrt] at hd hq hr ht hok
    cases ty with
    | int => exact W.iret cx.1 cx.2.1 hr hq hS.2.2 hd
    | boolean =>
      have hok' : r = 0 ∨ r = 1 := hok
      exact W.zret cx.1 cx.2.1 hr (by rcases hok' with rfl | rfl <;> rfl) hq hS.2.2 hd
    | long => exact W.lret cx.1 cx.2.1 hr hq hS.2.2 hd
    | object nm => exact W.aret cx.1 cx.2.1 hr (Or.inl ⟨nm, rfl⟩) (by show va_rf _ = _ ∨ ∃ a, va_rf _ = _; cases encO (mAd ws) ro r with
      | none => exact Or.inl rfl
      | some a => exact Or.inr ⟨a, rfl⟩) hq hS.2.2 hd
    | array t => exact W.aret cx.1 cx.2.1 hr (Or.inr ⟨t, rfl⟩) (by show va_rf _ = _ ∨ ∃ a, va_rf _ = _; cases encO (mAd ws) ro r with
      | none => exact Or.inl rfl
      | some a => exact Or.inr ⟨a, rfl⟩) hq hS.2.2 hd
    | _ => simp [mrt] at ht
theorem mMet {n d a : Nat} {as : List mV} {σ σ' : mS} {r : Int} (hWL : mWL l D A ro h0 sh0 n) (hgo : mgr mProg n d a 0 (mInit (mProg a).2 as) [] σ = some (r, σ')) (ha : a < 242) (hfn : mfn a = true) (hlen : (mexp as).length ≤ (mProg a).2) (hNN : NN σ) (hnn : 0 ≤ σ.2.2.1) (hok : ∀ v ∈ as, okV σ.2.2.1 v) (ad : List Nat) : Met l (mYn a) (wsk a) (rmk d σ σ') (Pck D A ro h0 sh0 ad as σ) (Qck D A ro h0 sh0 ad (mrt (mRt a)) r σ') (σ'.2.2.1 - σ.2.2.1).toNat (σ'.2.2.2 - σ.2.2.2).toNat A := by
  obtain ⟨f1, f2, f3, f4, f5, f6, f7, f8, f9⟩ := mfn_spec hfn
  refine Met.ofW (cc := mBy a) (maxL := mMx a) (ret := mRt a) f1 rfl ?_
  intro p e s m args below meth c s₁ B hml hv
  obtain ⟨rfl, ⟨ws, tys, hAd, hR⟩, kw, hA⟩ := hv
  have hts := atoms_spec (ws := wsk a) B.pre
  have cx : mCx a p s m (as.map (encV ad ro)).toArray meth c := ⟨B.exec, B.bytes, hml, by rw [f6]; exact findClass_of_methodNamed B.named, fun w hw => hts w (List.mem_cons_of_mem _ hw), B.notSynchronized, B.returns, fun h => by rw [(name_of_methodNamed B.named B.method).1]; exact h⟩
  obtain ⟨i1, i2⟩ := mInit_loc (ad := mAd ws) (ro := ro) (N := mMx a) hok (by rw [← f9]; exact hlen)
  have h1 := hWL d a 0 _ [] σ r σ' hgo ha p e (rmk d σ σ') s m (as.map (encV ad ro)).toArray below meth c _ σ.2.2.1 σ.2.2.2 ad cx kw hA (Nat.le_refl _) (Nat.le_refl _) (Nat.le_refl _) (Nat.le_refl _) hNN hnn (mEnd_met cx) (Int.le_refl _) (Int.le_refl _) s.heap [] _ ws tys ⟨hR, va_S.rf, by rw [f9]; exact i1, by rw [f9]; exact i2, (fun _ h => by cases h), by rw [hAd]; exact List.prefix_refl _⟩
  rw [Int.sub_self, Int.sub_self] at h1
  rw [lg_entry_eq]
  rw [hAd] at h1
  rw [mPc0 a ha] at h1
  exact h1
end Main
