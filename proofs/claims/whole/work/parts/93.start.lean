/-! THE START, THE WALK OF THE LAW, THE CLAIM -/
/-! THE CLAIM OUT OF ONE WALK OF THE LAW'S BODY. Your part is whole_start (and what it stands on); all else here is the same for every law, but numbers. -/
def R_law : String := "RoadWaterLaw"
def lw_P (b : Addr) (xs : List Int32) (args : Array Value) (s : State) : Prop := args = #[.ref b] ∧ s.IntsAt b xs ∧ xs.length ≤ 3072 ∧ (Jvm.Cond.and given_1 narrow_1).before args s = true
def lw_Q (_ : Array Value) (s : State) (o : Outcome) (t : State) : Prop := o = .returned (some (.int 1)) ∧ Framed s o t [] 600000 7302250
def lw_Z (below : List Frame) (a : Array Value) (s : State) : State → Prop := fun t => ∃ o, t.status = .running ∧ Ended t below o ∧ lw_Q a s o t
/-- the law's own end, with 1 on the stack, nothing written that was there before, its room as the claim has it -/
theorem lw_ret {p : Program} {l : Launch} {e : Env} {s : State} {m : MethodId} {below : List Frame} {meth : Method} {c : Code} {b : Nat} (hx : p.tables.exec = Jvm.exec) (hb : c.code = code) (hr : meth.sig.returnType = ret) (hlocks : meth.locks = false) {pc : Nat} {H : Heap} {ls : Array Slot} (hdg : decode code pc = .ok (.ireturn, 1)) : W p l e room_1 s m #[Value.ref b] below meth c H [] 600000 7302250 (lw_Z below #[Value.ref b] s) (F0 m pc ls [.int 1]) := by
  intro T hT X
  obtain ⟨fs, hret, hrun, hended, hW, hframe⟩ := X.leave (v := some (.int 1)) (hlocks := hlocks) (fun h => by rw [hr] at h; cases h)
  have hmeth' : T.vm.method? m = some meth := X.method'
  refine ⟨T.setFrames fs, ?_, .returned (some (.int 1)), hrun, hended, rfl, ⟨_, rfl⟩, hW, hframe⟩
  jvm_step X.here [X.here.top, hx, hb, hdg, hmeth', hr, ret, narrow_b1]
  (try refine ⟨rfl, ?_⟩); (try refine ⟨rfl, ?_⟩)
  first | (intro acts; rw [hret _ acts rfl rfl rfl]) | rw [hret _ _ rfl rfl rfl]
  exact Steps.refl _
/-- what holds at the law's entry: the machine, the code, the tables' words (any of lw_tbl by 'hts w (by decide +kernel)'), the script of L ints xs at the cell b, what the Statement gives of the start (any of its parts by flat_of_before) -/
def lw_At (p : Program) (s : State) (m : MethodId) (meth : Method) (c : Code) (b L : Nat) (xs : Nat → Int32) : Prop :=
  p.tables.exec = Jvm.exec ∧ c.code = code ∧ meth.sig.returnType = ret ∧ c.maxLocals = 4 ∧ s.vm.findClass R_law = some m.cls ∧ (∀ w ∈ lw_tbl, w.before #[Value.ref b] s = true) ∧ va_X b L xs s s.heap ∧ b < s.heap.size ∧ meth.locks = false ∧ (Jvm.Cond.and given_1 narrow_1).before #[Value.ref b] s = true
theorem z_tab {args : Array Value} {s : State} {A : Nat → Prop} {nm : String} {r : Int} (hr : r = -2 ∨ r = -3) (harr : (Cond.arrayOf (.static "RoadWater" nm "[I") .int).before args s = true) (hl : (Cond.eq (.length (.static "RoadWater" nm "[I")) (.int 4)).before args s = true) (he : ∀ j : Nat, j < 4 → (Cond.eq (.elem (.static "RoadWater" nm "[I") (.int (Int32.ofNat j))) (.int (Int32.ofInt (zhc r (j : Int))))).before args s = true) (hA : ∀ a : Nat, a < s.heap.size → ¬ A a) : ∃ t : Nat, (Term.static "RoadWater" nm "[I").eval args s none [] s = some (.ref t) ∧ va_T .int t 4 (fun j => .int (Int32.ofInt (zhc r (j : Int)))) A s s.heap :=
  va_Tof (f := fun j => .int (Int32.ofInt (zhc r (j : Int)))) (by decide) harr (va_eqt hl) (fun j hj => va_eqt (he j hj)) hA
theorem z_kw {s : State} {b L : Nat} {xs : Nat → Int32} (hL : L ≤ 3072) (hts : ∀ w ∈ lw_tbl, w.before #[Value.ref b] s = true) (hX : va_X b L xs s s.heap) (hbl : b < s.heap.size) (hgv : (Jvm.Cond.and given_1 narrow_1).before #[Value.ref b] s = true) : ∃ (a2 a3 : Nat) (adK : Nat → Nat), mKW (fun q : Nat => s.heap.size ≤ q) (zro b a2 a3 adK) (zh0 xs) (zsh0 L) s := by
  have hA : ∀ a : Nat, a < s.heap.size → ¬ (fun q : Nat => s.heap.size ≤ q) a := fun a ha => Nat.not_le.mpr ha
  have hs : ∀ c ∈ zgv, c.before #[Value.ref b] s = true := flat_of_before _ hgv
  have heF : ∀ j : Nat, j < 4 → (Cond.eq (.elem (.static "RoadWater" "FIRST_TERMS" "[I") (.int (Int32.ofNat j))) (.int (Int32.ofInt (zhc (-2) (j : Int))))).before #[Value.ref b] s = true := by
    intro j hj
    match j, hj with
    | 0, _ => exact hs _ zg_eF0
    | 1, _ => exact hs _ zg_eF1
    | 2, _ => exact hs _ zg_eF2
    | 3, _ => exact hs _ zg_eF3
    | n + 4, h => omega
  have heH : ∀ j : Nat, j < 4 → (Cond.eq (.elem (.static "RoadWater" "HIGHEST_TERMS" "[I") (.int (Int32.ofNat j))) (.int (Int32.ofInt (zhc (-3) (j : Int))))).before #[Value.ref b] s = true := by
    intro j hj
    match j, hj with
    | 0, _ => exact hs _ zg_eH0
    | 1, _ => exact hs _ zg_eH1
    | 2, _ => exact hs _ zg_eH2
    | 3, _ => exact hs _ zg_eH3
    | n + 4, h => omega
  obtain ⟨a2, v2, t2⟩ := z_tab (A := fun q : Nat => s.heap.size ≤ q) (Or.inl rfl) (hs _ zg_aF) (hs _ zg_lF) heF hA
  obtain ⟨a3, v3, t3⟩ := z_tab (A := fun q : Nat => s.heap.size ≤ q) (Or.inr rfl) (hs _ zg_aH) (hs _ zg_lH) heH hA
  obtain ⟨adK, adV, hK, hE⟩ := vk_Sof (args := #[Value.ref b]) (s := s) (N := 11) (tm := ztm) (len := zlen) (byt := zbyt) (A := fun q : Nat => s.heap.size ≤ q) (by decide +kernel) (fun i hi => hs _ (zg_ex i hi)) (fun i hi => hs _ (zg_co i hi)) (fun i hi => hs _ (zg_ar i hi)) (fun i hi => hs _ (zg_le i hi)) (fun i hi j hj => hs _ (zg_el i hi j hj)) (fun i j hi hj hij => (zg_ne i hi j hj hij).imp (hs _) (hs _)) hA
  refine ⟨a2, a3, adK, ⟨⟨fun r _ => zsh0_k, fun r _ => zsh0_l hL⟩, fun r _ hr => ⟨?_, fun j => zh0_rg⟩, ⟨fun r => adV (-10 - r).toNat, fun r _ hr => ?_⟩, fun o q hq => ?_, ⟨va_Zref (hts _ zt_lF) (hts _ zt_iR) v2 hA, va_Zref (hts _ zt_lH) (hts _ zt_iR) v3 hA, va_Zof (hts _ zt_lC) (hts _ zt_iS) (va_eqt (hs _ zg_cs)) hA, va_Zqof (hts _ zt_lS) (hts _ zt_iP) (hs _ zg_si) hA⟩, hts _ zt_fl, fun q hq => ?_, hts _ zt_ca, fun o q hq r hr => ?_⟩⟩
  · rcases zsh0_a hr with e | e | e
    · subst e
      obtain ⟨scr, x1, x2, x3, x4, x5⟩ := hX
      refine ⟨scr, x1, x2, x3, ?_, ?_, fun j hj => ?_, Nat.not_le.mpr hbl⟩
      · show ((L : Int)).toNat ≤ _
        rw [x4]; omega
      · show _ = Int32.ofNat ((L : Int)).toNat
        rw [x4]; rfl
      · have hj' : j < L := by
          have h5 : j < ((L : Int)).toNat := hj
          omega
        rw [x5 j hj']
        show some (Value.int (xs j)) = some (.int (Int32.ofInt (xs ((j : Int)).toNat).toInt))
        rw [Int.toNat_natCast, Int32.ofInt_toInt]
    · subst e; exact t2
    · subst e; exact t3
  · have c := zsh0_s hr
    have hi : (-10 - r).toNat < 11 := by omega
    obtain ⟨k1, k2, k3, k4⟩ := hK.1 _ hi
    have n1 : ¬ r = -1 := by omega
    have n2 : ¬ r = -2 := by omega
    have n3 : ¬ r = -3 := by omega
    have e1 : zro b a2 a3 adK r = adK (-10 - r).toNat := by unfold zro; rw [if_neg n1, if_neg n2, if_neg n3]
    have e2 : (zsh0 L r).2.toNat = zlen.getD (-10 - r).toNat 0 := by
      unfold zsh0
      rw [if_neg n1, if_neg n2, if_neg n3, if_pos c]
      show ((zstr.getD (-10 - r).toNat []).length : Int).toNat = _
      rw [Int.toNat_natCast, zlen_eq _ hi]
    have e3 : ∀ j : Int, zh0 xs r j = (zstr.getD (-10 - r).toNat []).getD j.toNat 0 := fun j => by
      unfold zh0 zhc
      rw [if_neg n1, if_neg n2, if_neg n3, if_pos c]
    rw [e1, e2]
    refine ⟨k1, k2, k3, ?_, fun j => by rw [e3]; exact zstr_b _ _⟩
    obtain ⟨cell, w1, w2, w3, w4, w5, w6, w7⟩ := k4
    refine ⟨cell, w1, w2, w3, w4, w5, fun j hj => ?_, w7⟩
    refine (w6 j hj).trans ?_
    show some (Value.int ((zbyt.getD (-10 - r).toNat []).getD j 0)) = some (Value.int (Int32.ofInt (zh0 xs r (j : Int))))
    rw [e3, Int.toNat_natCast, zbyt_eq _ hi j hj]
  · match o, hq with
    | 0, hq => exact absurd hq List.not_mem_nil
    | 1, hq => exact absurd hq List.not_mem_nil
    | 2, hq => exact absurd hq List.not_mem_nil
    | 3, hq => exact absurd hq List.not_mem_nil
    | 4, hq => exact absurd hq List.not_mem_nil
    | 5, hq =>
      have hall : ∀ q ∈ mSl 5, ∃ i, i < 11 ∧ q.1 = ([99, 105, 107, 109, 111, 116, 118, 120, 122, 124, 126] : List Nat).getD i 0 ∧ q.2.1 = -10 - (i : Int) := by decide +kernel
      obtain ⟨i, hi, q1, q2⟩ := hall q hq
      refine ⟨by omega, (["warm", "if", "or", "and", "not", "inch", "above", "place", "ground", "rise", "hour"] : List String).getD i "", ?_⟩
      have e1 : zro b a2 a3 adK q.2.1 = adK i := by
        unfold zro
        rw [if_neg (by omega), if_neg (by omega), if_neg (by omega)]
        exact congrArg adK (by omega)
      rw [e1, q1]
      exact vk_R.of (hts _ (zg_sr i hi)) (hE i hi)
    | n + 6, hq => exact absurd hq List.not_mem_nil
  · have hm : q = (9, 26, 235) ∨ q = (9, 33, 197) := by
      rcases List.mem_cons.mp hq with e | e
      · exact Or.inl e
      · exact Or.inr (List.mem_singleton.mp e)
    rcases hm with e | e <;> subst e
    · exact hts _ zt_m1
    · exact hts _ zt_m2
  · match o, hq with
    | 0, hq =>
      cases List.mem_singleton.mp hq
      cases hr
      exact hts _ zt_aH
    | 6, hq =>
      cases List.mem_singleton.mp hq
      cases hr
      exact hts _ zt_aL
    | 9, hq =>
      cases List.mem_singleton.mp hq
      cases hr
      exact hts _ zt_aR
    | 1, hq => exact absurd hq List.not_mem_nil
    | 2, hq => exact absurd hq List.not_mem_nil
    | 3, hq => exact absurd hq List.not_mem_nil
    | 4, hq => exact absurd hq List.not_mem_nil
    | 5, hq => exact absurd hq List.not_mem_nil
    | 7, hq => exact absurd hq List.not_mem_nil
    | 8, hq => exact absurd hq List.not_mem_nil
    | n + 10, hq => exact absurd hq List.not_mem_nil
theorem z_known {s : State} {b : Nat} (hts : ∀ w ∈ lw_tbl, w.before #[Value.ref b] s = true) : ∃ (dC : Nat → ClassId) (dI : Nat → Nat → Nat), ∀ (k : Nat) (q : vw_C), mCl[k]? = some q → u_Kn s q.1 q.2.1 q.2.2 (dC k) (dI k) := by
  have h0 : ∀ k : Nat, ∃ z : ClassId × (Nat → Nat), ∀ q : vw_C, mCl[k]? = some q → u_Kn s q.1 q.2.1 q.2.2 z.1 z.2 := by
    intro k
    by_cases hk : ∃ q, mCl[k]? = some q
    · obtain ⟨⟨C, T, N⟩, hq⟩ := hk
      obtain ⟨h1, h2, h3, h4, h5, h6⟩ := mCl_ok k C T N hq
      obtain ⟨cC, iS, hKn⟩ := u_known (C := C) (T := T) (N := N) hts h1 (hts _ h4)
      exact ⟨(cC, iS), fun q q' => by cases hq.symm.trans q'; exact hKn⟩
    · exact ⟨(0, fun _ => 0), fun q q' => absurd ⟨q, q'⟩ hk⟩
  obtain ⟨f, hf⟩ := Classical.axiomOfChoice h0
  exact ⟨fun k => (f k).1, fun k => (f k).2, fun k q hq => hf k q hq⟩
theorem z_end {l : Launch} {D : va_G} {ro : Int → Nat} {h0 : Int → Int → Int} {sh0 : Int → Int × Int} {p : Program} {e : Env} {s : State} {m : MethodId} {below : List Frame} {meth : Method} {c : Code} {b : Nat} {r : Int} {σ' : mS} (hx : p.tables.exec = Jvm.exec) (hb : c.code = code) (hr : meth.sig.returnType = ret) (hlocks : meth.locks = false) (r1 : r = 1) (hc : σ'.2.2.1 ≤ 10000) (hs : σ'.2.2.2 ≤ 2000000) : mEnd l D (fun q : Nat => s.heap.size ≤ q) ro h0 sh0 p e room_1 s m #[Value.ref b] below meth c (lw_Z below #[Value.ref b] s) 0 0 [] 237 r σ' := by
  intro H locs pc ls ws tys hd ht hR hS hp hok
  subst r1
  refine W.widen (k := 600000) (n := 7302250) (by omega) (by omega) ?_
  refine va_forget (fun q hq => hS.2.2 q hq) ?_
  exact lw_ret hx hb hr hlocks hd
theorem whole_start {p : Program} {e : Env} {s : State} {m : MethodId} {below : List Frame} {meth : Method} {c : Code} (l : Launch) {b L : Nat} {xs : Nat → Int32} (hL : L ≤ 3072) (C0 : lw_At p s m meth c b L xs) : W p l e room_1 s m #[Value.ref b] below meth c s.heap [] 0 0 (lw_Z below #[Value.ref b] s) (entryFrame m ([Value.ref b] : List Value).toArray 4) := by
  obtain ⟨hx, hb, hr, hml, hown, hts, hX, hbl, hlocks, hgv⟩ := id C0
  obtain ⟨a2, a3, adK, kw⟩ := z_kw hL hts hX hbl hgv
  obtain ⟨dC, dI, hKc⟩ := z_known hts
  have hro : zro b a2 a3 adK (-1) = b := if_pos rfl
  have gs : ∀ n : Nat, n < 11 → zsh0 L (-10 - (n : Int)) = (300, ((zstr.getD n []).length : Int)) ∧ ∀ j : Nat, j < (zstr.getD n []).length → zh0 xs (-10 - (n : Int)) (j : Int) = (zstr.getD n []).getD j 0 := by
    intro n hn
    have n1 : ¬ -10 - (n : Int) = -1 := by omega
    have n2 : ¬ -10 - (n : Int) = -2 := by omega
    have n3 : ¬ -10 - (n : Int) = -3 := by omega
    have c : -20 ≤ -10 - (n : Int) ∧ -10 - (n : Int) ≤ -10 := by omega
    have e : (-10 - (-10 - (n : Int))).toNat = n := by omega
    refine ⟨?_, fun j hj => ?_⟩
    · show zsh0 L (-10 - (n : Int)) = _
      unfold zsh0
      rw [if_neg n1, if_neg n2, if_neg n3, if_pos c, e]
    · show zh0 xs (-10 - (n : Int)) (j : Int) = _
      unfold zh0 zhc
      rw [if_neg n1, if_neg n2, if_neg n3, if_pos c, e, Int.toNat_natCast]
  have hlaw := z_law (sc := fun j => (xs j.toNat).toInt) (len := (L : Int)) (σ0 := (zh0 xs, zsh0 L, 0, 0)) rfl rfl ⟨rfl, rfl, rfl, rfl, rfl⟩ ⟨rfl, rfl, rfl, rfl, rfl⟩ gs ⟨rfl, fun j => rfl⟩ (by omega) (by omega) (fun j _ _ => by have := Int32.toInt_lt (xs j.toNat); omega)
  obtain ⟨⟨r, σ'⟩, hM, q1, q2, q3⟩ := hlaw
  obtain ⟨hlen, n, hgo⟩ := T_LAW_law hM
  have hok : ∀ v ∈ ([(3, -1)] : List mV), okV (0 : Int) v := by
    intro v hv
    rw [List.mem_singleton.mp hv]
    show (-1 : Int) ≤ 0
    decide
  have hA : ∀ q : Nat, s.heap.size ≤ q → (fun q : Nat => s.heap.size ≤ q) q := fun _ h => h
  have cx : mCx 237 p s m #[Value.ref b] meth c := ⟨hx, hb, hml, hown, fun w hw => hts w (List.mem_filter.mp hw).1, hlocks, hr, fun h => absurd h (by decide +kernel)⟩
  have hR : mRel (dC, dI) (fun q : Nat => s.heap.size ≤ q) (zro b a2 a3 adK) (zh0 xs) (zsh0 L) (zh0 xs, zsh0 L, 0, 0) [] [] s s.heap := by
    refine ⟨⟨rfl, fun r _ => ⟨rfl, rfl⟩, fun r hr => ?_⟩, fun k q h => by simp at h, ⟨fun i j p q h => by simp at h, fun k q h => by simp at h⟩, ⟨hKc, fun k q h => by simp at h⟩, fun j q h => by simp at h⟩
    have hr' : (0 : Int) < r := hr
    show zsh0 L r = (0, 0)
    unfold zsh0
    rw [if_neg (by omega), if_neg (by omega), if_neg (by omega), if_neg (by omega)]
  have hNN : NN (zh0 xs, zsh0 L, 0, 0) := fun r => (zsh0_l (r := r) hL).1
  obtain ⟨i1, i2⟩ := mInit_loc (ad := []) (ro := zro b a2 a3 adK) (N := 4) hok (by decide)
  have h1 := mWL_all (l := l) (D := (dC, dI)) (A := fun q : Nat => s.heap.size ≤ q) (ro := zro b a2 a3 adK) (h0 := zh0 xs) (sh0 := zsh0 L) n 129 237 0 _ [] _ r σ' hgo (by decide) p e room_1 s m #[Value.ref b] below meth c (lw_Z below #[Value.ref b] s) 0 0 [] cx kw hA (by decide) (by decide) (by simp only at q2; show (σ'.2.2.1 - 0).toNat ≤ 600000; omega) (by simp only at q3; show (σ'.2.2.2 - 0).toNat ≤ 7302250; omega) hNN (Int.le_refl _) (z_end hx hb hr hlocks q1 q2 q3) (Int.le_refl _) (Int.le_refl _) s.heap [] _ [] [] ⟨hR, va_S.rf, i1, i2, (fun _ h => absurd h List.not_mem_nil), List.prefix_refl _⟩
  rw [mPc0 237 (by decide)] at h1
  have e0 : ([(3, -1)] : List mV).map (encV [] (zro b a2 a3 adK)) = [Value.ref b] := by
    show [Value.ref (zro b a2 a3 adK (-1))] = _
    rw [hro]
  rw [e0] at h1
  rw [lg_entry_eq]
  exact h1
set_option maxHeartbeats 4000000 in
theorem lw_walk (l : Launch) (b : Addr) (xs : List Int32) : MetFree l x (headSpec (Jvm.Cond.code x code maxLocals ret :: tables_1) room_1) (lw_P b xs) (fun _ _ _ _ _ => True) lw_Q := by
  refine MetFree.of_bodyS (code := code) (maxLocals := maxLocals) (ret := ret) (by decide) ?_ ?_
  · intro args s m h hn
    obtain ⟨meth, c, h1, h2, h3, h4, h5, h6, -, -⟩ := Cond.code_spec hn (atoms_spec (ws := Jvm.Cond.code x code maxLocals ret :: tables_1) h _ List.mem_cons_self)
    exact ⟨meth, c, h1, h2, h3, h4, h5, h6⟩
  · intro p e s m args below meth c s₁ B hml0 hP _
    obtain ⟨rfl, hx, hbd, hgv⟩ := hP
    obtain ⟨scr, harrAt, hlist, hof, hsmall⟩ := hx
    obtain ⟨hcb, hkn, -, -⟩ := State.arrayAt?_spec harrAt
    have hown : s.vm.findClass R_law = some m.cls := findClass_of_methodNamed B.named
    have hts0 : ∀ c ∈ (Jvm.Cond.code x code maxLocals ret :: tables_1), c.before #[Value.ref b] s = true := atoms_spec (ws := Jvm.Cond.code x code maxLocals ret :: tables_1) B.pre
    have hts : ∀ w ∈ lw_tbl, w.before #[Value.ref b] s = true := k2_hts_sels lw_privs (fun w hw => hts0 w (List.mem_cons_of_mem _ hw)) lw_privs_ok
    have hml : c.maxLocals = 4 := B.maxLocals_eq (hts0 _ List.mem_cons_self)
    have X₀ : Stand p l e room_1 s m #[Value.ref b] below meth c s₁ [] 0 0 := Stand.of_body B
    have hh0 : s₁.heap = s.heap := by rw [B.state]; rfl
    have hsz : scr.slots.size = xs.length := by rw [← Array.length_toList, hlist, List.length_map]
    have hval : ∀ j : Nat, j < xs.length → scr.slots[j]? = some (.int (xs.getD j 0)) := fun j hj => by
      rw [← Array.getElem?_toList, hlist]
      simp [hj]
    have hbl : b < s.heap.size := (Array.getElem?_eq_some_iff.mp hcb).1
    have hX : va_X b xs.length (fun j => xs.getD j 0) s s.heap := ⟨scr, hcb, hof, hkn, hsz, hval⟩
    have K : W p l e room_1 s m #[Value.ref b] below meth c s₁.heap [] 0 0 (lw_Z below #[Value.ref b] s) (entryFrame m ([Value.ref b] : List Value).toArray 4) := by
      rw [hh0]
      exact whole_start l hbd ⟨B.exec, B.bytes, B.returns, hml, hown, hts, hX, hbl, B.notSynchronized, hgv⟩
    obtain ⟨t, a1, o, b1, b2, b3⟩ := K s₁ rfl X₀
    exact ⟨t, o, a1, b1, b2, b3⟩
theorem lw_pre_spec {args : Array Value} {s : State} (h : (Jvm.Cond.and given_1 narrow_1).before args s = true) (hr : rest_1_c.before args s = true) : ∃ (b : Addr) (xs : List Int32), lw_P b xs args s := by
  have hs := flat_of_before _ h
  have hq := flat_of_before _ hr
  have hc : (Cond.count 1).before args s = true := hs _ (by decide +kernel)
  have harr : (Cond.arrayOf (.arg 0) .int).before args s = true := hs _ (by decide +kernel)
  have hle : (Cond.le (.length (.arg 0)) (.int 3072)).before args s = true := hs _ (by decide +kernel)
  have hlen : (Cond.isInt (.length (.arg 0))).before args s = true := hq _ (by decide +kernel)
  have hall : (Cond.all (.arg 0) (.isInt (.elem (.arg 0) (.index 0)))).before args s = true := hq _ (by decide +kernel)
  obtain ⟨b, xs, hb, hx⟩ := State.ints_of_pre rfl harr hlen hall
  have hsm : xs.length < 2 ^ 31 := hx.choose_spec.2.2.2
  have hev : (Term.length (.arg 0)).eval args s none [] s = some (.int xs.length.toInt32) := hx.length_eval hb
  have hv := Cond.le_ints hev (show (Term.int 3072).eval args s none [] s = some (.int 3072) from rfl)
  have hd : xs.length.toInt32 ≤ 3072 := by
    simpa [Cond.before, Cond.holds, hv] using hle
  have hN : xs.length ≤ 3072 := (Int32.ofNat_le_ofNat hsm (by decide)).mp (show Int32.ofNat xs.length ≤ Int32.ofNat 3072 from hd)
  exact ⟨b, xs, Cond.one_arg hc (show args[0]? = some (.ref b) from hb), hx, hN, h⟩
theorem lw_comes (l : Launch) : Comes l x (Jvm.Cond.code x code maxLocals ret :: tables_1) room_1 (fun tb e args s => Calls_1 tb e args s ∧ rest_1 tb e args s ∧ Pre_1 tb e args s)
    (fun _ _ args s o t => lw_Q args s o t) := by
  intro p e ha hc hk s m args below hf hfit hheap happ hpre
  obtain ⟨b, xs, hP⟩ := lw_pre_spec hpre.2.2 hpre.2.1
  obtain ⟨k, o, h1, h2, h3, hQ⟩ := lw_walk l b xs p e ha hc hk s m args below hf ((Spec.applies_iff_loose hf).mp happ).1 hP trivial
  exact ⟨k, o, h1, h2, h3, hQ⟩
theorem lw_frame {s t : State} {o : Outcome} {args : Array Value} (h : Framed s o t [] 600000 7302250) :
    Framed s o t (fieldLocs frame_1_writes args s ++ arrayLocs frame_1_arrays args s ++ staticLocs frame_1_statics s) 600000 7302250 := h
theorem lw_limb (L : Cond) (hL : ∀ (args : Array Value) (s t : State), L.after args s (.returned (some (.int 1))) t = true) :
    ArmFor flags0 classFile x code maxLocals ret World_1 tables_1 room_1 Calls_1 rest_1 Pre_1
      (fun tb e a s o t => postC L tb e a s o t ∧ Framed s o t (fieldLocs frame_1_writes a s ++ arrayLocs frame_1_arrays a s ++ staticLocs frame_1_statics s) 600000 7302250) := by
  intro l _ _ _ p e ha hc hk s m args below hf hfit hheap happ hpre
  obtain ⟨k, o, h1, h2, h3, rfl, hF⟩ := lw_comes l p e ha hc hk s m args below hf hfit hheap happ hpre
  exact ⟨k, _, h1, h2, h3, hL args s _, lw_frame hF⟩
theorem i_vc : Claimed_1_1 ∧ Claimed_1_2 := ⟨lw_limb limb_1_1 (fun args s t => by simp [limb_1_1, Cond.after, Cond.holds, Cond.value]), lw_limb limb_1_2 (fun args s t => Cond.after_iff.mpr (by
  first | (rw [show limb_1_2 = Cond.eq .result (.int 1) from rfl, Cond.eq_ints (x := 1) (y := 1) rfl rfl]; simp; done) | (simp [limb_1_2, Cond.value, Term.eval]; done)))⟩

