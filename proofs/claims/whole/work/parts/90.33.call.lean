/-! calls -/
def NN (σ : mS) : Prop := ∀ r, 0 ≤ (σ.2.1 r).2
def leS (σ σ' : mS) : Prop := NN σ → NN σ' ∧ σ.2.2.1 ≤ σ'.2.2.1 ∧ σ.2.2.2 ≤ σ'.2.2.2
theorem leS.rfl {σ : mS} : leS σ σ := fun h => ⟨h, Int.le_refl _, Int.le_refl _⟩
theorem leS.trans {a b c : mS} (h1 : leS a b) (h2 : leS b c) : leS a c := fun h => by
  obtain ⟨x1, x2, x3⟩ := h1 h
  obtain ⟨y1, y2, y3⟩ := h2 x1
  exact ⟨y1, by omega, by omega⟩
theorem leS.of2 {σ σ' : mS} (h : σ'.2 = σ.2) : leS σ σ' := fun hn => by
  refine ⟨fun r => ?_, ?_, ?_⟩
  · rw [h]; exact hn r
  · rw [h]; exact Int.le_refl _
  · rw [h]; exact Int.le_refl _
theorem leS_pf {a b r v : Int} {σ σ' : mS} (h : pf a b r v σ = some σ') : leS σ σ' := by
  unfold pf at h
  split at h
  · cases h; exact leS.of2 rfl
  · cases h
theorem leS_pz {a b r v : Int} {σ σ' : mS} (h : pz a b r v σ = some σ') : leS σ σ' := by
  unfold pz at h
  split at h
  · cases h; exact leS.of2 rfl
  · cases h
theorem leS_sd {a b r v : Int} {σ σ' : mS} (h : sd a b r v σ = some σ') : leS σ σ' := by
  unfold sd at h
  split at h
  · cases h; exact leS.of2 rfl
  · cases h
theorem leS_sr {a b r v : Int} {σ σ' : mS} (h : sr a b r v σ = some σ') : leS σ σ' := by
  unfold sr at h
  split at h
  · cases h; exact leS.of2 rfl
  · cases h
theorem leS_cpy {r u r' u' n : Int} {σ σ' : mS} (h : cpy r u r' u' n σ = some σ') : leS σ σ' := by
  unfold cpy at h
  split at h
  · cases h; exact leS.of2 rfl
  · cases h
theorem leS_new {a n : Int} {σ : mS} (hn : 0 ≤ n) : leS σ (mnew a n σ) := fun h => by
  refine ⟨fun r => ?_, ?_, ?_⟩
  · unfold mnew
    dsimp only
    split
    · exact hn
    · exact h r
  · show σ.2.2.1 ≤ σ.2.2.1 + 1; omega
  · show σ.2.2.2 ≤ σ.2.2.2 + n; omega
theorem leS_na {a n : Int} {σ σ' : mS} (h : na a n σ = some σ') : leS σ σ' := by
  unfold na at h
  split at h
  · rename_i hc; cases h; exact leS_new hc.1
  · cases h
theorem leS_cln {r : Int} {σ σ' : mS} (h : cln r σ = some σ') : leS σ σ' := by
  unfold cln at h
  split at h
  · cases h
    intro hn
    refine ⟨fun q => ?_, ?_, ?_⟩
    · dsimp only
      split
      · exact hn r
      · exact hn q
    · show σ.2.2.1 ≤ σ.2.2.1 + 1; omega
    · have := hn r
      show σ.2.2.2 ≤ σ.2.2.2 + (σ.2.1 r).2; omega
  · cases h
/-- where it comes to lies behind where it is -/
def lel {β : Type} (fin : β → mS) (σ : mS) (x : Option β) : Prop := ∀ b, x = some b → leS σ (fin b)
section Lel
variable {β : Type} {fin : β → mS} {σ : mS}
theorem lel_none : lel fin σ none := fun _ h => by cases h
theorem lel_bind {α : Type} {x : Option α} {f : α → Option β} (h : ∀ a, lel fin σ (f a)) : lel fin σ (x.bind f) := by
  intro b hb
  cases x with
  | none => cases hb
  | some a => exact h a b hb
theorem lel_bindS {x : Option mS} {f : mS → Option β} (hx : ∀ σ', x = some σ' → leS σ σ') (h : ∀ σ', lel fin σ' (f σ')) : lel fin σ (x.bind f) := by
  intro b hb
  cases hx' : x with
  | none => rw [hx'] at hb; cases hb
  | some a => rw [hx'] at hb; exact (hx a hx').trans (h a b hb)
theorem lel_bindP {x : Option (Int × mS)} {f : Int × mS → Option β} (hx : ∀ p, x = some p → leS σ p.2) (h : ∀ p, lel fin p.2 (f p)) : lel fin σ (x.bind f) := by
  intro b hb
  cases hx' : x with
  | none => rw [hx'] at hb; cases hb
  | some a => rw [hx'] at hb; exact (hx a hx').trans (h a b hb)
theorem lel_cond {c : Bool} {x y : Option β} (h : lel fin σ x) (h' : lel fin σ y) : lel fin σ (cond c x y) := by
  cases c
  · exact h'
  · exact h
theorem lel_ite {c : Prop} {dc : Decidable c} {x y : Option β} (h : lel fin σ x) (h' : lel fin σ y) : lel fin σ (if c then x else y) := by
  by_cases hc : c
  · rw [if_pos hc]; exact h
  · rw [if_neg hc]; exact h'
theorem mbin_lel {a : Nat} {x y : Int} {F : Int → Option β} (h : ∀ v, lel fin σ (F v)) : lel fin σ (mbin a x y F) := by
  unfold mbin
  split <;> first | exact h _ | exact lel_bind h | exact lel_none
theorem mlbin_lel {a : Nat} {x y : Int} {F : Int → Option β} (h : ∀ v, lel fin σ (F v)) : lel fin σ (mlbin a x y F) := by
  unfold mlbin
  split <;> first | exact h _ | exact lel_bind h | exact lel_none
theorem mif_lel {a : Nat} {x y : Int} {T F : Option β} (h : lel fin σ T) (h' : lel fin σ F) : lel fin σ (mif a x y T F) := by
  unfold mif
  split <;> first | exact lel_ite h h' | exact lel_ite h' h
variable {C : Nat → List mV → mS → Option (Int × mS)} {N : Nat → List mV → List mV → mS → Option β} {R : Int → mS → Option β}
set_option maxHeartbeats 4000000 in
theorem mstep_lel (hC : ∀ k as σ p, C k as σ = some p → leS σ p.2) (hN : ∀ i L st σ, lel fin σ (N i L st σ)) (hR : ∀ v σ, lel fin σ (R v σ)) (mi : mI) (i : Nat) (L st : List mV) (σ : mS) : lel fin σ (mstep C N R mi i L st σ) := by
  obtain ⟨op, a, b, c, t⟩ := mi
  match op with
  | 0 => exact hN _ _ _ _
  | 1 => simp only [mstep]; split <;> first | exact lel_cond (hN _ _ _ _) lel_none | exact lel_none
  | 2 => simp only [mstep]; split <;> first | exact lel_cond (hN _ _ _ _) lel_none | exact lel_none
  | 3 => simp only [mstep]; split <;> first | exact hN _ _ _ _ | exact lel_none
  | 4 => simp only [mstep]; split <;> first | exact mbin_lel (fun _ => hN _ _ _ _) | exact lel_none
  | 5 => simp only [mstep]; split <;> first | exact mlbin_lel (fun _ => hN _ _ _ _) | exact lel_none
  | 6 => simp only [mstep]; split <;> first | exact hN _ _ _ _ | exact lel_none
  | 7 => simp only [mstep]; split <;> first | exact mif_lel (hN _ _ _ _) (hN _ _ _ _) | exact lel_none
  | 8 => simp only [mstep]; split <;> first | exact mif_lel (hN _ _ _ _) (hN _ _ _ _) | exact lel_none
  | 9 => exact hN _ _ _ _
  | 10 => simp only [mstep]; split <;> first | exact mif_lel (hN _ _ _ _) (hN _ _ _ _) | exact lel_none
  | 11 => simp only [mstep]; split <;> first | exact lel_bind (fun _ => mif_lel (hN _ _ _ _) (hN _ _ _ _)) | exact lel_none
  | 12 => simp only [mstep]; split <;> first | (rw [msw_sel]; exact hN _ _ _ _) | exact lel_none
  | 13 => simp only [mstep]; split <;> first | exact lel_bind (fun _ => hN _ _ _ _) | exact lel_none
  | 14 => simp only [mstep]; split <;> first | exact lel_bindS (fun _ => leS_pz) (fun _ => hN _ _ _ _) | exact lel_bindS (fun _ => leS_pf) (fun _ => hN _ _ _ _) | exact lel_none
  | 15 => simp only [mstep]; split <;> first | exact lel_bind (fun _ => hN _ _ _ _) | exact lel_none
  | 16 => simp only [mstep]; split <;> first | exact lel_bindS (fun _ => leS_sd) (fun _ => hN _ _ _ _) | exact lel_bindS (fun _ => leS_sr) (fun _ => hN _ _ _ _) | exact lel_none
  | 17 => simp only [mstep]; split <;> first | exact lel_bind (fun _ => hN _ _ _ _) | exact lel_none
  | 18 => exact fun z hz => (leS_new (by omega)).trans (hN _ _ _ _ z hz)
  | 19 => simp only [mstep]; split <;> first | exact lel_bindS (fun _ => leS_na) (fun _ => hN _ _ _ _) | exact lel_none
  | 20 =>
    simp only [mstep]
    refine lel_cond ?_ lel_none
    split
    · exact lel_bindP (hC _ _ _) (fun _ => hN _ _ _ _)
    · exact lel_bind (fun _ => lel_bindP (hC _ _ _) (fun _ => hN _ _ _ _))
    · exact lel_none
  | 21 => simp only [mstep]; split <;> first | exact hR _ _ | exact lel_ite (hR _ _) lel_none | exact lel_none
  | 22 => simp only [mstep]; split <;> first | exact hN _ _ _ _ | exact lel_none
  | 23 => simp only [mstep]; split <;> first | exact lel_cond (lel_bindS (fun _ => leS_cpy) (fun _ => hN _ _ _ _)) lel_none | exact lel_none
  | 24 => simp only [mstep]; split <;> first | exact lel_cond (lel_bind (fun _ => hN _ _ _ _)) lel_none | exact lel_none
  | 25 => simp only [mstep]; split <;> first | exact lel_cond (lel_bind (fun _ => hN _ _ _ _)) lel_none | exact lel_none
  | 26 => simp only [mstep]; split <;> first | exact lel_cond (lel_bind (fun _ => hN _ _ _ _)) lel_none | exact lel_none
  | 27 => simp only [mstep]; split <;> first | exact lel_cond (lel_bindS (fun _ => leS_cln) (fun _ => hN _ _ _ _)) lel_none | exact lel_none
  | 28 => simp only [mstep]; split <;> first | exact lel_bind (fun _ => hN _ _ _ _) | exact lel_none
  | 29 => simp only [mstep]; split <;> first | exact lel_cond (hN _ _ _ _) lel_none | exact lel_none
  | n + 30 => exact lel_none
end Lel
theorem mgr_leS {P : mP} : ∀ (n d k i : Nat) (L st : List mV) (σ : mS) (r : Int × mS), mgr P n d k i L st σ = some r → leS σ r.2 := by
  intro n
  induction n with
  | zero => intro d k i L st σ r h; cases h
  | succ n ih =>
    intro d k i L st σ r h
    unfold mgr at h
    cases hmi : (P k).1[i]? with
    | none => rw [hmi] at h; cases h
    | some mi =>
      rw [hmi] at h
      refine mstep_lel (fin := fun p : Int × mS => p.2) ?_ ?_ ?_ mi i L st σ r h
      · intro k' as σ q hq
        cases d with
        | zero => cases hq
        | succ d =>
          cases hb : (mexp as).length.ble (P k').2 with
          | false => dsimp only at hq; rw [hb] at hq; cases hq
          | true => dsimp only at hq; rw [hb] at hq; exact ih d k' 0 _ [] σ q hq
      · intro i L st σ z hz
        exact ih d k i L st σ z hz
      · intro v σ z hz
        cases hz
        exact leS.rfl
def mRi : Nat → Instr
  | 0 => .return_
  | 1 => .ireturn
  | 4 => .ireturn
  | 2 => .lreturn
  | _ => .areturn
def mRv (ad : List Nat) (ro : Int → Nat) (t : Nat) (r : Int) : Option Value := match t with
  | 0 => none
  | 1 => some (.int (Int32.ofInt r))
  | 4 => some (.int (Int32.ofInt r))
  | 2 => some (.long (Int64.ofInt r))
  | _ => some (va_rf (encO ad ro r))
def okR (n : Int) (t : Nat) (r : Int) : Prop := match t with
  | 0 => True
  | 1 => rgI r
  | 4 => r = 0 ∨ r = 1
  | 2 => rgL r
  | _ => r ≤ n
abbrev wsk (k : Nat) : List Cond := Cond.code (mYn k) (mBy k) (mMx k) (mRt k) :: lw_g
def rmk (d : Nat) (σ σ' : mS) : Room := { frames := d + 8, cells := (σ'.2.2.1 - σ.2.2.1).toNat, slots := (σ'.2.2.2 - σ.2.2.2).toNat, locals := 64 * (d + 8) }
def Pck (D : va_G) (A : Nat → Prop) (ro : Int → Nat) (h0 : Int → Int → Int) (sh0 : Int → Int × Int) (ad : List Nat) (as : List mV) (σ : mS) : Array Value → State → Prop := fun v U => v = (as.map (encV ad ro)).toArray ∧ (∃ ws tys, mAd ws = ad ∧ mRel D A ro h0 sh0 σ ws tys U U.heap) ∧ mKW A ro h0 sh0 U ∧ ∀ q, U.heap.size ≤ q → A q
def Qck (D : va_G) (A : Nat → Prop) (ro : Int → Nat) (h0 : Int → Int → Int) (sh0 : Int → Int × Int) (ad : List Nat) (t : Nat) (r : Int) (σ' : mS) : Array Value → State → Outcome → State → Prop := fun _ st o u => (∃ ws tys, ad <+: mAd ws ∧ mRel D A ro h0 sh0 σ' ws tys u u.heap ∧ okR σ'.2.2.1 t r ∧ o = .returned (mRv (mAd ws) ro t r)) ∧ va_F A st u
theorem mRel.moved {D : va_G} {A : Nat → Prop} {ro : Int → Nat} {h0 : Int → Int → Int} {sh0 : Int → Int × Int} {σ : mS} {ws : va_W} {tys : List (ClassId × FieldType)} {u U : State} {H : Heap} (hvm : u.vm.Alike U.vm) (h : mRel D A ro h0 sh0 σ ws tys u H) : mRel D A ro h0 sh0 σ ws tys U H := ⟨h.1, h.2.1, h.2.2.1, h.2.2.2.1.moved hvm, h.2.2.2.2⟩
theorem Pck.blind {D : va_G} {A : Nat → Prop} {ro : Int → Nat} {h0 : Int → Int → Int} {sh0 : Int → Int × Int} {ad : List Nat} {as : List mV} {σ : mS} : FrameBlind (Pck D A ro h0 sh0 ad as σ) := by
  intro a U g mk ⟨h1, ⟨ws, tys, h2, h3⟩, h4, h5⟩
  exact ⟨h1, ⟨ws, tys, h2, mRel.moved (Vm.Alike.refl U.vm) h3⟩, h4.move (fun _ _ _ => rfl) (State.WarmedH.refl U), h5⟩
theorem good_g {ws : List Cond} (h : ∀ w ∈ ws, w ∈ lw_g) : GoodIn lw_g ws := fun w hw => ⟨h w hw, lw_g_good w (h w hw)⟩
section Call
variable {l : Launch} {D : va_G} {A : Nat → Prop} {ro : Int → Nat} {h0 : Int → Int → Int} {sh0 : Int → Int × Int} {p : Program} {e : Env} {R : Room} {s : State} {m : MethodId} {args : Array Value} {below : List Frame} {meth : Method} {c : Code} {Q : State → Prop} {n0 t0 : Int} {ad0 : List Nat} {k : Nat} {L st : List mV} {σ : mS} {pc : Nat}
theorem Pck.at {H : Heap} {locs : List Loc} {ls : Array Slot} {ws : va_W} {tys : List (ClassId × FieldType)} {st' as : List mV} (kw : mKW A ro h0 sh0 s) (hA : ∀ q, s.heap.size ≤ q → A q) (hB : mB D A ro h0 sh0 ad0 k s H locs ls L st' σ ws tys) (U : State) (hU : U.heap = H) (hW : s.WarmedH U.vm) : Pck D A ro h0 sh0 (mAd ws) as σ (as.map (encV (mAd ws) ro)).toArray U := by
  subst hU
  exact ⟨rfl, ⟨ws, tys, rfl, hB.1.moved hW.alike⟩, kw.move hB.2.1.2.1 hW, fun q hq => hA q (Nat.le_trans hB.2.1.1 hq)⟩
theorem wr_run {σ' : mS} {t a : Nat} {r : Int} {stk : List mV} {arr : va_W → Array Value} (hnx : σ.2.2.1 ≤ σ'.2.2.1) (htt : σ.2.2.2 ≤ σ'.2.2.2) (ht : t = 0 ∨ t = 1 ∨ t = 2 ∨ t = 3 ∨ t = 4)
    (hst : ∀ H locs ls ws tys, mB D A ro h0 sh0 ad0 k s H locs ls L stk σ ws tys → mB D A ro h0 sh0 ad0 k s H locs ls L st σ ws tys)
    (hrun : n0 ≤ σ.2.2.1 → t0 ≤ σ.2.2.2 → ∀ H locs ls ws tys, mB D A ro h0 sh0 ad0 k s H locs ls L stk σ ws tys → va_Run p l e R s m args below meth c H locs (σ.2.2.1 - n0).toNat (σ.2.2.2 - t0).toNat (σ'.2.2.1 - σ.2.2.1).toNat (σ'.2.2.2 - σ.2.2.2).toNat (F0 m pc ls (stk.map (encV (mAd ws) ro))) (st.map (encV (mAd ws) ro)) (Qck D A ro h0 sh0 (mAd ws) t r σ' (arr ws)) A)
    (hn : (mNp l D A ro h0 sh0 p e R s m args below meth c Q n0 t0 ad0 k (pc + 3) (L) (mpush (if t = 4 then 1 else t) r st) (σ'))) : (mNp l D A ro h0 sh0 p e R s m args below meth c Q n0 t0 ad0 k (pc) (L) (stk) (σ)) := by
  intro g1 g2 H locs ls ws tys hB T hT X
  obtain ⟨v, st₀, u, T', Lc, e0, X', hL, e1, e2, ⟨⟨ws', tys', hp, hR, hok, hv⟩, hz, hk⟩, stp⟩ := hrun g1 g2 H locs ls ws tys hB T hT X
  rw [e0] at hz hk
  have hB1 := hst H locs ls ws tys hB
  have hS' : va_S A s.heap T'.heap (locs ++ Lc) := ⟨Nat.le_trans hB1.2.1.1 (by rw [e1]; exact hz), fun q z1 z2 => by rw [e1, hk q (Nat.lt_of_lt_of_le z1 hB1.2.1.1) z2]; exact hB1.2.1.2.1 q z1 z2, fun q hq => by
      rcases List.mem_append.mp hq with h | h
      · exact hB1.2.1.2.2 q h
      · exact hL q h⟩
  have hal : s.vm.Alike u.vm := by rw [← e2]; exact X'.warmed.alike
  have hR' : mRel D A ro h0 sh0 σ' ws' tys' s T'.heap := by rw [e1]; exact hR.moved hal.symm
  obtain ⟨b1, b2⟩ := hB1.moved hp hnx hR' hS'
  have key : mB D A ro h0 sh0 ad0 k s T'.heap (locs ++ Lc) ls L (mpush (if t = 4 then 1 else t) r st) σ' ws' tys' ∧ (mpush (if t = 4 then 1 else t) r st).map (encV (mAd ws') ro) = v.toList ++ st.map (encV (mAd ws) ro) := by
    cases hv
    rcases ht with rfl | rfl | rfl | rfl | rfl
    · exact ⟨b1, b2⟩
    · exact ⟨b1.push hok, by show _ :: _ = _ :: _; rw [b2]; rfl⟩
    · exact ⟨b1.push hok, by show _ :: _ = _ :: _; rw [b2]; rfl⟩
    · exact ⟨b1.push hok, by show _ :: _ = _ :: _; rw [b2]; rfl⟩
    · refine ⟨b1.push ?_, by show _ :: _ = _ :: _; rw [b2]; rfl⟩
      have hok' : r = 0 ∨ r = 1 := hok
      show rgI r
      unfold rgI; omega
  have h5 := hn (by omega) (by omega) T'.heap (locs ++ Lc) ls ws' tys' key.1
  rw [key.2, show (σ'.2.2.1 - n0).toNat = (σ.2.2.1 - n0).toNat + (σ'.2.2.1 - σ.2.2.1).toNat from by omega, show (σ'.2.2.2 - t0).toNat = (σ.2.2.2 - t0).toNat + (σ'.2.2.2 - σ.2.2.2).toNat from by omega] at h5
  obtain ⟨t2, a1, c1⟩ := h5 T' rfl X'
  exact ⟨t2, stp t2 a1, c1⟩
end Call
