/-! stretches inside a loop: what the loop leaves alone stays as it was -/
def msuc (mi : mI) (i : Nat) : List Nat := match mi with
  | (7, _, b, _, _) => [i + 1, b]
  | (8, _, b, _, _) => [i + 1, b]
  | (9, _, b, _, _) => [b]
  | (10, _, b, _, _) => [i + 1, b]
  | (11, _, b, _, _) => [i + 1, b]
  | (12, _, b, _, t) => b :: t.map Prod.snd
  | (21, _, _, _, _) => []
  | _ => [i + 1]
def mmv (mi : mI) (L L' : List mV) : Prop := L' = L ∨ ∃ v : mV, L' = mset L mi.2.1 v ∧ ((mi.1 = 2 ∧ v.1 = mi.2.2.1) ∨ (mi.1 = 3 ∧ v.1 = 1))
theorem bind_eq {α β : Type} {x : Option α} {f g : α → Option β} (h : ∀ a, f a = g a) : x.bind f = x.bind g := by
  rw [show f = g from funext h]
theorem cond_eq {β : Type} {c : Bool} {x x' y : Option β} (h : x = x') : cond c x y = cond c x' y := by rw [h]
theorem mbin_eq {β : Type} {a : Nat} {x y : Int} {K K' : Int → Option β} (h : ∀ v, K v = K' v) : mbin a x y K = mbin a x y K' := by rw [show K = K' from funext h]
theorem mlbin_eq {β : Type} {a : Nat} {x y : Int} {K K' : Int → Option β} (h : ∀ v, K v = K' v) : mlbin a x y K = mlbin a x y K' := by rw [show K = K' from funext h]
theorem mif_eq {β : Type} {a : Nat} {x y : Int} {T F T' F' : Option β} (h : T = T') (h' : F = F') : mif a x y T F = mif a x y T' F' := by rw [h, h']
theorem msw_eq {β : Type} {N N' : Nat → Option β} {d : Nat} {x : Int} : ∀ t : List (Int × Nat), (∀ j ∈ d :: t.map Prod.snd, N j = N' j) → msw N d x t = msw N' d x t
  | [], h => h d (List.mem_cons_self ..)
  | (v, j) :: r, h => by
    unfold msw
    rw [h j (List.mem_cons_of_mem _ (List.mem_cons_self ..)), msw_eq r (fun j hj => h j (by
      rcases List.mem_cons.mp hj with e | e
      · rw [e]; exact List.mem_cons_self ..
      · exact List.mem_cons_of_mem _ (List.mem_cons_of_mem _ e)))]
section
variable {β : Type} {C : Nat → List mV → mS → Option (Int × mS)} {N N' : Nat → List mV → List mV → mS → Option β} {R : Int → mS → Option β}
set_option maxHeartbeats 4000000 in
theorem mstep_ext (mi : mI) (i : Nat) (L st : List mV) (σ : mS) (h : ∀ j ∈ msuc mi i, ∀ L' st' σ', mmv mi L L' → N j L' st' σ' = N' j L' st' σ') : mstep C N R mi i L st σ = mstep C N' R mi i L st σ := by
  obtain ⟨op, a, b, c, t⟩ := mi
  match op with
  | 0 => exact h (i + 1) (List.mem_cons_self ..) L _ _ (Or.inl rfl)
  | 1 =>
    have q := fun st' σ' => h (i + 1) (List.mem_cons_self ..) L st' σ' (Or.inl rfl)
    simp only [mstep]
    split
    · exact cond_eq (q _ _)
    · rfl
  | 2 =>
    simp only [mstep]
    split
    · exact cond_eq (h (i + 1) (List.mem_cons_self ..) _ _ _ (Or.inr ⟨_, rfl, Or.inl ⟨rfl, rfl⟩⟩))
    · rfl
  | 3 =>
    simp only [mstep]
    split
    · exact h (i + 1) (List.mem_cons_self ..) _ _ _ (Or.inr ⟨_, rfl, Or.inr ⟨rfl, rfl⟩⟩)
    · rfl
  | 4 => have q := fun st' σ' => h (i + 1) (List.mem_cons_self ..) L st' σ' (Or.inl rfl); simp only [mstep]; split <;> first | exact mbin_eq (fun _ => q _ _) | rfl
  | 5 => have q := fun st' σ' => h (i + 1) (List.mem_cons_self ..) L st' σ' (Or.inl rfl); simp only [mstep]; split <;> first | exact mlbin_eq (fun _ => q _ _) | rfl
  | 6 => have q := fun st' σ' => h (i + 1) (List.mem_cons_self ..) L st' σ' (Or.inl rfl); simp only [mstep]; split <;> first | exact q _ _ | rfl
  | 7 =>
    have q := fun st' σ' => h (i + 1) (List.mem_cons_self ..) L st' σ' (Or.inl rfl)
    have q' := fun st' σ' => h b (List.mem_cons_of_mem _ (List.mem_cons_self ..)) L st' σ' (Or.inl rfl)
    simp only [mstep]; split <;> first | exact mif_eq (q' _ _) (q _ _) | rfl
  | 8 =>
    have q := fun st' σ' => h (i + 1) (List.mem_cons_self ..) L st' σ' (Or.inl rfl)
    have q' := fun st' σ' => h b (List.mem_cons_of_mem _ (List.mem_cons_self ..)) L st' σ' (Or.inl rfl)
    simp only [mstep]; split <;> first | exact mif_eq (q' _ _) (q _ _) | rfl
  | 9 => exact h b (List.mem_cons_self ..) L _ _ (Or.inl rfl)
  | 10 =>
    have q := fun st' σ' => h (i + 1) (List.mem_cons_self ..) L st' σ' (Or.inl rfl)
    have q' := fun st' σ' => h b (List.mem_cons_of_mem _ (List.mem_cons_self ..)) L st' σ' (Or.inl rfl)
    simp only [mstep]; split <;> first | exact mif_eq (q' _ _) (q _ _) | rfl
  | 11 =>
    have q := fun st' σ' => h (i + 1) (List.mem_cons_self ..) L st' σ' (Or.inl rfl)
    have q' := fun st' σ' => h b (List.mem_cons_of_mem _ (List.mem_cons_self ..)) L st' σ' (Or.inl rfl)
    simp only [mstep]; split <;> first | exact bind_eq (fun _ => mif_eq (q' _ _) (q _ _)) | rfl
  | 12 =>
    simp only [mstep]; split <;> first | exact msw_eq _ (fun j hj => h j hj L _ _ (Or.inl rfl)) | rfl
  | 13 => have q := fun st' σ' => h (i + 1) (List.mem_cons_self ..) L st' σ' (Or.inl rfl); simp only [mstep]; split <;> first | exact bind_eq (fun _ => q _ _) | rfl
  | 14 => have q := fun st' σ' => h (i + 1) (List.mem_cons_self ..) L st' σ' (Or.inl rfl); simp only [mstep]; split <;> first | exact bind_eq (fun _ => q _ _) | rfl
  | 15 => have q := fun st' σ' => h (i + 1) (List.mem_cons_self ..) L st' σ' (Or.inl rfl); simp only [mstep]; split <;> first | exact bind_eq (fun _ => q _ _) | rfl
  | 16 => have q := fun st' σ' => h (i + 1) (List.mem_cons_self ..) L st' σ' (Or.inl rfl); simp only [mstep]; split <;> first | exact bind_eq (fun _ => q _ _) | rfl
  | 17 => have q := fun st' σ' => h (i + 1) (List.mem_cons_self ..) L st' σ' (Or.inl rfl); simp only [mstep]; split <;> first | exact bind_eq (fun _ => q _ _) | rfl
  | 18 => exact h (i + 1) (List.mem_cons_self ..) L _ _ (Or.inl rfl)
  | 19 => have q := fun st' σ' => h (i + 1) (List.mem_cons_self ..) L st' σ' (Or.inl rfl); simp only [mstep]; split <;> first | exact bind_eq (fun _ => q _ _) | rfl
  | 20 =>
    have q := fun st' σ' => h (i + 1) (List.mem_cons_self ..) L st' σ' (Or.inl rfl)
    simp only [mstep]
    refine cond_eq ?_
    split
    · exact bind_eq (fun _ => q _ _)
    · exact bind_eq (fun _ => bind_eq (fun _ => q _ _))
    · rfl
  | 21 => simp only [mstep]
  | 22 => have q := fun st' σ' => h (i + 1) (List.mem_cons_self ..) L st' σ' (Or.inl rfl); simp only [mstep]; split <;> first | exact q _ _ | rfl
  | 23 => have q := fun st' σ' => h (i + 1) (List.mem_cons_self ..) L st' σ' (Or.inl rfl); simp only [mstep]; split <;> first | exact cond_eq (bind_eq (fun _ => q _ _)) | rfl
  | 24 => have q := fun st' σ' => h (i + 1) (List.mem_cons_self ..) L st' σ' (Or.inl rfl); simp only [mstep]; split <;> first | exact cond_eq (bind_eq (fun _ => q _ _)) | rfl
  | 25 => have q := fun st' σ' => h (i + 1) (List.mem_cons_self ..) L st' σ' (Or.inl rfl); simp only [mstep]; split <;> first | exact cond_eq (bind_eq (fun _ => q _ _)) | rfl
  | 26 => have q := fun st' σ' => h (i + 1) (List.mem_cons_self ..) L st' σ' (Or.inl rfl); simp only [mstep]; split <;> first | exact cond_eq (bind_eq (fun _ => q _ _)) | rfl
  | 27 => have q := fun st' σ' => h (i + 1) (List.mem_cons_self ..) L st' σ' (Or.inl rfl); simp only [mstep]; split <;> first | exact cond_eq (bind_eq (fun _ => q _ _)) | rfl
  | 28 => have q := fun st' σ' => h (i + 1) (List.mem_cons_self ..) L st' σ' (Or.inl rfl); simp only [mstep]; split <;> first | exact bind_eq (fun _ => q _ _) | rfl
  | 29 => have q := fun st' σ' => h (i + 1) (List.mem_cons_self ..) L st' σ' (Or.inl rfl); simp only [mstep]; split <;> first | exact cond_eq (q _ _) | rfl
  | n + 30 => rfl
end
theorem mset_ne {L : List mV} {a q : Nat} {v : mV} (h1 : q ≠ a) (h2 : v.1 = 2 → q ≠ a + 1) (h3 : ∀ x, L[q]? ≠ some (2, x)) : (mset L a v)[q]? = L[q]? := by
  unfold mset
  cases a with
  | zero =>
    dsimp only
    cases hb : v.1.beq 2 with
    | true =>
      have := h2 (Nat.eq_of_beq_eq_true hb)
      rw [cond_true, List.getElem?_set_ne (by omega), List.getElem?_set_ne (by omega)]
    | false => rw [cond_false, List.getElem?_set_ne (by omega)]
  | succ b =>
    dsimp only
    split
    · rename_i x hx
      have hb' : q ≠ b := fun e => h3 x (e ▸ hx)
      cases hb : v.1.beq 2 with
      | true =>
        have := h2 (Nat.eq_of_beq_eq_true hb)
        rw [cond_true, List.getElem?_set_ne (by omega), List.getElem?_set_ne (by omega), List.getElem?_set_ne (by omega)]
      | false => rw [cond_false, List.getElem?_set_ne (by omega), List.getElem?_set_ne (by omega)]
    · cases hb : v.1.beq 2 with
      | true =>
        have := h2 (Nat.eq_of_beq_eq_true hb)
        rw [cond_true, List.getElem?_set_ne (by omega), List.getElem?_set_ne (by omega)]
      | false => rw [cond_false, List.getElem?_set_ne (by omega)]
/-- does i lie in one of the stretches? -/
def mIn (l : List (Nat × Nat)) (i : Nat) : Bool := l.any (fun p => p.1.ble i && i.ble p.2)
/-- the locals Q are as in L0 -/
def mQ (L0 L : List mV) : List Nat → Prop
  | [] => True
  | q :: Q => L[q]? = L0[q]? ∧ mQ L0 L Q
/-- at the instruction i: the locals of each loop that i lies in -/
def mJ (L0 : List mV) (i : Nat) (L : List mV) : List (List (Nat × Nat) × List Nat) → Prop
  | [] => True
  | p :: r => (mIn p.1 i = true → mQ L0 L p.2) ∧ mJ L0 i L r
def mkeep (mi : mI) (Q : List Nat) : Bool := !(mi.1.beq 2 || mi.1.beq 3) || Q.all (fun q => !(q.beq mi.2.1) && !(mi.1.beq 2 && mi.2.2.1.beq 2 && q.beq (mi.2.1 + 1)))
def mnl (L0 : List mV) : List Nat → Bool
  | [] => true
  | q :: Q => (match L0[q]? with | some (2, _) => false | _ => true) && mnl L0 Q
def mnlL (L0 : List mV) : List (List (Nat × Nat) × List Nat) → Bool
  | [] => true
  | p :: r => mnl L0 p.2 && mnlL L0 r
def mfx (Lv : List (List (Nat × Nat) × List Nat)) (X : List (Nat × Nat)) (cut : Nat → Bool) (i : Nat) (mi : mI) : Bool := !(mIn X i) || (msuc mi i).all (fun j => (cut j || mIn X j) && Lv.all (fun p => !(mIn p.1 j) || (mIn p.1 i && mkeep mi p.2)))
def mfxL (Lv : List (List (Nat × Nat) × List Nat)) (X : List (Nat × Nat)) (cut : Nat → Bool) : Nat → List mI → Bool
  | _, [] => true
  | i, mi :: r => mfx Lv X cut i mi && mfxL Lv X cut (i + 1) r
theorem mfxL_at {Lv : List (List (Nat × Nat) × List Nat)} {X : List (Nat × Nat)} {cut : Nat → Bool} : ∀ (cd : List mI) (o i : Nat) (mi : mI), mfxL Lv X cut o cd = true → cd[i]? = some mi → mfx Lv X cut (o + i) mi = true
  | [], _, _, _, _, h => by cases h
  | x :: r, o, 0, mi, hc, h => by
    cases h
    exact (Bool.and_eq_true_iff.mp hc).1
  | x :: r, o, i + 1, mi, hc, h => by
    have := mfxL_at r (o + 1) i mi (Bool.and_eq_true_iff.mp hc).2 h
    rwa [show o + 1 + i = o + (i + 1) by omega] at this
theorem mQ_self (L : List mV) : ∀ Q, mQ L L Q
  | [] => trivial
  | _ :: Q => ⟨rfl, mQ_self L Q⟩
theorem mJ_self (L : List mV) (i : Nat) : ∀ Lv, mJ L i L Lv
  | [] => trivial
  | p :: r => ⟨fun _ => mQ_self L p.2, mJ_self L i r⟩
theorem mQ_set {L0 L : List mV} {a : Nat} {v : mV} : ∀ Q : List Nat, mnl L0 Q = true → Q.all (fun q => !(q.beq a) && !(v.1.beq 2 && q.beq (a + 1))) = true → mQ L0 L Q → mQ L0 (mset L a v) Q
  | [], _, _, _ => trivial
  | q :: Q, hn, hq, h => by
    obtain ⟨n1, n2⟩ := Bool.and_eq_true_iff.mp hn
    rw [List.all_cons] at hq
    obtain ⟨q1, q2⟩ := Bool.and_eq_true_iff.mp hq
    refine ⟨?_, mQ_set Q n2 q2 h.2⟩
    have hl := h.1
    obtain ⟨q3, q4⟩ := Bool.and_eq_true_iff.mp q1
    rw [mset_ne ?_ ?_ ?_]
    · exact hl
    · intro e
      subst e
      rw [show q.beq q = true from Nat.beq_refl q] at q3
      cases q3
    · intro hv e
      subst e
      rw [hv, show (a + 1).beq (a + 1) = true from Nat.beq_refl _] at q4
      cases q4
    · intro x hx
      rw [← hl, hx] at n1
      cases n1
theorem mJ_step {L0 L L' : List mV} {mi : mI} {i j : Nat} (hm : mmv mi L L') : ∀ Lv : List (List (Nat × Nat) × List Nat), mnlL L0 Lv = true → Lv.all (fun p => !(mIn p.1 j) || (mIn p.1 i && mkeep mi p.2)) = true → mJ L0 i L Lv → mJ L0 j L' Lv
  | [], _, _, _ => trivial
  | p :: r, hn, hq, h => by
    obtain ⟨n1, n2⟩ := Bool.and_eq_true_iff.mp hn
    rw [List.all_cons] at hq
    obtain ⟨q1, q2⟩ := Bool.and_eq_true_iff.mp hq
    refine ⟨fun hj => ?_, mJ_step hm r n2 q2 h.2⟩
    rw [hj] at q1
    obtain ⟨q3, q4⟩ := Bool.and_eq_true_iff.mp q1
    have hQ := h.1 q3
    rcases hm with e | ⟨v, e, hv⟩
    · rw [e]; exact hQ
    · rw [e]
      refine mQ_set p.2 n1 ?_ hQ
      unfold mkeep at q4
      rcases hv with ⟨e1, e2⟩ | ⟨e1, e2⟩
      · rw [e1, show Nat.beq 2 2 = true from rfl] at q4
        rw [e2]
        simpa using q4
      · rw [e1, show Nat.beq 3 2 = false from rfl, show Nat.beq 3 3 = true from rfl] at q4
        rw [e2, show Nat.beq 1 2 = false from rfl]
        simpa using q4
noncomputable def mgd2 {β : Type} (P : Prop) (x : Option β) : Option β := @ite _ P (Classical.propDecidable P) x none
theorem mgd2_pos {β : Type} {P : Prop} {x : Option β} (h : P) : mgd2 P x = x := @if_pos _ (Classical.propDecidable P) h _ _ _
theorem mgd2_neg {β : Type} {P : Prop} {x : Option β} (h : ¬ P) : mgd2 P x = none := @if_neg _ (Classical.propDecidable P) h _ _ _
theorem mblk_ok2 {β : Type} {k d nl : Nat} {cd : List mI} (hP : mProg k = (cd, nl)) {cut : Nat → Bool} {C : Nat → List mV → mS → Option (Int × mS)} {F : Nat → List mV → List mV → mS → Option β} {R : Int → mS → Option β} (K : β → Int × mS → Prop) (Lv : List (List (Nat × Nat) × List Nat)) (X : List (Nat × Nat)) (L0 : List mV)
    (hx : mfxL Lv X cut 0 cd = true) (hnl : mnlL L0 Lv = true)
    (hC : ∀ k' as σ p, C k' as σ = some p → mEx d k' as σ p) (hF : ∀ i L st σ b r, mJ L0 i L Lv → F i L st σ = some b → K b r → mG (d + 1) k i L st σ r) (hR : ∀ v σ b r, R v σ = some b → K b r → r = (v, σ)) :
    ∀ (n i : Nat) (L st : List mV) (σ : mS) (b : β) (r : Int × mS), mIn X i = true → mJ L0 i L Lv → mblk cd cut C F R n i L st σ = some b → K b r → mG (d + 1) k i L st σ r := by
  intro n
  induction n with
  | zero => intro i L st σ b r _ _ h; cases h
  | succ n ih =>
    intro i L st σ b r hXi hJ h hK
    unfold mblk at h
    cases hmi : cd[i]? with
    | none => rw [hmi] at h; cases h
    | some mi =>
      rw [hmi] at h
      dsimp only at h
      have hc := mfxL_at cd 0 i mi hx hmi
      rw [Nat.zero_add] at hc
      unfold mfx at hc
      rw [hXi] at hc
      rw [Bool.not_true, Bool.false_or] at hc
      have hc' : (msuc mi i).all (fun j => (cut j || mIn X j) && Lv.all (fun p => !(mIn p.1 j) || (mIn p.1 i && mkeep mi p.2))) = true := hc
      rw [mstep_ext (N' := fun j L' st σ => mgd2 (mJ L0 j L' Lv ∧ (cut j || mIn X j) = true) (cond (cut j) (F j L' st σ) (mblk cd cut C F R n j L' st σ))) mi i L st σ (fun j hj L' st' σ' hm => by
        have hcj := List.all_eq_true.mp hc' j hj
        obtain ⟨c1, c2⟩ := Bool.and_eq_true_iff.mp hcj
        exact (mgd2_pos ⟨mJ_step hm Lv hnl c2 hJ, c1⟩).symm)] at h
      obtain ⟨n', hn'⟩ := mstep_ele (K := fun b => K b r) (r := r) (C' := fun n k' as σ => cond ((mexp as).length.ble (mProg k').2) (mgr mProg n d k' 0 (mInit (mProg k').2 as) [] σ) none) (N' := fun n i L st σ => mgr mProg n (d + 1) k i L st σ) (R' := fun v σ => some (v, σ)) (fun k' as σ p hp => by
          obtain ⟨e1, n1, e2⟩ := hC k' as σ p hp
          exact ⟨n1, by rw [Nat.ble_eq_true_of_le e1]; exact e2⟩) (fun i L st σ => by
          intro b hb hk
          rcases Classical.em (mJ L0 i L Lv ∧ (cut i || mIn X i) = true) with hif | hif
          · rw [mgd2_pos hif] at hb
            cases hcu : cut i with
            | true => rw [hcu] at hb; exact hF i L st σ b r hif.1 hb hk
            | false =>
              rw [hcu] at hb
              have hx2 := hif.2
              rw [hcu, Bool.false_or] at hx2
              exact ih i L st σ b r hx2 hif.1 hb hk
          · rw [mgd2_neg hif] at hb; cases hb)
        (fun v σ => by
          intro b hb hk
          exact ⟨0, by rw [hR v σ b r hb hk]⟩)
        (fun k' as σ n n' hn => ole_cond (mgr_sim mProg_good n n' d d k' 0 _ _ [] σ hn (Nat.le_refl _) lle.rfl) ole_none) (fun i L st σ n n' hn => mgr_sim mProg_good n n' _ _ k i L L st σ hn (Nat.le_refl _) lle.rfl) mi i L st σ b h hK
      refine ⟨n' + 1, ?_⟩
      unfold mgr
      rw [hP]
      dsimp only
      rw [hmi]
      exact hn'
theorem mblk_ok1 {β : Type} {k d nl : Nat} {cd : List mI} (hP : mProg k = (cd, nl)) {cut : Nat → Bool} {C : Nat → List mV → mS → Option (Int × mS)} {F : Nat → List mV → List mV → mS → Option β} {R : Int → mS → Option β} (K : β → Int × mS → Prop)
    (hC : ∀ k' as σ p, C k' as σ = some p → mEx d k' as σ p) (hF : ∀ i L st σ b r, F i L st σ = some b → K b r → mG (d + 1) k i L st σ r) (hR : ∀ v σ b r, R v σ = some b → K b r → r = (v, σ))
    (n i : Nat) (L st : List mV) (σ : mS) (b : β) (r : Int × mS) (h : mblk cd cut C F R n i L st σ = some b) (hk : K b r) : mG (d + 1) k i L st σ r :=
  mblk_ok K hC hF hR n i L st σ b r (by rw [hP]; exact h) hk
theorem lle_nil : lle [] [] := lle.rfl
theorem lle_cons {a : mV} {L L' : List mV} (h : lle L L') : lle (a :: L) (a :: L') := by
  refine ⟨by rw [List.length_cons, List.length_cons, h.1], fun i v hv h0 => ?_⟩
  cases i with
  | zero => exact hv
  | succ i => exact h.2 i v hv h0
theorem lle_dead {a : mV} {L L' : List mV} (h : lle L L') : lle ((0, 0) :: L) (a :: L') := by
  refine ⟨by rw [List.length_cons, List.length_cons, h.1], fun i v hv h0 => ?_⟩
  cases i with
  | zero => cases hv; exact absurd rfl h0
  | succ i => exact h.2 i v hv h0
theorem mEx.up {d d' k : Nat} {as : List mV} {σ : mS} {r : Int × mS} (h : mEx d k as σ r) (hd : d ≤ d') : mEx d' k as σ r := ⟨h.1, h.2.up hd⟩
