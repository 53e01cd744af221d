/-! CONSTRUCTORS: the number of cells made, the contents as a list of what was put -/
def zlk : List (Int × Int × Int) → Int → Int → Int
  | [], _, _ => 0
  | e :: V, r, i => if r = e.1 ∧ (i = e.2.1 ∧ 0 ≤ i ∨ e.2.1 = -1 ∧ 0 ≤ i ∧ i < 64) then e.2.2 else zlk V r i
def zRp (σ0 : mS) (X : Int → Int → Int) (n : Nat) (V : List (Int × Int × Int)) (s : Int) (σ : mS) : Prop :=
  σ.2.2.1 = (n : Int) ∧ σ.2.2.2 = s ∧ (∀ r, r ≤ 0 → σ.1 r = σ0.1 r ∧ σ.2.1 r = σ0.2.1 r) ∧ (∀ m : Nat, m < n → σ.2.1 ((m : Int) + 1) = zshl.getD m (0, 0)) ∧ (∀ r i, 1 ≤ r → r ≤ (n : Int) → σ.1 r i = zlk V r i + X r i) ∧ (∀ e ∈ V, e.1 ≤ (n : Int)) ∧ (∀ r i, r < 55 ∨ 57 < r ∨ (n : Int) < r → X r i = 0)
theorem zlk_no {n r i : Int} : ∀ {V : List (Int × Int × Int)}, (∀ e ∈ V, e.1 ≤ n) → n < r → zlk V r i = 0
  | [], _, _ => rfl
  | e :: V, h, hr => by
    have h1 : e.1 ≤ n := h e List.mem_cons_self
    show (if r = e.1 ∧ _ then e.2.2 else zlk V r i) = 0
    rw [if_neg (fun c => by have := c.1; omega)]
    exact zlk_no (fun e he => h e (List.mem_cons_of_mem _ he)) hr
theorem rp_new {σ0 σ : mS} {X : Int → Int → Int} {n : Nat} {V : List (Int × Int × Int)} {s k len : Int} (h : zRp σ0 X n V s σ) (hk : zshl.getD n (0, 0) = (k, len)) : zRp σ0 X (n + 1) V (s + len) (mnew k len σ) := by
  obtain ⟨h1, h2, h3, h4, h5, h6, h7⟩ := h
  have c1 : ((n + 1 : Nat) : Int) = (n : Int) + 1 := by omega
  refine ⟨by rw [mnew_c, h1, c1], by rw [mnew_s, h2], fun r hr => ⟨?_, ?_⟩, fun m hm => ?_, fun r i r0 r1 => ?_, fun e he => ?_, fun r i hr => h7 r i (by omega)⟩
  · rw [mnew_hf (by omega)]; exact (h3 r hr).1
  · rw [mnew_kn (by omega)]; exact (h3 r hr).2
  · by_cases c : m = n
    · subst c
      rw [hk]
      have := mnew_ke (k := k) (n := len) (σ := σ)
      rw [h1] at this
      exact this
    · rw [mnew_kn (by omega)]; exact h4 m (by omega)
  · by_cases c : r = (n : Int) + 1
    · rw [c]
      have := mnew_he (k := k) (n := len) (σ := σ) (i := i)
      rw [h1] at this
      rw [this, zlk_no h6 (by omega), h7 _ _ (by omega)]
      rfl
    · rw [mnew_hn (by omega)]; exact h5 r i r0 (by omega)
  · have := h6 e he; omega
theorem rp_put {σ0 σ : mS} {X : Int → Int → Int} {n : Nat} {V : List (Int × Int × Int)} {s b i v : Int} (h : zRp σ0 X n V s σ) (b0 : 0 < b) (b1 : b ≤ (n : Int)) (b2 : b < 55 ∨ 57 < b) (i0 : 0 ≤ i) : zRp σ0 X n ((b, i, v) :: V) s (mup σ.1 b i v, σ.2) := by
  obtain ⟨h1, h2, h3, h4, h5, h6, h7⟩ := h
  refine ⟨h1, h2, fun r hr => ⟨?_, (h3 r hr).2⟩, h4, fun r j r0 r1 => ?_, fun e he => ?_, h7⟩
  · funext j
    show mup σ.1 b i v r j = _
    rw [mup_cell (by omega), (h3 r hr).1]
  · show mup σ.1 b i v r j = (if r = b ∧ (j = i ∧ 0 ≤ j ∨ i = -1 ∧ 0 ≤ j ∧ j < 64) then v else zlk V r j) + X r j
    by_cases c : r = b
    · subst c
      rw [mup_if]
      by_cases d : j = i
      · rw [if_pos d, if_pos ⟨rfl, Or.inl ⟨d, by omega⟩⟩, h7 r j (by omega)]; omega
      · rw [if_neg d, if_neg (by omega)]; exact h5 r j r0 r1
    · rw [mup_cell c, if_neg (fun q => c q.1)]; exact h5 r j r0 r1
  · rcases List.mem_cons.mp he with e1 | e1
    · subst e1; exact b1
    · exact h6 e e1
theorem rp_k {σ0 σ : mS} {X : Int → Int → Int} {n : Nat} {V : List (Int × Int × Int)} {s b : Int} (h : zRp σ0 X n V s σ) (b0 : 0 < b) (b1 : b ≤ (n : Int)) : σ.2.1 b = zshl.getD (b - 1).toNat (0, 0) := by
  have := h.2.2.2.1 (b - 1).toNat (by omega)
  rw [← this]
  exact congrArg _ (by omega)
def zck (n : Nat) (b a : Int) : Bool := decide (0 < b ∧ b ≤ (n : Int) ∧ (zshl.getD (b - 1).toNat (0, 0)).1 = a)
theorem rp_ck {σ0 σ : mS} {X : Int → Int → Int} {n : Nat} {V : List (Int × Int × Int)} {s b a : Int} (h : zRp σ0 X n V s σ) (c : zck n b a = true) : (σ.2.1 b).1 = a ∧ 0 < b ∧ b ≤ (n : Int) := by
  obtain ⟨c1, c2, c3⟩ := of_decide_eq_true c
  exact ⟨by rw [rp_k h c1 c2]; exact c3, c1, c2⟩
theorem t_gk {β : Type} {σ0 σ : mS} {X : Int → Int → Int} {n : Nat} {V : List (Int × Int × Int)} {s b a : Int} {f : Unit → Option β} {Q : β → Prop} (h : zRp σ0 X n V s σ) (c : zck n b a = true) (hc : wpo (f ()) Q) : wpo ((gk a b σ).bind f) Q := by
  have e : gk a b σ = some () := by unfold gk; rw [if_pos (rp_ck h c).1]
  rw [e]; exact hc
theorem t_new {β : Type} {σ0 σ : mS} {X : Int → Int → Int} {n : Nat} {V : List (Int × Int × Int)} {s s' k len m : Int} {F : Int → mS → Option β} {Q : β → Prop} (n' : Nat) (h : zRp σ0 X n V s σ) (hn : n + 1 = n') (hk : zshl.getD n (0, 0) = (k, len)) (hm : (n' : Int) = m) (hs : s + len = s') (hc : ∀ σ', zRp σ0 X n' V s' σ' → wpo (F m σ') Q) : wpo (mlet (σ.2.2.1 + 1) fun v => mlet (mnew k len σ) fun s => F v s) Q := by
  subst hn hs
  show wpo (F (σ.2.2.1 + 1) (mnew k len σ)) Q
  have e : σ.2.2.1 + 1 = m := by rw [h.1, ← hm]; omega
  rw [e]
  exact hc _ (rp_new h hk)
theorem t_na {β : Type} {σ0 σ : mS} {X : Int → Int → Int} {n : Nat} {V : List (Int × Int × Int)} {s s' k len m : Int} {F : Int → mS → Option β} {Q : β → Prop} (n' : Nat) (h : zRp σ0 X n V s σ) (hn : n + 1 = n') (hk : zshl.getD n (0, 0) = (k, len)) (hl : 0 ≤ len ∧ len ≤ 1000000) (hm : (n' : Int) = m) (hs : s + len = s') (hc : ∀ σ', zRp σ0 X n' V s' σ' → wpo (F m σ') Q) : wpo ((na k len σ).bind fun s => mlet s.2.2.1 fun v => F v s) Q := by
  subst hn hs
  have e1 : na k len σ = some (mnew k len σ) := by unfold na; rw [if_pos hl]
  rw [e1]
  show wpo (F (σ.2.2.1 + 1) (mnew k len σ)) Q
  have e : σ.2.2.1 + 1 = m := by rw [h.1, ← hm]; omega
  rw [e]
  exact hc _ (rp_new h hk)
def zcp (n : Nat) (b i a : Int) : Bool := decide (0 < b ∧ b ≤ (n : Int) ∧ (b < 55 ∨ 57 < b) ∧ 0 ≤ i ∧ (zshl.getD (b - 1).toNat (0, 0)).1 = a)
theorem t_pf {β : Type} {σ0 σ : mS} {X : Int → Int → Int} {n : Nat} {V : List (Int × Int × Int)} {s a i b v : Int} {f : mS → Option β} {Q : β → Prop} (V' : List (Int × Int × Int)) (h : zRp σ0 X n V s σ) (c : zcp n b i a = true) (hV : (b, i, v) :: V = V') (hc : ∀ σ', zRp σ0 X n V' s σ' → wpo (f σ') Q) : wpo ((pf a i b v σ).bind f) Q := by
  subst hV
  obtain ⟨c1, c2, c3, c4, c5⟩ := of_decide_eq_true c
  have e : pf a i b v σ = some (mup σ.1 b i v, σ.2) := by unfold pf; rw [if_pos ⟨by rw [rp_k h c1 c2]; exact c5, c1⟩]
  rw [e]
  exact hc _ (rp_put h c1 c2 c3 c4)
theorem rp_v {σ0 σ : mS} {X : Int → Int → Int} {n : Nat} {V : List (Int × Int × Int)} {s b i : Int} (h : zRp σ0 X n V s σ) (b0 : 0 < b) (b1 : b ≤ (n : Int)) (b2 : b < 55 ∨ 57 < b) : σ.1 b i = zlk V b i := by
  rw [h.2.2.2.2.1 b i (by omega) b1, h.2.2.2.2.2.2 b i (by omega)]; omega
def zcg (n : Nat) (V : List (Int × Int × Int)) (b i a v : Int) : Bool := decide (0 < b ∧ b ≤ (n : Int) ∧ (b < 55 ∨ 57 < b) ∧ (zshl.getD (b - 1).toNat (0, 0)).1 = a ∧ zlk V b i = v)
theorem t_gf {β : Type} {σ0 σ : mS} {X : Int → Int → Int} {n : Nat} {V : List (Int × Int × Int)} {s a i b : Int} {f : Int → Option β} {Q : β → Prop} (v : Int) (h : zRp σ0 X n V s σ) (c : zcg n V b i a v = true) (hc : wpo (f v) Q) : wpo ((gf a i b σ).bind f) Q := by
  obtain ⟨c1, c2, c3, c5, c6⟩ := of_decide_eq_true c
  have e : gf a i b σ = some v := by unfold gf; rw [if_pos (by rw [rp_k h c1 c2]; exact c5), rp_v h c1 c2 c3, c6]
  rw [e]; exact hc
def zcs (n : Nat) (b i a : Int) : Bool := decide (0 < b ∧ b ≤ (n : Int) ∧ (b < 55 ∨ 57 < b) ∧ 0 ≤ i ∧ i < (zshl.getD (b - 1).toNat (0, 0)).2 ∧ (zshl.getD (b - 1).toNat (0, 0)).1 = a)
theorem t_sd {β : Type} {σ0 σ : mS} {X : Int → Int → Int} {n : Nat} {V : List (Int × Int × Int)} {s a i b v : Int} {f : mS → Option β} {Q : β → Prop} (V' : List (Int × Int × Int)) (h : zRp σ0 X n V s σ) (c : zcs n b i a = true) (hv : mnar a v = v) (hV : (b, i, v) :: V = V') (hc : ∀ σ', zRp σ0 X n V' s σ' → wpo (f σ') Q) : wpo ((sd a b i v σ).bind f) Q := by
  subst hV
  obtain ⟨c1, c2, c3, c4, c5, c6⟩ := of_decide_eq_true c
  have e : sd a b i v σ = some (mup σ.1 b i v, σ.2) := by
    unfold sd
    rw [rp_k h c1 c2, if_pos ⟨c6, c1, c4, c5⟩, hv]
  rw [e]
  exact hc _ (rp_put h c1 c2 c3 c4)
theorem t_sr {β : Type} {σ0 σ : mS} {X : Int → Int → Int} {n : Nat} {V : List (Int × Int × Int)} {s a i b v : Int} {f : mS → Option β} {Q : β → Prop} (V' : List (Int × Int × Int)) (h : zRp σ0 X n V s σ) (c : zcs n b i (200 + a) = true) (cv : zck n v a = true) (hV : (b, i, v) :: V = V') (hc : ∀ σ', zRp σ0 X n V' s σ' → wpo (f σ') Q) : wpo ((sr a b i v σ).bind f) Q := by
  subst hV
  obtain ⟨c1, c2, c3, c4, c5, c6⟩ := of_decide_eq_true c
  have e : sr a b i v σ = some (mup σ.1 b i v, σ.2) := by
    unfold sr
    rw [rp_k h c1 c2, if_pos ⟨c6, c1, c4, c5, Or.inr ⟨(rp_ck h cv).2.1, (rp_ck h cv).1⟩⟩]
  rw [e]
  exact hc _ (rp_put h c1 c2 c3 c4)
theorem t_call {α β : Type} {x : Option α} {f : α → Option β} {P : α → Prop} {Q : β → Prop} (h : wpo x P) (hc : ∀ p, P p → wpo (f p) Q) : wpo (x.bind f) Q := wpo_bind.mpr (wpo_mono h hc)
def zcf (n : Nat) (b : Int) : Bool := decide (0 < b ∧ b ≤ (n : Int) ∧ (b < 55 ∨ 57 < b) ∧ zshl.getD (b - 1).toNat (0, 0) = (100, 64))
theorem t_fill {β : Type} {σ0 σ : mS} {X : Int → Int → Int} {n : Nat} {V : List (Int × Int × Int)} {s b v : Int} {f : Int × mS → Option β} {Q : β → Prop} (V' : List (Int × Int × Int)) (h : zRp σ0 X n V s σ) (c : zcf n b = true) (hV : (b, -1, v) :: V = V') (hc : ∀ p : Int × mS, zRp σ0 X n V' s p.2 → wpo (f p) Q) : wpo ((M_JA_fill b v σ).bind f) Q := by
  subst hV
  obtain ⟨c1, c2, c3, c4⟩ := of_decide_eq_true c
  have k1 : σ.2.1 b = (100, 64) := by rw [rp_k h c1 c2]; exact c4
  rw [e_fill k1 c1 (by decide) (by decide)]
  refine hc (0, zFil b v 64 σ) ?_
  obtain ⟨h1, h2, h3, h4, h5, h6, h7⟩ := h
  refine ⟨h1, h2, fun r hr => ⟨?_, (h3 r hr).2⟩, h4, fun r j r0 r1 => ?_, fun e he => ?_, h7⟩
  · funext j
    show (if r = b then _ else σ.1 r j) = _
    rw [if_neg (by omega), (h3 r hr).1]
  · show (if r = b then (if 0 ≤ j ∧ j < 64 then v else σ.1 r j) else σ.1 r j) = (if r = b ∧ (j = -1 ∧ 0 ≤ j ∨ (-1 : Int) = -1 ∧ 0 ≤ j ∧ j < 64) then v else zlk V r j) + X r j
    have hx := h5 r j r0 r1
    by_cases c : r = b
    · rw [if_pos c]
      have x0 := h7 r j (by omega)
      by_cases d : 0 ≤ j ∧ j < 64
      · rw [if_pos d, if_pos ⟨c, Or.inr ⟨rfl, d⟩⟩]; omega
      · rw [if_neg d, if_neg (by omega)]; exact hx
    · rw [if_neg c, if_neg (fun q => c q.1)]; exact hx
  · rcases List.mem_cons.mp he with e1 | e1
    · subst e1; exact c2
    · exact h6 e e1
theorem t_cpy {β : Type} {σ0 σ : mS} {X : Int → Int → Int} {n : Nat} {V : List (Int × Int × Int)} {s b : Int} {f : mS → Option β} {Q : β → Prop} (V' : List (Int × Int × Int)) (h : zRp σ0 X n V s σ) (g : σ0.2.1 (-2) = (100, 4) ∧ σ0.1 (-2) 0 = 12 ∧ σ0.1 (-2) 1 = 1 ∧ σ0.1 (-2) 2 = 0 ∧ σ0.1 (-2) 3 = 16) (b0 : 0 < b) (b1 : b ≤ (n : Int)) (b2 : b < 55 ∨ 57 < b) (hk : zshl.getD (b - 1).toNat (0, 0) = (100, 4)) (hV : (b, 0, 12) :: (b, 1, 1) :: (b, 2, 0) :: (b, 3, 16) :: V = V') (hc : ∀ σ', zRp σ0 X n V' s σ' → wpo (f σ') Q) : wpo ((cpy (-2) 0 b 0 4 σ).bind f) Q := by
  subst hV
  have k1 : σ.2.1 b = (100, 4) := by rw [rp_k h b0 b1]; exact hk
  have g0 := h.2.2.1 (-2) (by decide)
  have k2 : σ.2.1 (-2) = (100, 4) := by rw [g0.2]; exact g.1
  rw [e_cpy (a := 4) k2 k1 b0 (by omega) (by decide) (by decide)]
  refine hc (zCpy (-2) b 4 σ) ?_
  have hp := rp_put (v := 12) (i := 0) (rp_put (v := 1) (i := 1) (rp_put (v := 0) (i := 2) (rp_put (v := 16) (i := 3) h b0 b1 b2 (by decide)) b0 b1 b2 (by decide)) b0 b1 b2 (by decide)) b0 b1 b2 (by decide)
  have e : zCpy (-2) b 4 σ = (mup (mup (mup (mup σ.1 b 3 16) b 2 0) b 1 1) b 0 12, σ.2) := by
    refine Prod.ext ?_ rfl
    funext r i
    show (if r = b then (if 0 ≤ i ∧ i < 0 + 4 then σ.1 (-2) (0 + (i - 0)) else σ.1 r i) else σ.1 r i) = mup (mup (mup (mup σ.1 b 3 16) b 2 0) b 1 1) b 0 12 r i
    by_cases c : r = b
    · subst c
      rw [if_pos rfl, mup_if, mup_if, mup_if, mup_if, g0.1]
      by_cases d : 0 ≤ i ∧ i < 0 + 4
      · rw [if_pos d]
        have : i = 0 ∨ i = 1 ∨ i = 2 ∨ i = 3 := by omega
        rcases this with q | q | q | q <;> subst q
        · exact g.2.1
        · exact g.2.2.1
        · exact g.2.2.2.1
        · exact g.2.2.2.2
      · rw [if_neg d, if_neg (by omega), if_neg (by omega), if_neg (by omega), if_neg (by omega)]
    · rw [if_neg c, mup_cell c, mup_cell c, mup_cell c, mup_cell c]
  rw [e]
  exact hp
