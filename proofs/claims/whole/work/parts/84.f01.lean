/-! WHAT WAS THERE BEFORE (cells up to 0) is never written -/
def zpr (σ σ' : mS) : Prop := σ.2.2.1 ≤ σ'.2.2.1 ∧ (∀ u, u ≤ 0 → σ'.1 u = σ.1 u ∧ σ'.2.1 u = σ.2.1 u) ∧ ∀ u, u ≤ σ.2.2.1 → σ'.2.1 u = σ.2.1 u
theorem zpr.rfl' {σ : mS} : zpr σ σ := ⟨Int.le_refl _, fun _ _ => ⟨rfl, rfl⟩, fun _ _ => rfl⟩
theorem zpr.trans {σ σ' σ'' : mS} (h : zpr σ σ') (h' : zpr σ' σ'') : zpr σ σ'' := ⟨Int.le_trans h.1 h'.1, fun u hu => ⟨(h'.2.1 u hu).1.trans (h.2.1 u hu).1, (h'.2.1 u hu).2.trans (h.2.1 u hu).2⟩, fun u hu => (h'.2.2 u (Int.le_trans hu h.1)).trans (h.2.2 u hu)⟩
theorem zpr_mup {σ : mS} {r i v : Int} (h : 0 < r) : zpr σ (mup σ.1 r i v, σ.2) := ⟨Int.le_refl _, fun u hu => ⟨mup_fun (by omega), rfl⟩, fun _ _ => rfl⟩
theorem zpr_pf {σ σ' : mS} {a b r v : Int} (h : pf a b r v σ = some σ') : zpr σ σ' := by
  unfold pf at h
  split at h
  · rename_i c; cases h; exact zpr_mup c.2
  · cases h
theorem zpr_pz {σ σ' : mS} {a b r v : Int} (h : pz a b r v σ = some σ') : zpr σ σ' := by
  unfold pz at h
  split at h
  · rename_i c; cases h; exact zpr_mup c.2.1
  · cases h
theorem zpr_sd {σ σ' : mS} {k r i v : Int} (h : sd k r i v σ = some σ') : zpr σ σ' := by
  unfold sd at h
  split at h
  · rename_i c; cases h; exact zpr_mup c.2.1
  · cases h
theorem zpr_sr {σ σ' : mS} {k r i v : Int} (h : sr k r i v σ = some σ') : zpr σ σ' := by
  unfold sr at h
  split at h
  · rename_i c; cases h; exact zpr_mup c.2.1
  · cases h
theorem zpr_mnew {σ : mS} {k n : Int} (h0 : 0 ≤ σ.2.2.1) : zpr σ (mnew k n σ) := ⟨by rw [mnew_c]; omega, fun u hu => ⟨mnew_hf (by omega), mnew_kn (by omega)⟩, fun u hu => mnew_kn (by omega)⟩
theorem zpr_na {σ σ' : mS} {k n : Int} (h0 : 0 ≤ σ.2.2.1) (h : na k n σ = some σ') : zpr σ σ' := by
  unfold na at h
  split at h
  · cases h; exact zpr_mnew h0
  · cases h
theorem zpr_cpy {σ σ' : mS} {r p r' p' n : Int} (h : cpy r p r' p' n σ = some σ') : zpr σ σ' := by
  unfold cpy at h
  split at h
  · rename_i c
    cases h
    refine ⟨Int.le_refl _, fun u hu => ⟨?_, rfl⟩, fun _ _ => rfl⟩
    funext i
    exact if_neg (by omega)
  · cases h
theorem zpr_cln {σ σ' : mS} {r : Int} (h0 : 0 ≤ σ.2.2.1) (h : cln r σ = some σ') : zpr σ σ' := by
  unfold cln at h
  split at h
  · cases h
    refine ⟨by show σ.2.2.1 ≤ σ.2.2.1 + 1; omega, fun u hu => ⟨?_, ?_⟩, fun u hu => ?_⟩
    · funext i
      exact if_neg (by omega)
    · exact if_neg (by omega)
    · exact if_neg (by omega)
  · cases h
def hol {β : Type} (P : β → Prop) (x : Option β) : Prop := ∀ b, x = some b → P b
theorem hol_none {β : Type} {P : β → Prop} : hol P none := fun _ h => by cases h
theorem hol_bind {α β : Type} {P : β → Prop} {x : Option α} {f : α → Option β} (h : ∀ a, x = some a → hol P (f a)) : hol P (x.bind f) := by
  intro b hb
  cases e : x with
  | none => rw [e] at hb; cases hb
  | some a => rw [e] at hb; exact h a e b hb
theorem hol_cond {β : Type} {P : β → Prop} {c : Bool} {x y : Option β} (h : hol P x) (h' : hol P y) : hol P (cond c x y) := by
  cases c
  · exact h'
  · exact h
theorem hol_ite {β : Type} {P : β → Prop} {c : Prop} {dc : Decidable c} {x y : Option β} (h : hol P x) (h' : hol P y) : hol P (if c then x else y) := by
  by_cases hc : c
  · rw [if_pos hc]; exact h
  · rw [if_neg hc]; exact h'
theorem mbin_hol {β : Type} {P : β → Prop} {a : Nat} {x y : Int} {K : Int → Option β} (h : ∀ v, hol P (K v)) : hol P (mbin a x y K) := by
  unfold mbin
  split <;> first | exact h _ | exact hol_bind (fun v _ => h v) | exact hol_none
theorem mlbin_hol {β : Type} {P : β → Prop} {a : Nat} {x y : Int} {K : Int → Option β} (h : ∀ v, hol P (K v)) : hol P (mlbin a x y K) := by
  unfold mlbin
  split <;> first | exact h _ | exact hol_bind (fun v _ => h v) | exact hol_none
theorem mif_hol {β : Type} {P : β → Prop} {a : Nat} {x y : Int} {T F : Option β} (h : hol P T) (h' : hol P F) : hol P (mif a x y T F) := by
  unfold mif
  split <;> first | exact hol_ite h h' | exact hol_ite h' h
theorem msw_hol {β : Type} {P : β → Prop} {N : Nat → Option β} {d : Nat} {x : Int} (h : ∀ j, hol P (N j)) : ∀ t, hol P (msw N d x t)
  | [] => h d
  | (v, j) :: r => hol_ite (h j) (msw_hol h r)
set_option maxHeartbeats 4000000 in
theorem mstep_hol {β : Type} {P : β → Prop} {C : Nat → List mV → mS → Option (Int × mS)} {N : Nat → List mV → List mV → mS → Option β} {R : Int → mS → Option β} {σ : mS} (h0 : 0 ≤ σ.2.2.1) (hC : ∀ k as p, C k as σ = some p → zpr σ p.2) (hN : ∀ i L st σ', zpr σ σ' → hol P (N i L st σ')) (hR : ∀ v, hol P (R v σ)) (mi : mI) (i : Nat) (L st : List mV) : hol P (mstep C N R mi i L st σ) := by
  obtain ⟨op, a, b, c, t⟩ := mi
  have hN0 : ∀ i L st, hol P (N i L st σ) := fun i L st => hN i L st σ zpr.rfl'
  match op with
  | 0 => exact hN0 _ _ _
  | 1 =>
    simp only [mstep]
    split
    · exact hol_cond (hN0 _ _ _) hol_none
    · exact hol_none
  | 2 =>
    simp only [mstep]
    split
    · exact hol_cond (hN0 _ _ _) hol_none
    · exact hol_none
  | 3 => simp only [mstep]; split <;> first | exact hN0 _ _ _ | exact hol_none
  | 4 => simp only [mstep]; split <;> first | exact mbin_hol (fun _ => hN0 _ _ _) | exact hol_none
  | 5 => simp only [mstep]; split <;> first | exact mlbin_hol (fun _ => hN0 _ _ _) | exact hol_none
  | 6 => simp only [mstep]; split <;> first | exact hN0 _ _ _ | exact hol_none
  | 7 => simp only [mstep]; split <;> first | exact mif_hol (hN0 _ _ _) (hN0 _ _ _) | exact hol_none
  | 8 => simp only [mstep]; split <;> first | exact mif_hol (hN0 _ _ _) (hN0 _ _ _) | exact hol_none
  | 9 => exact hN0 _ _ _
  | 10 => simp only [mstep]; split <;> first | exact mif_hol (hN0 _ _ _) (hN0 _ _ _) | exact hol_none
  | 11 => simp only [mstep]; split <;> first | exact hol_bind (fun _ _ => mif_hol (hN0 _ _ _) (hN0 _ _ _)) | exact hol_none
  | 12 => simp only [mstep]; split <;> first | exact msw_hol (fun _ => hN0 _ _ _) _ | exact hol_none
  | 13 => simp only [mstep]; split <;> first | exact hol_bind (fun _ _ => hN0 _ _ _) | exact hol_none
  | 14 => simp only [mstep]; split <;> first | exact hol_bind (fun _ e => hN _ _ _ _ (zpr_pf e)) | exact hol_bind (fun _ e => hN _ _ _ _ (zpr_pz e)) | exact hol_none
  | 15 => simp only [mstep]; split <;> first | exact hol_bind (fun _ _ => hN0 _ _ _) | exact hol_none
  | 16 => simp only [mstep]; split <;> first | exact hol_bind (fun _ e => hN _ _ _ _ (zpr_sd e)) | exact hol_bind (fun _ e => hN _ _ _ _ (zpr_sr e)) | exact hol_none
  | 17 => simp only [mstep]; split <;> first | exact hol_bind (fun _ _ => hN0 _ _ _) | exact hol_none
  | 18 => exact hN _ _ _ _ (zpr_mnew h0)
  | 19 => simp only [mstep]; split <;> first | exact hol_bind (fun _ e => hN _ _ _ _ (zpr_na h0 e)) | exact hol_none
  | 20 =>
    simp only [mstep]
    refine hol_cond ?_ hol_none
    split
    · exact hol_bind (fun p e => hN _ _ _ _ (hC _ _ p e))
    · exact hol_bind (fun _ _ => hol_bind (fun p e => hN _ _ _ _ (hC _ _ p e)))
    · exact hol_none
  | 21 => simp only [mstep]; split <;> first | exact hR _ | exact hol_ite (hR _) hol_none | exact hol_none
  | 22 => simp only [mstep]; split <;> first | exact hN0 _ _ _ | exact hol_none
  | 23 => simp only [mstep]; split <;> first | exact hol_cond (hol_bind (fun _ e => hN _ _ _ _ (zpr_cpy e))) hol_none | exact hol_none
  | 24 => simp only [mstep]; split <;> first | exact hol_cond (hol_bind (fun _ _ => hN0 _ _ _)) hol_none | exact hol_none
  | 25 => simp only [mstep]; split <;> first | exact hol_cond (hol_bind (fun _ _ => hN0 _ _ _)) hol_none | exact hol_none
  | 26 => simp only [mstep]; split <;> first | exact hol_cond (hol_bind (fun _ _ => hN0 _ _ _)) hol_none | exact hol_none
  | 27 => simp only [mstep]; split <;> first | exact hol_cond (hol_bind (fun _ e => hN _ _ _ _ (zpr_cln h0 e))) hol_none | exact hol_none
  | 28 => simp only [mstep]; split <;> first | exact hol_bind (fun _ _ => hN0 _ _ _) | exact hol_none
  | 29 => simp only [mstep]; split <;> first | exact hol_cond (hN0 _ _ _) hol_none | exact hol_none
  | n + 30 => exact hol_none
