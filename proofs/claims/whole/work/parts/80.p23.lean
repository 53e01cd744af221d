/-! A TEXT's tokens as a function of its bytes -/
def zsrt (b : Int) : Int := if 97 ≤ b ∧ b ≤ 122 then 258 else if 48 ≤ b ∧ b ≤ 57 then 257 else b
def zah (T : Int → Int) (i : Nat) : Int := if i = 0 then 32 else zsrt (T ((i : Int) - 1))
/-- where the letters from e on stop -/
def zwe (T : Int → Int) (n : Nat) : Nat → Nat → Nat
  | 0, e => e
  | f + 1, e => if e < n ∧ zsrt (T e) = 258 then zwe T n f (e + 1) else e
def zspl (T : Int → Int) (i e m : Nat) : Bool := decide ((zstr.getD m []).length + i = e) && (List.range (zstr.getD m []).length).all (fun j => decide (T ((i : Int) + j) = (zstr.getD m []).getD j 0))
def zwk (T : Int → Int) (i e : Nat) : Int := (zsr (zspl T i e) 11).elim 258 (fun m => 259 + (m : Int))
def zvs (v d : Int) : Int := if 1000 < v then v else v * 10 + d - 48
abbrev zTs : Type := Nat × (Nat → Int) × (Nat → Int) × (Nat → Int)
def zud (f : Nat → Int) (j : Nat) (v : Int) : Nat → Int := fun m => if m = j then v else f m
def zad (x : zTs) (k s v : Int) : zTs := (x.1 + 1, zud x.2.1 x.1 k, zud x.2.2.1 x.1 s, zud x.2.2.2 x.1 v)
def zsp (T : Int → Int) (n i : Nat) (x : zTs) : zTs :=
  if zsrt (T i) = 257 then (if zah T i = 257 then (x.1, x.2.1, x.2.2.1, zud x.2.2.2 (x.1 - 1) (zvs (x.2.2.2 (x.1 - 1)) (T i))) else zad x 257 i (T i - 48))
  else if zsrt (T i) = 258 then (if zah T i = 258 then x else zad x (zwk T i (zwe T n 401 i)) i 0)
  else if zsrt (T i) = 32 then x else zad x (zsrt (T i)) i 0
def zfo (T : Int → Int) (n : Nat) : Nat → zTs
  | 0 => (0, fun _ => 0, fun _ => 0, fun _ => 0)
  | i + 1 => zsp T n i (zfo T n i)
def zft (T : Int → Int) (n : Nat) : zTs := zad (zfo T n n) 256 n 0
theorem zah_succ (T : Int → Int) (i : Nat) : zah T (i + 1) = zsrt (T i) := by
  unfold zah
  rw [if_neg (by omega)]
  have : ((i + 1 : Nat) : Int) - 1 = (i : Int) := by omega
  rw [this]
theorem zud_same {f : Nat → Int} {j : Nat} {v : Int} : zud f j v j = v := by unfold zud; rw [if_pos rfl]
theorem zud_ne {f : Nat → Int} {j m : Nat} {v : Int} (h : m ≠ j) : zud f j v m = f m := by unfold zud; rw [if_neg h]
theorem zwk_bd (T : Int → Int) (i e : Nat) : 258 ≤ zwk T i e ∧ zwk T i e < 270 := by
  unfold zwk
  cases h : zsr (zspl T i e) 11 with
  | none => exact ⟨by show (258 : Int) ≤ 258; decide, by show (258 : Int) < 270; decide⟩
  | some m =>
    have := (zsr_some h).2.1
    exact ⟨by show (258 : Int) ≤ 259 + (m : Int); omega, by show 259 + (m : Int) < 270; omega⟩
def zTg (T : Int → Int) (i : Nat) (x : zTs) : Prop := x.1 ≤ i ∧ (zah T i = 257 → 0 < x.1) ∧ ∀ j : Nat, j < x.1 → (0 ≤ x.2.1 j ∧ x.2.1 j < 270 ∧ x.2.1 j ≠ 256) ∧ 0 ≤ x.2.2.1 j ∧ 0 ≤ x.2.2.2 j ∧ x.2.2.2 j ≤ 20000
theorem zad_g {T : Int → Int} {i : Nat} {x : zTs} {k s v : Int} (h : zTg T i x) (hk : 0 ≤ k ∧ k < 270 ∧ k ≠ 256) (hs : 0 ≤ s) (hv : 0 ≤ v ∧ v ≤ 20000) : zTg T (i + 1) (zad x k s v) := by
  obtain ⟨h1, h2, h3⟩ := h
  refine ⟨by show x.1 + 1 ≤ i + 1; omega, fun _ => by show 0 < x.1 + 1; omega, fun j hj => ?_⟩
  have hj : j < x.1 + 1 := hj
  show (0 ≤ zud x.2.1 x.1 k j ∧ zud x.2.1 x.1 k j < 270 ∧ zud x.2.1 x.1 k j ≠ 256) ∧ 0 ≤ zud x.2.2.1 x.1 s j ∧ 0 ≤ zud x.2.2.2 x.1 v j ∧ zud x.2.2.2 x.1 v j ≤ 20000
  by_cases c : j = x.1
  · subst c
    rw [zud_same, zud_same, zud_same]
    exact ⟨hk, hs, hv⟩
  · rw [zud_ne c, zud_ne c, zud_ne c]
    exact h3 j (by omega)
theorem zfo_g {T : Int → Int} {n : Nat} (hT : ∀ i : Nat, i < n → 0 ≤ T i ∧ T i < 256) : ∀ i, i ≤ n → zTg T i (zfo T n i) := by
  intro i
  induction i with
  | zero => intro _; exact ⟨Nat.le_refl _, fun h => absurd h (by unfold zah; rw [if_pos rfl]; decide), fun j hj => absurd hj (Nat.not_lt_zero _)⟩
  | succ i ih =>
    intro hi
    have ih := ih (by omega)
    have tb := hT i (by omega)
    show zTg T (i + 1) (zsp T n i (zfo T n i))
    unfold zsp
    by_cases c1 : zsrt (T i) = 257
    · rw [if_pos c1]
      have d : 48 ≤ T i ∧ T i ≤ 57 := by
        unfold zsrt at c1
        split at c1
        · omega
        · split at c1
          · assumption
          · omega
      by_cases c2 : zah T i = 257
      · rw [if_pos c2]
        obtain ⟨h1, h2, h3⟩ := ih
        have p0 := h2 c2
        refine ⟨by show (zfo T n i).1 ≤ i + 1; omega, fun _ => p0, fun j hj => ?_⟩
        have hj : j < (zfo T n i).1 := hj
        obtain ⟨q1, q2, q3, q4⟩ := h3 j hj
        refine ⟨q1, q2, ?_⟩
        show 0 ≤ zud (zfo T n i).2.2.2 ((zfo T n i).1 - 1) (zvs ((zfo T n i).2.2.2 ((zfo T n i).1 - 1)) (T i)) j ∧ zud (zfo T n i).2.2.2 ((zfo T n i).1 - 1) (zvs ((zfo T n i).2.2.2 ((zfo T n i).1 - 1)) (T i)) j ≤ 20000
        by_cases c : j = (zfo T n i).1 - 1
        · rw [← c, zud_same]
          unfold zvs
          split <;> omega
        · rw [zud_ne c]; exact ⟨q3, q4⟩
      · rw [if_neg c2]
        exact zad_g ih (by decide) (by omega) (by omega)
    · rw [if_neg c1]
      by_cases c3 : zsrt (T i) = 258
      · rw [if_pos c3]
        by_cases c4 : zah T i = 258
        · rw [if_pos c4]
          obtain ⟨h1, h2, h3⟩ := ih
          exact ⟨by omega, fun h => by rw [zah_succ] at h; omega, h3⟩
        · rw [if_neg c4]
          have := zwk_bd T i (zwe T n 401 i)
          exact zad_g ih (by omega) (by omega) (by omega)
      · rw [if_neg c3]
        by_cases c5 : zsrt (T i) = 32
        · rw [if_pos c5]
          obtain ⟨h1, h2, h3⟩ := ih
          exact ⟨by omega, fun h => by rw [zah_succ] at h; omega, h3⟩
        · rw [if_neg c5]
          have : zsrt (T i) = T i := by
            unfold zsrt at c1 c3 ⊢
            split
            · rename_i h; rw [if_pos h] at c3; omega
            · rename_i h
              rw [if_neg h] at c1
              split
              · rename_i h'; rw [if_pos h'] at c1; omega
              · rfl
          rw [this]
          exact zad_g ih (by omega) (by omega) (by omega)
theorem zft_ok {T : Int → Int} {n : Nat} (hn : n ≤ 400) (hT : ∀ i : Nat, i < n → 0 ≤ T i ∧ T i < 256) : (zfo T n n).1 ≤ 400 ∧ (zft T n).2.1 (zfo T n n).1 = 256 ∧ zTy (zft T n).2.1 (zft T n).2.2.1 (zfo T n n).1 ∧ ∀ j : Nat, j ≤ (zfo T n n).1 → 0 ≤ (zft T n).2.2.2 j := by
  obtain ⟨h1, h2, h3⟩ := zfo_g hT n (Nat.le_refl n)
  have e1 : (zft T n).2.1 = zud (zfo T n n).2.1 (zfo T n n).1 256 := rfl
  have e2 : (zft T n).2.2.1 = zud (zfo T n n).2.2.1 (zfo T n n).1 n := rfl
  have e3 : (zft T n).2.2.2 = zud (zfo T n n).2.2.2 (zfo T n n).1 0 := rfl
  rw [e1, e2, e3]
  refine ⟨by omega, zud_same, ⟨fun j hj => ?_, fun j hj => ?_⟩, fun j hj => ?_⟩
  · by_cases c : j = (zfo T n n).1
    · rw [c, zud_same, zud_same]; omega
    · rw [zud_ne c, zud_ne c]
      obtain ⟨q1, q2, _⟩ := h3 j (by omega)
      exact ⟨q1.1, q1.2.1, q2⟩
  · rw [zud_ne (by omega)]
    exact (h3 j hj).1.2.2
  · by_cases c : j = (zfo T n n).1
    · rw [c, zud_same]; exact Int.le_refl 0
    · rw [zud_ne c]
      exact (h3 j (by omega)).2.2.1
theorem d_sort (b : Int) (σ : mS) : M_Reader_sortOf b σ = some (zsrt b, σ) := by
  unfold M_Reader_sortOf M_Reader_sortOf_8 zsrt
  by_cases c1 : b < 97
  · rw [if_pos c1, if_neg (show ¬ (97 ≤ b ∧ b ≤ 122) by omega)]
    by_cases c2 : b < 48
    · rw [if_pos c2, if_neg (show ¬ (48 ≤ b ∧ b ≤ 57) by omega)]
    · rw [if_neg c2]
      by_cases c3 : 57 < b
      · rw [if_pos c3, if_neg (show ¬ (48 ≤ b ∧ b ≤ 57) by omega)]
      · rw [if_neg c3, if_pos (show (48 ≤ b ∧ b ≤ 57) by omega)]
  · rw [if_neg c1]
    by_cases c4 : 122 < b
    · rw [if_pos c4, if_neg (show ¬ (97 ≤ b ∧ b ≤ 122) by omega), if_neg (show ¬ (48 ≤ b ∧ b ≤ 57) by omega), if_neg (by omega), if_pos (by omega)]
    · rw [if_neg c4, if_pos (show (97 ≤ b ∧ b ≤ 122) by omega)]
/-- a word of the program's own is spelt, or not -/
theorem d_spells {T : Int → Int} {σ : mS} {i e m : Nat} (hB : zB σ) (hm : m < 11) (he : e ≤ 400) (hie : i ≤ e) (hT : ∀ j : Nat, j < e → σ.1 38 j = T j) : M_Reader_spells 38 i e (-10 - (m : Int)) σ = some (if zspl T i e m = true then 1 else 0, σ) := by
  obtain ⟨b1, b2⟩ := hB.2.2.2.2.2.2 m hm
  have tl : tln (-10 - (m : Int)) σ = some ((zstr.getD m []).length : Int) := by unfold tln; rw [b1, if_pos rfl]
  have k38 := zk38 hB
  generalize eL : zstr.getD m [] = L at *
  have we : w32 ((e : Int) - i) = (e : Int) - i := w32_in (by omega) (by omega)
  unfold M_Reader_spells
  rw [tl]
  show (if w32 ((e : Int) - i) = (L.length : Int) then M_Reader_spells_10 38 i (-10 - (m : Int)) 0 σ else if (0 : Int) = 0 ∨ (0 : Int) = 1 then some (0, σ) else none) = _
  rw [we]
  by_cases c : L.length + i = e
  · rw [if_pos (by omega)]
    unfold M_Reader_spells_10
    have key := loopS (f := fun s : Int × mS => B_Reader_spells_10 38 i (-10 - (m : Int)) s.1 s.2) (fun k => ((k : Int), σ)) (fun k => decide (¬ T ((i : Int) + k) = L.getD k 0)) L.length (fun _ => ((0 : Int), σ)) (1, σ) (by omega) ?_ ?_
    · obtain ⟨y, e1, rfl⟩ := key
      have e1' : miter (fun s : Int × mS => B_Reader_spells_10 38 i (-10 - (m : Int)) s.1 s.2) mN (0, σ) = some ((zsr (fun k => decide (¬ T ((i : Int) + k) = L.getD k 0)) L.length).elim (1, σ) (fun _ => (0, σ))) := e1
      rw [e1']
      have ez : zspl T i e m = (List.range L.length).all (fun j => decide (T ((i : Int) + j) = L.getD j 0)) := by
        unfold zspl; rw [eL, decide_eq_true c, Bool.true_and]
      rw [ez]
      cases h : zsr (fun k => decide (¬ T ((i : Int) + k) = L.getD k 0)) L.length with
      | none =>
        have : (List.range L.length).all (fun j => decide (T ((i : Int) + j) = L.getD j 0)) = true := by
          rw [List.all_eq_true]
          intro j hj
          have hj := List.mem_range.mp hj
          refine decide_eq_true (Decidable.byContradiction (fun hc => ?_))
          have hx : ∀ q, q < L.length → decide (¬ T ((i : Int) + q) = L.getD q 0) = false := by
            intro q
            induction q using Nat.strongRecOn with
            | _ q ih =>
              intro hq
              cases eq : decide (¬ T ((i : Int) + q) = L.getD q 0) with
              | false => rfl
              | true => rw [zsr_hit (P := fun k : Nat => decide (¬ T ((i : Int) + k) = L.getD k 0)) eq (fun r hr => ih r hr (by omega)) hq] at h; cases h
          have := hx j hj
          rw [decide_eq_false_iff_not] at this
          exact this hc
        rw [if_pos this]
        rfl
      | some k =>
        have hk := zsr_some h
        have h1 := of_decide_eq_true hk.1
        have : ¬ (List.range L.length).all (fun j => decide (T ((i : Int) + j) = L.getD j 0)) = true := by
          rw [List.all_eq_true]
          intro ha
          exact h1 (of_decide_eq_true (ha k (List.mem_range.mpr hk.2.1)))
        rw [if_neg this]
        rfl
    · intro k hk _
      have tc : tch (-10 - (m : Int)) (k : Int) σ = some (L.getD k 0) := by
        unfold tch; rw [b1]
        rw [if_pos ⟨rfl, by omega, by show (k : Int) < (L.length : Int); omega⟩, b2 k hk]
      have w1 : w32 ((i : Int) + k) = (i : Int) + k := w32_in (by omega) (by omega)
      have l1 : ld 100 38 ((i : Int) + k) σ = some (T ((i : Int) + k)) := by
        unfold ld
        rw [k38, if_pos ⟨rfl, by omega, by show (i : Int) + k < 400; omega⟩]
        have := hT (i + k) (by omega)
        rw [Int.natCast_add] at this
        rw [this]
      have w2 : w32 ((k : Int) + 1) = ((k + 1 : Nat) : Int) := by rw [w32_in (by omega) (by omega)]; omega
      show wpo (B_Reader_spells_10 38 i (-10 - (m : Int)) k σ) _
      unfold B_Reader_spells_10
      rw [tl]
      refine wpo_bind.mpr (wpo_some.mpr ?_)
      rw [if_pos (show (k : Int) < (L.length : Int) by omega), w1, l1]
      refine wpo_bind.mpr (wpo_some.mpr ?_)
      rw [tc]
      refine wpo_bind.mpr (wpo_some.mpr ?_)
      by_cases d : T ((i : Int) + k) = L.getD k 0
      · rw [if_pos d, w2]
        exact wpo_some.mpr ⟨decide_eq_false (fun h => h d), rfl⟩
      · rw [if_neg d, if_pos (Or.inl rfl)]
        exact wpo_some.mpr ⟨decide_eq_true d, rfl⟩
    · intro _
      show wpo (B_Reader_spells_10 38 i (-10 - (m : Int)) (L.length : Int) σ) _
      unfold B_Reader_spells_10
      rw [tl]
      refine wpo_bind.mpr (wpo_some.mpr ?_)
      rw [if_neg (Int.lt_irrefl _), if_pos (Or.inr rfl)]
      exact wpo_some.mpr rfl
  · rw [if_neg (by omega), if_pos (Or.inl rfl)]
    have ez : zspl T i e m = false := by unfold zspl; rw [eL, decide_eq_false c, Bool.false_and]
    rw [ez]
    rfl
