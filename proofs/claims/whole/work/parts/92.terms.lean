/-! THE START: what was there before the law began -/
/-- contents of the cells that were there before: the two tables, the texts -/
def zhc (r j : Int) : Int := if r = -2 then ([12, 1, 0, 16] : List Int).getD j.toNat 0 else if r = -3 then ([23, 9, 63, 31] : List Int).getD j.toNat 0 else if -20 ≤ r ∧ r ≤ -10 then (zstr.getD (-10 - r).toNat []).getD j.toNat 0 else 0
def zh0 (xs : Nat → Int32) (r j : Int) : Int := if r = -1 then (xs j.toNat).toInt else zhc r j
def zsh0 (L : Nat) (r : Int) : Int × Int := if r = -1 then (100, (L : Int)) else if r = -2 then (100, 4) else if r = -3 then (100, 4) else if -20 ≤ r ∧ r ≤ -10 then (300, ((zstr.getD (-10 - r).toNat []).length : Int)) else (0, 0)
def zro (b a2 a3 : Nat) (adK : Nat → Nat) (r : Int) : Nat := if r = -1 then b else if r = -2 then a2 else if r = -3 then a3 else adK (-10 - r).toNat
theorem zsh0_s {L : Nat} {r : Int} (h : (zsh0 L r).1 = 300) : -20 ≤ r ∧ r ≤ -10 := by
  unfold zsh0 at h
  by_cases c1 : r = -1
  · rw [if_pos c1] at h; exact absurd h (by show ¬ ((100 : Int) = 300); decide)
  · rw [if_neg c1] at h
    by_cases c2 : r = -2
    · rw [if_pos c2] at h; exact absurd h (by decide)
    · rw [if_neg c2] at h
      by_cases c3 : r = -3
      · rw [if_pos c3] at h; exact absurd h (by decide)
      · rw [if_neg c3] at h
        by_cases c4 : -20 ≤ r ∧ r ≤ -10
        · exact c4
        · rw [if_neg c4] at h; exact absurd h (by decide)
theorem zsh0_a {L : Nat} {r : Int} (h : (zsh0 L r).1 = 100) : r = -1 ∨ r = -2 ∨ r = -3 := by
  unfold zsh0 at h
  by_cases c1 : r = -1
  · exact Or.inl c1
  · rw [if_neg c1] at h
    by_cases c2 : r = -2
    · exact Or.inr (Or.inl c2)
    · rw [if_neg c2] at h
      by_cases c3 : r = -3
      · exact Or.inr (Or.inr c3)
      · rw [if_neg c3] at h
        by_cases c4 : -20 ≤ r ∧ r ≤ -10
        · rw [if_pos c4] at h; exact absurd h (by show ¬ ((300 : Int) = 100); decide)
        · rw [if_neg c4] at h; exact absurd h (by decide)
theorem zsh0_k {L : Nat} {r : Int} : (zsh0 L r).1 = 0 ∨ ((zsh0 L r).1 = 100 ∧ r < 0) ∨ ((zsh0 L r).1 = 300 ∧ r < 0) := by
  unfold zsh0
  by_cases c1 : r = -1
  · rw [if_pos c1]; exact Or.inr (Or.inl ⟨rfl, by omega⟩)
  · rw [if_neg c1]
    by_cases c2 : r = -2
    · rw [if_pos c2]; exact Or.inr (Or.inl ⟨rfl, by omega⟩)
    · rw [if_neg c2]
      by_cases c3 : r = -3
      · rw [if_pos c3]; exact Or.inr (Or.inl ⟨rfl, by omega⟩)
      · rw [if_neg c3]
        by_cases c4 : -20 ≤ r ∧ r ≤ -10
        · rw [if_pos c4]; exact Or.inr (Or.inr ⟨rfl, by omega⟩)
        · rw [if_neg c4]; exact Or.inl rfl
theorem zstr_len : ∀ n : Nat, (zstr.getD n []).length < 10 := by
  intro n
  by_cases h : n < 11
  · exact (by decide +kernel : ∀ n : Nat, n < 11 → (zstr.getD n []).length < 10) n h
  · have e : zstr.getD n [] = [] := by
      rw [List.getD_eq_getElem?_getD, List.getElem?_eq_none (by show 11 ≤ n; omega)]; rfl
    rw [e]; decide
theorem zsh0_l {L : Nat} {r : Int} (hL : L ≤ 3072) : 0 ≤ (zsh0 L r).2 ∧ (zsh0 L r).2 < 2147483648 := by
  unfold zsh0
  by_cases c1 : r = -1
  · rw [if_pos c1]; show 0 ≤ (L : Int) ∧ (L : Int) < 2147483648; omega
  · rw [if_neg c1]
    by_cases c2 : r = -2
    · rw [if_pos c2]; decide
    · rw [if_neg c2]
      by_cases c3 : r = -3
      · rw [if_pos c3]; decide
      · rw [if_neg c3]
        by_cases c4 : -20 ≤ r ∧ r ≤ -10
        · rw [if_pos c4]
          have := zstr_len (-10 - r).toNat
          show 0 ≤ ((zstr.getD (-10 - r).toNat []).length : Int) ∧ ((zstr.getD (-10 - r).toNat []).length : Int) < 2147483648
          omega
        · rw [if_neg c4]; decide
theorem zget_in {P : Int → Prop} {l : List Int} (h : ∀ v ∈ l, P v) (h0 : P 0) (j : Nat) : P (l.getD j 0) := by
  rw [List.getD_eq_getElem?_getD]
  cases e : l[j]? with
  | none => exact h0
  | some v => exact h v (List.mem_of_getElem? e)
theorem zstr_b (n j : Nat) : 0 ≤ (zstr.getD n []).getD j 0 ∧ (zstr.getD n []).getD j 0 < 128 := by
  refine zget_in (P := fun v => 0 ≤ v ∧ v < 128) ?_ (by decide) j
  by_cases h : n < 11
  · exact (by decide +kernel : ∀ n : Nat, n < 11 → ∀ v ∈ zstr.getD n [], 0 ≤ v ∧ v < 128) n h
  · have e : zstr.getD n [] = [] := by
      rw [List.getD_eq_getElem?_getD, List.getElem?_eq_none (by show 11 ≤ n; omega)]; rfl
    rw [e]; intro v hv; exact absurd hv List.not_mem_nil
theorem zh0_rg {xs : Nat → Int32} {r j : Int} : rgI (zh0 xs r j) := by
  unfold zh0
  by_cases c1 : r = -1
  · rw [if_pos c1]; exact ⟨by have := Int32.le_toInt (xs j.toNat); omega, by have := Int32.toInt_lt (xs j.toNat); omega⟩
  · rw [if_neg c1]
    unfold zhc
    by_cases c2 : r = -2
    · rw [if_pos c2]; exact zget_in (P := rgI) (by intro v hv; simp at hv; rcases hv with e | e | e | e <;> subst e <;> exact ⟨by decide, by decide⟩) ⟨by decide, by decide⟩ _
    · rw [if_neg c2]
      by_cases c3 : r = -3
      · rw [if_pos c3]; exact zget_in (P := rgI) (by intro v hv; simp at hv; rcases hv with e | e | e | e <;> subst e <;> exact ⟨by decide, by decide⟩) ⟨by decide, by decide⟩ _
      · rw [if_neg c3]
        by_cases c4 : -20 ≤ r ∧ r ≤ -10
        · rw [if_pos c4]
          have := zstr_b (-10 - r).toNat j.toNat
          exact ⟨by omega, by omega⟩
        · rw [if_neg c4]; exact ⟨by decide, by decide⟩
/-- the texts of the class, as terms -/
def ztm : Nat → Term := fun i => .string "RoadWater$Reader" (([99, 105, 107, 109, 111, 116, 118, 120, 122, 124, 126] : List Nat).getD i 0)
def zlen : List Nat := [4, 2, 2, 3, 3, 4, 5, 5, 6, 4, 4]
def zbyt : List (List Int32) := [[119, 97, 114, 109], [105, 102], [111, 114], [97, 110, 100], [110, 111, 116], [105, 110, 99, 104], [97, 98, 111, 118, 101], [112, 108, 97, 99, 101], [103, 114, 111, 117, 110, 100], [114, 105, 115, 101], [104, 111, 117, 114]]
def zgv : List Cond := flatC (Jvm.Cond.and given_1 narrow_1)
theorem zg_ex : ∀ i, i < 11 → (Cond.exactly (ztm i) "java/lang/String") ∈ zgv := by
  intro i hi
  match i, hi with
  | 0, _ => exact (by decide +kernel)
  | 1, _ => exact (by decide +kernel)
  | 2, _ => exact (by decide +kernel)
  | 3, _ => exact (by decide +kernel)
  | 4, _ => exact (by decide +kernel)
  | 5, _ => exact (by decide +kernel)
  | 6, _ => exact (by decide +kernel)
  | 7, _ => exact (by decide +kernel)
  | 8, _ => exact (by decide +kernel)
  | 9, _ => exact (by decide +kernel)
  | 10, _ => exact (by decide +kernel)
  | n + 11, h => omega
theorem zg_co : ∀ i, i < 11 → (Cond.eq (.field (ztm i) "java/lang/String" "coder" "B") (.int 0)) ∈ zgv := by
  intro i hi
  match i, hi with
  | 0, _ => exact (by decide +kernel)
  | 1, _ => exact (by decide +kernel)
  | 2, _ => exact (by decide +kernel)
  | 3, _ => exact (by decide +kernel)
  | 4, _ => exact (by decide +kernel)
  | 5, _ => exact (by decide +kernel)
  | 6, _ => exact (by decide +kernel)
  | 7, _ => exact (by decide +kernel)
  | 8, _ => exact (by decide +kernel)
  | 9, _ => exact (by decide +kernel)
  | 10, _ => exact (by decide +kernel)
  | n + 11, h => omega
theorem zg_ar : ∀ i, i < 11 → (Cond.arrayOf (.field (ztm i) "java/lang/String" "value" "[B") .byte) ∈ zgv := by
  intro i hi
  match i, hi with
  | 0, _ => exact (by decide +kernel)
  | 1, _ => exact (by decide +kernel)
  | 2, _ => exact (by decide +kernel)
  | 3, _ => exact (by decide +kernel)
  | 4, _ => exact (by decide +kernel)
  | 5, _ => exact (by decide +kernel)
  | 6, _ => exact (by decide +kernel)
  | 7, _ => exact (by decide +kernel)
  | 8, _ => exact (by decide +kernel)
  | 9, _ => exact (by decide +kernel)
  | 10, _ => exact (by decide +kernel)
  | n + 11, h => omega
theorem zg_le : ∀ i, i < 11 → (Cond.eq (.length (.field (ztm i) "java/lang/String" "value" "[B")) (.int (Int32.ofNat (zlen.getD i 0)))) ∈ zgv := by
  intro i hi
  match i, hi with
  | 0, _ => exact (by decide +kernel)
  | 1, _ => exact (by decide +kernel)
  | 2, _ => exact (by decide +kernel)
  | 3, _ => exact (by decide +kernel)
  | 4, _ => exact (by decide +kernel)
  | 5, _ => exact (by decide +kernel)
  | 6, _ => exact (by decide +kernel)
  | 7, _ => exact (by decide +kernel)
  | 8, _ => exact (by decide +kernel)
  | 9, _ => exact (by decide +kernel)
  | 10, _ => exact (by decide +kernel)
  | n + 11, h => omega
theorem zg_el : ∀ i, i < 11 → ∀ j : Nat, j < zlen.getD i 0 → (Cond.eq (.elem (.field (ztm i) "java/lang/String" "value" "[B") (.int (Int32.ofNat j))) (.int ((zbyt.getD i []).getD j 0))) ∈ zgv := by
  intro i hi
  match i, hi with
  | 0, _ => exact (by decide +kernel)
  | 1, _ => exact (by decide +kernel)
  | 2, _ => exact (by decide +kernel)
  | 3, _ => exact (by decide +kernel)
  | 4, _ => exact (by decide +kernel)
  | 5, _ => exact (by decide +kernel)
  | 6, _ => exact (by decide +kernel)
  | 7, _ => exact (by decide +kernel)
  | 8, _ => exact (by decide +kernel)
  | 9, _ => exact (by decide +kernel)
  | 10, _ => exact (by decide +kernel)
  | n + 11, h => omega
theorem zg_ne : ∀ i, i < 11 → ∀ j, j < 11 → i ≠ j → (Cond.not (Cond.eq (ztm i) (ztm j))) ∈ zgv ∨ (Cond.not (Cond.eq (ztm j) (ztm i))) ∈ zgv := by
  intro i hi
  match i, hi with
  | 0, _ => exact (by decide +kernel)
  | 1, _ => exact (by decide +kernel)
  | 2, _ => exact (by decide +kernel)
  | 3, _ => exact (by decide +kernel)
  | 4, _ => exact (by decide +kernel)
  | 5, _ => exact (by decide +kernel)
  | 6, _ => exact (by decide +kernel)
  | 7, _ => exact (by decide +kernel)
  | 8, _ => exact (by decide +kernel)
  | 9, _ => exact (by decide +kernel)
  | 10, _ => exact (by decide +kernel)
  | n + 11, h => omega
theorem zg_sr : ∀ i, i < 11 → Cond.stringRef "RoadWater$Reader" (([99, 105, 107, 109, 111, 116, 118, 120, 122, 124, 126] : List Nat).getD i 0) ((["warm", "if", "or", "and", "not", "inch", "above", "place", "ground", "rise", "hour"] : List String).getD i "") ∈ lw_tbl := by
  intro i hi
  match i, hi with
  | 0, _ => exact List.mem_of_getElem? (i := 598) (by decide +kernel)
  | 1, _ => exact List.mem_of_getElem? (i := 650) (by decide +kernel)
  | 2, _ => exact List.mem_of_getElem? (i := 651) (by decide +kernel)
  | 3, _ => exact List.mem_of_getElem? (i := 652) (by decide +kernel)
  | 4, _ => exact List.mem_of_getElem? (i := 653) (by decide +kernel)
  | 5, _ => exact List.mem_of_getElem? (i := 657) (by decide +kernel)
  | 6, _ => exact List.mem_of_getElem? (i := 658) (by decide +kernel)
  | 7, _ => exact List.mem_of_getElem? (i := 659) (by decide +kernel)
  | 8, _ => exact List.mem_of_getElem? (i := 660) (by decide +kernel)
  | 9, _ => exact List.mem_of_getElem? (i := 661) (by decide +kernel)
  | 10, _ => exact List.mem_of_getElem? (i := 662) (by decide +kernel)
  | n + 11, h => omega
theorem zbyt_eq : ∀ i, i < 11 → ∀ j : Nat, j < zlen.getD i 0 → Int32.ofInt ((zstr.getD i []).getD j 0) = (zbyt.getD i []).getD j 0 := by decide +kernel
theorem zlen_eq : ∀ i, i < 11 → (zstr.getD i []).length = zlen.getD i 0 := by decide +kernel
theorem zt_lF : Cond.laysStatic "RoadWater" "FIRST_TERMS" "[I" ∈ lw_tbl := List.mem_of_getElem? (i := 113) (by decide +kernel)
theorem zt_lH : Cond.laysStatic "RoadWater" "HIGHEST_TERMS" "[I" ∈ lw_tbl := List.mem_of_getElem? (i := 550) (by decide +kernel)
theorem zt_lC : Cond.laysStatic "java/lang/String" "COMPACT_STRINGS" "Z" ∈ lw_tbl := List.mem_of_getElem? (i := 611) (by decide +kernel)
theorem zt_lS : Cond.laysStatic "jdk/internal/util/Preconditions" "SIOOBE_FORMATTER" "Ljava/util/function/BiFunction;" ∈ lw_tbl := List.mem_of_getElem? (i := 627) (by decide +kernel)
theorem zt_iR : Cond.initialized "RoadWater" ∈ lw_tbl := List.mem_of_getElem? (i := 74) (by decide +kernel)
theorem zt_iS : Cond.initialized "java/lang/String" ∈ lw_tbl := List.mem_of_getElem? (i := 87) (by decide +kernel)
theorem zt_iP : Cond.initialized "jdk/internal/util/Preconditions" ∈ lw_tbl := List.mem_of_getElem? (i := 89) (by decide +kernel)
theorem zt_fl : Cond.fieldLinkNest "RoadWater$Road" 51 "RoadWater" "FIRST_TERMS" "[I" "RoadWater" ∈ lw_tbl := List.mem_of_getElem? (i := 112) (by decide +kernel)
theorem zt_m1 : Cond.methodLinkNest "RoadWater" 26 ⟨"RoadWater$Tape", "<init>", "()V"⟩ "RoadWater" ∈ lw_tbl := List.mem_of_getElem? (i := 188) (by decide +kernel)
theorem zt_m2 : Cond.methodLinkNest "RoadWater" 33 ⟨"RoadWater$Reader", "<init>", "()V"⟩ "RoadWater" ∈ lw_tbl := List.mem_of_getElem? (i := 204) (by decide +kernel)
theorem zt_ca : Cond.castable "[I" "java/lang/Cloneable" ∈ lw_tbl := List.mem_of_getElem? (i := 729) (by decide +kernel)
theorem zt_aL : Cond.arrayOver (.object "RoadWater$Law") ∈ lw_tbl := List.mem_of_getElem? (i := 108) (by decide +kernel)
theorem zt_aR : Cond.arrayOver (.object "RoadWater$Road") ∈ lw_tbl := List.mem_of_getElem? (i := 185) (by decide +kernel)
theorem zt_aH : Cond.arrayOver (.object "RoadWater$HourAir") ∈ lw_tbl := List.mem_of_getElem? (i := 252) (by decide +kernel)
theorem zg_aF : (Cond.arrayOf (.static "RoadWater" "FIRST_TERMS" "[I") .int) ∈ zgv := by decide +kernel
theorem zg_lF : (Cond.eq (.length (.static "RoadWater" "FIRST_TERMS" "[I")) (.int 4)) ∈ zgv := by decide +kernel
theorem zg_eF0 : (Cond.eq (.elem (.static "RoadWater" "FIRST_TERMS" "[I") (.int 0)) (.int 12)) ∈ zgv := by decide +kernel
theorem zg_eF1 : (Cond.eq (.elem (.static "RoadWater" "FIRST_TERMS" "[I") (.int 1)) (.int 1)) ∈ zgv := by decide +kernel
theorem zg_eF2 : (Cond.eq (.elem (.static "RoadWater" "FIRST_TERMS" "[I") (.int 2)) (.int 0)) ∈ zgv := by decide +kernel
theorem zg_eF3 : (Cond.eq (.elem (.static "RoadWater" "FIRST_TERMS" "[I") (.int 3)) (.int 16)) ∈ zgv := by decide +kernel
theorem zg_aH : (Cond.arrayOf (.static "RoadWater" "HIGHEST_TERMS" "[I") .int) ∈ zgv := by decide +kernel
theorem zg_lH : (Cond.eq (.length (.static "RoadWater" "HIGHEST_TERMS" "[I")) (.int 4)) ∈ zgv := by decide +kernel
theorem zg_eH0 : (Cond.eq (.elem (.static "RoadWater" "HIGHEST_TERMS" "[I") (.int 0)) (.int 23)) ∈ zgv := by decide +kernel
theorem zg_eH1 : (Cond.eq (.elem (.static "RoadWater" "HIGHEST_TERMS" "[I") (.int 1)) (.int 9)) ∈ zgv := by decide +kernel
theorem zg_eH2 : (Cond.eq (.elem (.static "RoadWater" "HIGHEST_TERMS" "[I") (.int 2)) (.int 63)) ∈ zgv := by decide +kernel
theorem zg_eH3 : (Cond.eq (.elem (.static "RoadWater" "HIGHEST_TERMS" "[I") (.int 3)) (.int 31)) ∈ zgv := by decide +kernel
theorem zg_cs : (Cond.eq (.static "java/lang/String" "COMPACT_STRINGS" "Z") (.int 1)) ∈ zgv := by decide +kernel
theorem zg_si : (Cond.isRef (.static "jdk/internal/util/Preconditions" "SIOOBE_FORMATTER" "Ljava/util/function/BiFunction;")) ∈ zgv := by decide +kernel
