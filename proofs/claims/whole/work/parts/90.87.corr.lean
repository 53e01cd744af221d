noncomputable section
set_option maxRecDepth 100000 in
theorem P_LAW_law : mProg 237 = (c_LAW_law, 4) := rfl
def C_LAWg0 : Nat → List mV → mS → Option (Int × mS) := fun k as σ => match k, as with
  | 0, [(3, a0)] => M_RW_init a0 σ
  | 1, [(3, a0), (1, a1), (1, a2)] => M_RW_rise a0 a1 a2 σ
  | 2, [(3, a0), (1, a1), (1, a2), (1, a3)] => M_RW_ground a0 a1 a2 a3 σ
  | 3, [(3, a0), (1, a1), (1, a2)] => M_RW_thing a0 a1 a2 σ
  | 4, [(3, a0), (1, a1), (1, a2)] => M_RW_move a0 a1 a2 σ
  | 5, [(3, a0), (1, a1), (1, a2)] => M_RW_of a0 a1 a2 σ
  | 6, [(3, a0), (1, a1), (1, a2)] => M_RW_terms a0 a1 a2 σ
  | 7, [(3, a0), (1, a1), (1, a2), (1, a3), (1, a4), (1, a5)] => M_RW_feed a0 a1 a2 a3 a4 a5 σ
  | 8, [(3, a0), (1, a1)] => M_RW_end a0 a1 σ
  | 9, [(3, a0)] => M_RW_row a0 σ
  | _, _ => none
def C_LAWg1 : Nat → List mV → mS → Option (Int × mS) := fun k as σ => match k, as with
  | 10, [(3, a0)] => M_RW_worn a0 σ
  | 11, [(3, a0)] => M_RW_law a0 σ
  | 12, [(3, a0)] => M_RW_fault a0 σ
  | 13, [(3, a0), (1, a1)] => M_RW_force a0 a1 σ
  | 14, [(3, a0), (1, a1), (1, a2), (1, a3)] => M_RW_warm a0 a1 a2 a3 σ
  | 15, [(3, a0), (1, a1), (1, a2)] => M_RW_ray a0 a1 a2 σ
  | 16, [(3, a0), (1, a1), (1, a2)] => M_RW_at a0 a1 a2 σ
  | 17, [(3, a0), (1, a1)] => M_RW_seen a0 a1 σ
  | 18, [(3, a0), (1, a1)] => M_RW_pictures a0 a1 σ
  | 19, [(3, a0), (1, a1), (1, a2), (1, a3)] => M_RW_picture a0 a1 a2 a3 σ
  | _, _ => none
def C_LAWg2 : Nat → List mV → mS → Option (Int × mS) := fun k as σ => match k, as with
  | 20, [(3, a0), (1, a1)] => M_RW_hidden a0 a1 σ
  | 21, [(3, a0), (1, a1)] => M_RW_water a0 a1 σ
  | 22, [(3, a0)] => M_RW_horizon a0 σ
  | 23, [(3, a0), (1, a1), (1, a2)] => M_RW_aim a0 a1 a2 σ
  | 24, [(3, a0), (1, a1), (1, a2)] => M_RW_loom a0 a1 a2 σ
  | 25, [(3, a0), (1, a1)] => M_RW_shade a0 a1 σ
  | 26, [(3, a0), (1, a1), (1, a2)] => M_RW_cross a0 a1 a2 σ
  | 27, [(3, a0), (1, a1)] => M_RW_hours a0 a1 σ
  | 28, [(3, a0), (1, a1), (1, a2)] => M_RW_mark a0 a1 a2 σ
  | 29, [(3, a0), (1, a1)] => M_RW_level a0 a1 σ
  | _, _ => none
def C_LAWg3 : Nat → List mV → mS → Option (Int × mS) := fun k as σ => match k, as with
  | 30, [(3, a0), (1, a1)] => M_RW_best a0 a1 σ
  | 31, [(3, a0), (1, a1), (1, a2)] => M_RW_eyes a0 a1 a2 σ
  | 32, [(3, a0), (1, a1), (1, a2)] => M_RW_where a0 a1 a2 σ
  | 33, [(3, a0), (1, a1), (1, a2), (1, a3)] => M_RW_sight a0 a1 a2 a3 σ
  | 34, [(3, a0), (1, a1)] => M_RW_drop a0 a1 σ
  | 35, [(3, a0), (1, a1)] => M_RW_wrong a0 a1 σ
  | 36, [(3, a0)] => M_RW_fits a0 σ
  | 37, [(3, a0)] => M_RW_likely a0 σ
  | 38, [(3, a0), (1, a1), (1, a2), (1, a3), (1, a4)] => M_RW_tremble a0 a1 a2 a3 a4 σ
  | 39, [(3, a0), (1, a1), (1, a2)] => M_RW_trembled a0 a1 a2 σ
  | _, _ => none
def C_LAWg4 : Nat → List mV → mS → Option (Int × mS) := fun k as σ => match k, as with
  | 40, [(3, a0), (1, a1)] => M_RW_image a0 a1 σ
  | 41, [(3, a0), (1, a1)] => M_RW_back a0 a1 σ
  | 42, [(3, a0), (1, a1)] => M_RW_count a0 a1 σ
  | 43, [(3, a0)] => M_RW_status a0 σ
  | 57, [(3, a0)] => M_Mo_init a0 σ
  | 58, [(3, a0), (1, a1)] => M_Mo_image a0 a1 σ
  | 59, [(3, a0), (1, a1)] => M_Mo_back a0 a1 σ
  | 67, [(3, a0), (1, a1), (1, a2)] => M_Mo_rise a0 a1 a2 σ
  | 68, [(3, a0), (1, a1), (1, a2), (1, a3)] => M_Mo_ground a0 a1 a2 a3 σ
  | 69, [(3, a0), (1, a1), (1, a2)] => M_Mo_thing a0 a1 a2 σ
  | _, _ => none
def C_LAWg5 : Nat → List mV → mS → Option (Int × mS) := fun k as σ => match k, as with
  | 70, [(3, a0), (1, a1), (1, a2)] => M_Mo_move a0 a1 a2 σ
  | 72, [(3, a0), (1, a1), (1, a2)] => M_Mo_of a0 a1 a2 σ
  | 73, [(3, a0), (1, a1), (1, a2)] => M_Mo_terms a0 a1 a2 σ
  | 74, [(3, a0)] => M_Mo_row a0 σ
  | 75, [(3, a0)] => M_Mo_worn a0 σ
  | 76, [(3, a0), (1, a1), (1, a2), (1, a3), (1, a4), (1, a5)] => M_Mo_feed a0 a1 a2 a3 a4 a5 σ
  | 77, [(3, a0), (1, a1)] => M_Mo_end a0 a1 σ
  | 96, [(3, a0)] => M_Mo_law a0 σ
  | 97, [(3, a0)] => M_Mo_fault a0 σ
  | 98, [(3, a0), (1, a1)] => M_Mo_force a0 a1 σ
  | _, _ => none
def C_LAWg6 : Nat → List mV → mS → Option (Int × mS) := fun k as σ => match k, as with
  | 111, [(3, a0), (1, a1), (1, a2), (1, a3)] => M_Mo_warm a0 a1 a2 a3 σ
  | 118, [(3, a0), (1, a1), (1, a2)] => M_Mo_ray a0 a1 a2 σ
  | 119, [(3, a0), (1, a1), (1, a2)] => M_Mo_at a0 a1 a2 σ
  | 125, [(3, a0), (1, a1)] => M_Mo_seen a0 a1 σ
  | 126, [(3, a0), (1, a1)] => M_Mo_pictures a0 a1 σ
  | 127, [(3, a0), (1, a1), (1, a2), (1, a3)] => M_Mo_picture a0 a1 a2 a3 σ
  | 128, [(3, a0), (1, a1)] => M_Mo_hidden a0 a1 σ
  | 129, [(3, a0), (1, a1)] => M_Mo_water a0 a1 σ
  | 130, [(3, a0)] => M_Mo_horizon a0 σ
  | 132, [(3, a0), (1, a1), (1, a2)] => M_Mo_aim a0 a1 a2 σ
  | _, _ => none
def C_LAWg7 : Nat → List mV → mS → Option (Int × mS) := fun k as σ => match k, as with
  | 133, [(3, a0), (1, a1), (1, a2)] => M_Mo_loom a0 a1 a2 σ
  | 134, [(3, a0), (1, a1)] => M_Mo_shade a0 a1 σ
  | 135, [(3, a0), (1, a1), (1, a2)] => M_Mo_cross a0 a1 a2 σ
  | 136, [(3, a0), (1, a1)] => M_Mo_hours a0 a1 σ
  | 138, [(3, a0), (1, a1), (1, a2)] => M_Mo_mark a0 a1 a2 σ
  | 141, [(3, a0), (1, a1)] => M_Mo_level a0 a1 σ
  | 142, [(3, a0), (1, a1)] => M_Mo_best a0 a1 σ
  | 143, [(3, a0), (1, a1), (1, a2)] => M_Mo_eyes a0 a1 a2 σ
  | 144, [(3, a0), (1, a1), (1, a2)] => M_Mo_where a0 a1 a2 σ
  | 145, [(3, a0), (1, a1), (1, a2), (1, a3)] => M_Mo_sight a0 a1 a2 a3 σ
  | _, _ => none
def C_LAWg8 : Nat → List mV → mS → Option (Int × mS) := fun k as σ => match k, as with
  | 146, [(3, a0), (1, a1)] => M_Mo_drop a0 a1 σ
  | 148, [(3, a0), (1, a1)] => M_Mo_wrong a0 a1 σ
  | 149, [(3, a0)] => M_Mo_fits a0 σ
  | 150, [(3, a0)] => M_Mo_likely a0 σ
  | 151, [(3, a0), (1, a1), (1, a2), (1, a3), (1, a4)] => M_Mo_tremble a0 a1 a2 a3 a4 σ
  | 152, [(3, a0), (1, a1), (1, a2)] => M_Mo_trembled a0 a1 a2 σ
  | 153, [(3, a0), (1, a1)] => M_Mo_count a0 a1 σ
  | 154, [(3, a0)] => M_Mo_status a0 σ
  | _, _ => none
def C_LAWz : Nat → List mV → mS → Option (Int × mS) := fun k as σ => cond (k.ble 9) (C_LAWg0 k as σ) (cond (k.ble 19) (C_LAWg1 k as σ) (cond (k.ble 29) (C_LAWg2 k as σ) (cond (k.ble 39) (C_LAWg3 k as σ) (cond (k.ble 69) (C_LAWg4 k as σ) (cond (k.ble 98) (C_LAWg5 k as σ) (cond (k.ble 132) (C_LAWg6 k as σ) (cond (k.ble 145) (C_LAWg7 k as σ) (C_LAWg8 k as σ))))))))
set_option maxRecDepth 100000 in
theorem E_LAWz_10 (l0 l1 l2 l3 : Int) (σ : mS) : mblk c_LAW_law K_LAW_law (C_LAWz) (F_LAW_law_10) (fun v σ => some (.inr (v, σ))) 968 10 ([(3, l0), (3, l1), (3, l2), (1, l3)]) [] σ = B_LAW_law_10 l0 l1 l2 l3 σ := rfl
set_option maxRecDepth 100000 in
theorem E_LAWz_0 (l0 : Int) (σ : mS) : mblk c_LAW_law K_LAW_law (C_LAWz) (F_LAW_law_0) (fun v σ => some (v, σ)) 968 0 (mInit 4 [(3, l0)]) [] σ = M_LAW_law l0 σ := rfl
set_option maxRecDepth 100000 in
theorem TC_LAWg0 : ∀ k as σ p, C_LAWg0 k as σ = some p → mEx 128 k as σ p := by
  intro k as σ p hp
  unfold C_LAWg0 at hp
  split at hp
  · exact (T_RW_init hp).up (Nat.le_of_ble_eq_true rfl)
  · exact (T_RW_rise hp).up (Nat.le_of_ble_eq_true rfl)
  · exact (T_RW_ground hp).up (Nat.le_of_ble_eq_true rfl)
  · exact (T_RW_thing hp).up (Nat.le_of_ble_eq_true rfl)
  · exact (T_RW_move hp).up (Nat.le_of_ble_eq_true rfl)
  · exact (T_RW_of hp).up (Nat.le_of_ble_eq_true rfl)
  · exact (T_RW_terms hp).up (Nat.le_of_ble_eq_true rfl)
  · exact (T_RW_feed hp).up (Nat.le_of_ble_eq_true rfl)
  · exact (T_RW_end hp).up (Nat.le_of_ble_eq_true rfl)
  · exact (T_RW_row hp).up (Nat.le_of_ble_eq_true rfl)
  · cases hp
set_option maxRecDepth 100000 in
theorem TC_LAWg1 : ∀ k as σ p, C_LAWg1 k as σ = some p → mEx 128 k as σ p := by
  intro k as σ p hp
  unfold C_LAWg1 at hp
  split at hp
  · exact (T_RW_worn hp).up (Nat.le_of_ble_eq_true rfl)
  · exact (T_RW_law hp).up (Nat.le_of_ble_eq_true rfl)
  · exact (T_RW_fault hp).up (Nat.le_of_ble_eq_true rfl)
  · exact (T_RW_force hp).up (Nat.le_of_ble_eq_true rfl)
  · exact (T_RW_warm hp).up (Nat.le_of_ble_eq_true rfl)
  · exact (T_RW_ray hp).up (Nat.le_of_ble_eq_true rfl)
  · exact (T_RW_at hp).up (Nat.le_of_ble_eq_true rfl)
  · exact (T_RW_seen hp).up (Nat.le_of_ble_eq_true rfl)
  · exact (T_RW_pictures hp).up (Nat.le_of_ble_eq_true rfl)
  · exact (T_RW_picture hp).up (Nat.le_of_ble_eq_true rfl)
  · cases hp
set_option maxRecDepth 100000 in
theorem TC_LAWg2 : ∀ k as σ p, C_LAWg2 k as σ = some p → mEx 128 k as σ p := by
  intro k as σ p hp
  unfold C_LAWg2 at hp
  split at hp
  · exact (T_RW_hidden hp).up (Nat.le_of_ble_eq_true rfl)
  · exact (T_RW_water hp).up (Nat.le_of_ble_eq_true rfl)
  · exact (T_RW_horizon hp).up (Nat.le_of_ble_eq_true rfl)
  · exact (T_RW_aim hp).up (Nat.le_of_ble_eq_true rfl)
  · exact (T_RW_loom hp).up (Nat.le_of_ble_eq_true rfl)
  · exact (T_RW_shade hp).up (Nat.le_of_ble_eq_true rfl)
  · exact (T_RW_cross hp).up (Nat.le_of_ble_eq_true rfl)
  · exact (T_RW_hours hp).up (Nat.le_of_ble_eq_true rfl)
  · exact (T_RW_mark hp).up (Nat.le_of_ble_eq_true rfl)
  · exact (T_RW_level hp).up (Nat.le_of_ble_eq_true rfl)
  · cases hp
set_option maxRecDepth 100000 in
theorem TC_LAWg3 : ∀ k as σ p, C_LAWg3 k as σ = some p → mEx 128 k as σ p := by
  intro k as σ p hp
  unfold C_LAWg3 at hp
  split at hp
  · exact (T_RW_best hp).up (Nat.le_of_ble_eq_true rfl)
  · exact (T_RW_eyes hp).up (Nat.le_of_ble_eq_true rfl)
  · exact (T_RW_where hp).up (Nat.le_of_ble_eq_true rfl)
  · exact (T_RW_sight hp).up (Nat.le_of_ble_eq_true rfl)
  · exact (T_RW_drop hp).up (Nat.le_of_ble_eq_true rfl)
  · exact (T_RW_wrong hp).up (Nat.le_of_ble_eq_true rfl)
  · exact (T_RW_fits hp).up (Nat.le_of_ble_eq_true rfl)
  · exact (T_RW_likely hp).up (Nat.le_of_ble_eq_true rfl)
  · exact (T_RW_tremble hp).up (Nat.le_of_ble_eq_true rfl)
  · exact (T_RW_trembled hp).up (Nat.le_of_ble_eq_true rfl)
  · cases hp
set_option maxRecDepth 100000 in
theorem TC_LAWg4 : ∀ k as σ p, C_LAWg4 k as σ = some p → mEx 128 k as σ p := by
  intro k as σ p hp
  unfold C_LAWg4 at hp
  split at hp
  · exact (T_RW_image hp).up (Nat.le_of_ble_eq_true rfl)
  · exact (T_RW_back hp).up (Nat.le_of_ble_eq_true rfl)
  · exact (T_RW_count hp).up (Nat.le_of_ble_eq_true rfl)
  · exact (T_RW_status hp).up (Nat.le_of_ble_eq_true rfl)
  · exact (T_Mo_init hp).up (Nat.le_of_ble_eq_true rfl)
  · exact (T_Mo_image hp).up (Nat.le_of_ble_eq_true rfl)
  · exact (T_Mo_back hp).up (Nat.le_of_ble_eq_true rfl)
  · exact (T_Mo_rise hp).up (Nat.le_of_ble_eq_true rfl)
  · exact (T_Mo_ground hp).up (Nat.le_of_ble_eq_true rfl)
  · exact (T_Mo_thing hp).up (Nat.le_of_ble_eq_true rfl)
  · cases hp
set_option maxRecDepth 100000 in
theorem TC_LAWg5 : ∀ k as σ p, C_LAWg5 k as σ = some p → mEx 128 k as σ p := by
  intro k as σ p hp
  unfold C_LAWg5 at hp
  split at hp
  · exact (T_Mo_move hp).up (Nat.le_of_ble_eq_true rfl)
  · exact (T_Mo_of hp).up (Nat.le_of_ble_eq_true rfl)
  · exact (T_Mo_terms hp).up (Nat.le_of_ble_eq_true rfl)
  · exact (T_Mo_row hp).up (Nat.le_of_ble_eq_true rfl)
  · exact (T_Mo_worn hp).up (Nat.le_of_ble_eq_true rfl)
  · exact (T_Mo_feed hp).up (Nat.le_of_ble_eq_true rfl)
  · exact (T_Mo_end hp).up (Nat.le_of_ble_eq_true rfl)
  · exact (T_Mo_law hp).up (Nat.le_of_ble_eq_true rfl)
  · exact (T_Mo_fault hp).up (Nat.le_of_ble_eq_true rfl)
  · exact (T_Mo_force hp).up (Nat.le_of_ble_eq_true rfl)
  · cases hp
set_option maxRecDepth 100000 in
theorem TC_LAWg6 : ∀ k as σ p, C_LAWg6 k as σ = some p → mEx 128 k as σ p := by
  intro k as σ p hp
  unfold C_LAWg6 at hp
  split at hp
  · exact (T_Mo_warm hp).up (Nat.le_of_ble_eq_true rfl)
  · exact (T_Mo_ray hp).up (Nat.le_of_ble_eq_true rfl)
  · exact (T_Mo_at hp).up (Nat.le_of_ble_eq_true rfl)
  · exact (T_Mo_seen hp).up (Nat.le_of_ble_eq_true rfl)
  · exact (T_Mo_pictures hp).up (Nat.le_of_ble_eq_true rfl)
  · exact (T_Mo_picture hp).up (Nat.le_of_ble_eq_true rfl)
  · exact (T_Mo_hidden hp).up (Nat.le_of_ble_eq_true rfl)
  · exact (T_Mo_water hp).up (Nat.le_of_ble_eq_true rfl)
  · exact (T_Mo_horizon hp).up (Nat.le_of_ble_eq_true rfl)
  · exact (T_Mo_aim hp).up (Nat.le_of_ble_eq_true rfl)
  · cases hp
set_option maxRecDepth 100000 in
theorem TC_LAWg7 : ∀ k as σ p, C_LAWg7 k as σ = some p → mEx 128 k as σ p := by
  intro k as σ p hp
  unfold C_LAWg7 at hp
  split at hp
  · exact (T_Mo_loom hp).up (Nat.le_of_ble_eq_true rfl)
  · exact (T_Mo_shade hp).up (Nat.le_of_ble_eq_true rfl)
  · exact (T_Mo_cross hp).up (Nat.le_of_ble_eq_true rfl)
  · exact (T_Mo_hours hp).up (Nat.le_of_ble_eq_true rfl)
  · exact (T_Mo_mark hp).up (Nat.le_of_ble_eq_true rfl)
  · exact (T_Mo_level hp).up (Nat.le_of_ble_eq_true rfl)
  · exact (T_Mo_best hp).up (Nat.le_of_ble_eq_true rfl)
  · exact (T_Mo_eyes hp).up (Nat.le_of_ble_eq_true rfl)
  · exact (T_Mo_where hp).up (Nat.le_of_ble_eq_true rfl)
  · exact (T_Mo_sight hp).up (Nat.le_of_ble_eq_true rfl)
  · cases hp
set_option maxRecDepth 100000 in
theorem TC_LAWg8 : ∀ k as σ p, C_LAWg8 k as σ = some p → mEx 128 k as σ p := by
  intro k as σ p hp
  unfold C_LAWg8 at hp
  split at hp
  · exact (T_Mo_drop hp).up (Nat.le_of_ble_eq_true rfl)
  · exact (T_Mo_wrong hp).up (Nat.le_of_ble_eq_true rfl)
  · exact (T_Mo_fits hp).up (Nat.le_of_ble_eq_true rfl)
  · exact (T_Mo_likely hp).up (Nat.le_of_ble_eq_true rfl)
  · exact (T_Mo_tremble hp).up (Nat.le_of_ble_eq_true rfl)
  · exact (T_Mo_trembled hp).up (Nat.le_of_ble_eq_true rfl)
  · exact (T_Mo_count hp).up (Nat.le_of_ble_eq_true rfl)
  · exact (T_Mo_status hp).up (Nat.le_of_ble_eq_true rfl)
  · cases hp
theorem TC_LAW_law : ∀ k as σ p, C_LAWz k as σ = some p → mEx 128 k as σ p := by
  intro k as σ p hp
  unfold C_LAWz at hp
  cases h0 : k.ble 9 with
  | true => rw [h0] at hp; exact TC_LAWg0 k as σ p hp
  | false =>
    rw [h0] at hp
    simp only [cond_false] at hp
    cases h1 : k.ble 19 with
    | true => rw [h1] at hp; exact TC_LAWg1 k as σ p hp
    | false =>
      rw [h1] at hp
      simp only [cond_false] at hp
      cases h2 : k.ble 29 with
      | true => rw [h2] at hp; exact TC_LAWg2 k as σ p hp
      | false =>
        rw [h2] at hp
        simp only [cond_false] at hp
        cases h3 : k.ble 39 with
        | true => rw [h3] at hp; exact TC_LAWg3 k as σ p hp
        | false =>
          rw [h3] at hp
          simp only [cond_false] at hp
          cases h4 : k.ble 69 with
          | true => rw [h4] at hp; exact TC_LAWg4 k as σ p hp
          | false =>
            rw [h4] at hp
            simp only [cond_false] at hp
            cases h5 : k.ble 98 with
            | true => rw [h5] at hp; exact TC_LAWg5 k as σ p hp
            | false =>
              rw [h5] at hp
              simp only [cond_false] at hp
              cases h6 : k.ble 132 with
              | true => rw [h6] at hp; exact TC_LAWg6 k as σ p hp
              | false =>
                rw [h6] at hp
                simp only [cond_false] at hp
                cases h7 : k.ble 145 with
                | true => rw [h7] at hp; exact TC_LAWg7 k as σ p hp
                | false =>
                  rw [h7] at hp
                  simp only [cond_false] at hp
                  exact TC_LAWg8 k as σ p hp
set_option maxRecDepth 100000 in
theorem TB_LAW_law_10 {d : Nat} (hC : ∀ k as σ p, C_LAWz k as σ = some p → mEx d k as σ p) {l0 l1 l2 l3 : Int} {σ : mS} {b : ((Int × mS) ⊕ (Int × mS))} {r : Int × mS} (h : B_LAW_law_10 l0 l1 l2 l3 σ = some b) (hk : (Sum.elim (fun (s : Int × mS) r => mG (d + 1) 237 10 [(3, l0), (3, l1), (3, l2), (1, s.1)] [] s.2 r) (fun b r => r = b)) b r) : mG (d + 1) 237 10 [(3, l0), (3, l1), (3, l2), (1, l3)] [] σ r := by
  refine mblk_ok2 P_LAW_law (F := F_LAW_law_10) (Sum.elim (fun (s : Int × mS) r => mG (d + 1) 237 10 [(3, l0), (3, l1), (3, l2), (1, s.1)] [] s.2 r) (fun b r => r = b)) [([(10, 46), (49, 83), (86, 110), (113, 137), (140, 164), (167, 191), (194, 248), (251, 265), (268, 272), (275, 279), (282, 286), (289, 293), (296, 310), (313, 347), (350, 374), (377, 401), (404, 418), (421, 435), (438, 472), (475, 489), (492, 506), (509, 513), (516, 540), (543, 567), (570, 584), (587, 611), (614, 628), (631, 655), (658, 672), (675, 689), (692, 716), (719, 743), (746, 780), (783, 797), (800, 814), (817, 821), (824, 828), (831, 875), (878, 902), (905, 919), (922, 936), (939, 953), (956, 960), (963, 964)], [0, 1, 2])] [(10, 966)] [(3, l0), (3, l1), (3, l2), (1, l3)] (by decide +kernel) rfl hC ?_ (fun v σ b r hb hk => by cases hb; exact hk) _ 10 [(3, l0), (3, l1), (3, l2), (1, l3)] [] σ b r rfl (mJ_self _ _ _) ((E_LAWz_10 l0 l1 l2 l3 σ).trans h) hk
  intro i L st σ b r hj hb hk
  unfold F_LAW_law_10 at hb
  split at hb
  · have key : ∀ (k0 k1 k2 k3 : Int) (σ : mS) (b : ((Int × mS) ⊕ (Int × mS))) (r : Int × mS), mJ [(3, l0), (3, l1), (3, l2), (1, l3)] 10 [(3, k0), (3, k1), (3, k2), (1, k3)] [([(10, 46), (49, 83), (86, 110), (113, 137), (140, 164), (167, 191), (194, 248), (251, 265), (268, 272), (275, 279), (282, 286), (289, 293), (296, 310), (313, 347), (350, 374), (377, 401), (404, 418), (421, 435), (438, 472), (475, 489), (492, 506), (509, 513), (516, 540), (543, 567), (570, 584), (587, 611), (614, 628), (631, 655), (658, 672), (675, 689), (692, 716), (719, 743), (746, 780), (783, 797), (800, 814), (817, 821), (824, 828), (831, 875), (878, 902), (905, 919), (922, 936), (939, 953), (956, 960), (963, 964)], [0, 1, 2])] → (some (.inl (k3, σ))) = some b → (Sum.elim (fun (s : Int × mS) r => mG (d + 1) 237 10 [(3, l0), (3, l1), (3, l2), (1, s.1)] [] s.2 r) (fun b r => r = b)) b r → mG (d + 1) 237 10 [(3, k0), (3, k1), (3, k2), (1, k3)] [] σ r := by
      intro k0 k1 k2 k3 σ b r hj hb hk
      have e0 : k0 = l0 := (Prod.mk.inj (Option.some.inj ((hj.1 rfl).1))).2
      subst e0
      have e1 : k1 = l1 := (Prod.mk.inj (Option.some.inj ((hj.1 rfl).2.1))).2
      subst e1
      have e2 : k2 = l2 := (Prod.mk.inj (Option.some.inj ((hj.1 rfl).2.2.1))).2
      subst e2
      cases hb
      exact mG.lle hk (lle_cons (lle_cons (lle_cons (lle_cons lle_nil))))
    exact key _ _ _ _ σ b r hj hb hk
  · cases hb
set_option maxRecDepth 100000 in
theorem T_LAW_law_10 {d : Nat} (hC : ∀ k as σ p, C_LAWz k as σ = some p → mEx d k as σ p) {l0 l1 l2 l3 : Int} {σ : mS} {b : Int × mS} {r : Int × mS} (h : M_LAW_law_10 l0 l1 l2 l3 σ = some b) (hk : (fun b r => r = b) b r) : mG (d + 1) 237 10 [(3, l0), (3, l1), (3, l2), (1, l3)] [] σ r :=
  miter_ok (G := fun (s : Int × mS) r => mG (d + 1) 237 10 [(3, l0), (3, l1), (3, l2), (1, s.1)] [] s.2 r) (K := (fun b r => r = b)) (fun s x r hs hx => TB_LAW_law_10 hC hs hx) mN _ b r h hk
set_option maxRecDepth 100000 in
theorem T_LAW_law_0 {d : Nat} (hC : ∀ k as σ p, C_LAWz k as σ = some p → mEx d k as σ p) {l0 : Int} {σ : mS} {b : Int × mS} {r : Int × mS} (h : M_LAW_law l0 σ = some b) (hk : (fun b r => r = b) b r) : mG (d + 1) 237 0 (mInit 4 [(3, l0)]) [] σ r := by
  refine mblk_ok1 P_LAW_law (F := F_LAW_law_0) (fun b r => r = b) hC ?_ (fun v σ b r hb hk => by cases hb; exact hk) _ 0 (mInit 4 [(3, l0)]) [] σ b r ((E_LAWz_0 l0 σ).trans h) hk
  intro i L st σ b r hb hk
  unfold F_LAW_law_0 at hb
  split at hb
  · have key : ∀ (k0 k1 k2 k3 : Int) (σ : mS) (b : Int × mS) (r : Int × mS), (M_LAW_law_10 k0 k1 k2 k3 σ) = some b → (fun b r => r = b) b r → mG (d + 1) 237 10 [(3, k0), (3, k1), (3, k2), (1, k3)] [] σ r := by
      intro k0 k1 k2 k3 σ b r hb hk
      exact (T_LAW_law_10 hC hb hk).lle (lle_cons (lle_cons (lle_cons (lle_cons lle_nil))))
    exact key _ _ _ _ σ b r hb hk
  · cases hb
set_option maxRecDepth 100000 in
theorem T_LAW_law {l0 : Int} {σ : mS} {r : Int × mS} (h : M_LAW_law l0 σ = some r) : mEx 129 237 [(3, l0)] σ r :=
  ⟨by rw [P_LAW_law]; exact Nat.le_of_ble_eq_true rfl, by rw [P_LAW_law]; exact T_LAW_law_0 TC_LAW_law h rfl⟩
end
