/-! the functions beside the machine: written by gen/corr.py -/
set_option maxRecDepth 100000 in
theorem P_Mo_wrong : mProg 148 = (c_Mo_wrong, 2) := rfl
set_option maxRecDepth 100000 in
theorem TC_Mo_wrong : ∀ k as σ p, C_Mo_wrong k as σ = some p → mEx 126 k as σ p := by
  intro k as σ p hp
  unfold C_Mo_wrong at hp
  split at hp
  · exact (T_Mo_isHour hp).up (Nat.le_of_ble_eq_true rfl)
  · exact (T_Mo_wrongIn hp).up (Nat.le_of_ble_eq_true rfl)
  · cases hp
set_option maxRecDepth 100000 in
theorem T_Mo_wrong_0 {d : Nat} (hC : ∀ k as σ p, C_Mo_wrong k as σ = some p → mEx d k as σ p) {l0 l1 : Int} {σ : mS} {b : Int × mS} {r : Int × mS} (h : M_Mo_wrong l0 l1 σ = some b) (hk : (fun b r => r = b) b r) : mG (d + 1) 148 0 (mInit 2 [(3, l0), (1, l1)]) [] σ r := by
  refine mblk_ok1 P_Mo_wrong (F := F_Mo_wrong_0) (fun b r => r = b) hC ?_ (fun v σ b r hb hk => by cases hb; exact hk) _ 0 (mInit 2 [(3, l0), (1, l1)]) [] σ b r ((E_Mo_wrong_0 l0 l1 σ).trans h) hk
  intro i L st σ b r hb hk
  cases hb
set_option maxRecDepth 100000 in
theorem T_Mo_wrong {l0 l1 : Int} {σ : mS} {r : Int × mS} (h : M_Mo_wrong l0 l1 σ = some r) : mEx 127 148 [(3, l0), (1, l1)] σ r :=
  ⟨by rw [P_Mo_wrong]; exact Nat.le_of_ble_eq_true rfl, by rw [P_Mo_wrong]; exact T_Mo_wrong_0 TC_Mo_wrong h rfl⟩
set_option maxRecDepth 100000 in
theorem P_Mo_fits : mProg 149 = (c_Mo_fits, 3) := rfl
set_option maxRecDepth 100000 in
theorem TC_Mo_fits : ∀ k as σ p, C_Mo_fits k as σ = some p → mEx 126 k as σ p := by
  intro k as σ p hp
  unfold C_Mo_fits at hp
  split at hp
  · exact (T_Mo_wrongIn hp).up (Nat.le_of_ble_eq_true rfl)
  · cases hp
set_option maxRecDepth 100000 in
theorem TB_Mo_fits_4 {d : Nat} (hC : ∀ k as σ p, C_Mo_fits k as σ = some p → mEx d k as σ p) {l0 l1 l2 : Int} {σ : mS} {b : ((Int × Int × mS) ⊕ (Int × mS))} {r : Int × mS} (h : B_Mo_fits_4 l0 l1 l2 σ = some b) (hk : (Sum.elim (fun (s : Int × Int × mS) r => mG (d + 1) 149 4 [(3, l0), (1, s.1), (1, s.2.1)] [] s.2.2 r) (fun b r => r = b)) b r) : mG (d + 1) 149 4 [(3, l0), (1, l1), (1, l2)] [] σ r := by
  refine mblk_ok2 P_Mo_fits (F := F_Mo_fits_4) (Sum.elim (fun (s : Int × Int × mS) r => mG (d + 1) 149 4 [(3, l0), (1, s.1), (1, s.2.1)] [] s.2.2 r) (fun b r => r = b)) [([4, 5, 6, 7, 8, 9, 10, 11, 12, 13, 14, 15, 16, 17, 18, 19, 20], [0])] [4, 5, 6, 7, 8, 9, 10, 11, 12, 13, 14, 15, 16, 17, 18, 19, 20, 21, 22] [(3, l0), (1, l1), (1, l2)] (by decide +kernel) rfl hC ?_ (fun v σ b r hb hk => by cases hb; exact hk) _ 4 [(3, l0), (1, l1), (1, l2)] [] σ b r rfl (mJ_self _ _ _) ((E_Mo_fits_4 l0 l1 l2 σ).trans h) hk
  intro i L st σ b r hj hb hk
  unfold F_Mo_fits_4 at hb
  split at hb
  · have key : ∀ (k0 k1 k2 : Int) (σ : mS) (b : ((Int × Int × mS) ⊕ (Int × mS))) (r : Int × mS), mJ [(3, l0), (1, l1), (1, l2)] 4 [(3, k0), (1, k1), (1, k2)] [([4, 5, 6, 7, 8, 9, 10, 11, 12, 13, 14, 15, 16, 17, 18, 19, 20], [0])] → (some (.inl (k1, k2, σ))) = some b → (Sum.elim (fun (s : Int × Int × mS) r => mG (d + 1) 149 4 [(3, l0), (1, s.1), (1, s.2.1)] [] s.2.2 r) (fun b r => r = b)) b r → mG (d + 1) 149 4 [(3, k0), (1, k1), (1, k2)] [] σ r := by
      intro k0 k1 k2 σ b r hj hb hk
      have e0 : k0 = l0 := (Prod.mk.inj (Option.some.inj ((hj.1 rfl).1))).2
      subst e0
      cases hb
      exact mG.lle hk (lle_cons (lle_cons (lle_cons lle_nil)))
    exact key _ _ _ σ b r hj hb hk
  · cases hb
set_option maxRecDepth 100000 in
theorem T_Mo_fits_4 {d : Nat} (hC : ∀ k as σ p, C_Mo_fits k as σ = some p → mEx d k as σ p) {l0 l1 l2 : Int} {σ : mS} {b : Int × mS} {r : Int × mS} (h : M_Mo_fits_4 l0 l1 l2 σ = some b) (hk : (fun b r => r = b) b r) : mG (d + 1) 149 4 [(3, l0), (1, l1), (1, l2)] [] σ r :=
  miter_ok (G := fun (s : Int × Int × mS) r => mG (d + 1) 149 4 [(3, l0), (1, s.1), (1, s.2.1)] [] s.2.2 r) (K := (fun b r => r = b)) (fun s x r hs hx => TB_Mo_fits_4 hC hs hx) mN _ b r h hk
set_option maxRecDepth 100000 in
theorem T_Mo_fits_0 {d : Nat} (hC : ∀ k as σ p, C_Mo_fits k as σ = some p → mEx d k as σ p) {l0 : Int} {σ : mS} {b : Int × mS} {r : Int × mS} (h : M_Mo_fits l0 σ = some b) (hk : (fun b r => r = b) b r) : mG (d + 1) 149 0 (mInit 3 [(3, l0)]) [] σ r := by
  refine mblk_ok1 P_Mo_fits (F := F_Mo_fits_0) (fun b r => r = b) hC ?_ (fun v σ b r hb hk => by cases hb; exact hk) _ 0 (mInit 3 [(3, l0)]) [] σ b r ((E_Mo_fits_0 l0 σ).trans h) hk
  intro i L st σ b r hb hk
  unfold F_Mo_fits_0 at hb
  split at hb
  · have key : ∀ (k0 k1 k2 : Int) (σ : mS) (b : Int × mS) (r : Int × mS), (M_Mo_fits_4 k0 k1 k2 σ) = some b → (fun b r => r = b) b r → mG (d + 1) 149 4 [(3, k0), (1, k1), (1, k2)] [] σ r := by
      intro k0 k1 k2 σ b r hb hk
      exact (T_Mo_fits_4 hC hb hk).lle (lle_cons (lle_cons (lle_cons lle_nil)))
    exact key _ _ _ σ b r hb hk
  · cases hb
set_option maxRecDepth 100000 in
theorem T_Mo_fits {l0 : Int} {σ : mS} {r : Int × mS} (h : M_Mo_fits l0 σ = some r) : mEx 127 149 [(3, l0)] σ r :=
  ⟨by rw [P_Mo_fits]; exact Nat.le_of_ble_eq_true rfl, by rw [P_Mo_fits]; exact T_Mo_fits_0 TC_Mo_fits h rfl⟩
set_option maxRecDepth 100000 in
theorem P_Mo_likely : mProg 150 = (c_Mo_likely, 5) := rfl
set_option maxRecDepth 100000 in
theorem TC_Mo_likely : ∀ k as σ p, C_Mo_likely k as σ = some p → mEx 126 k as σ p := by
  intro k as σ p hp
  unfold C_Mo_likely at hp
  split at hp
  · exact (T_Mo_wrongIn hp).up (Nat.le_of_ble_eq_true rfl)
  · cases hp
set_option maxRecDepth 100000 in
theorem TB_Mo_likely_6 {d : Nat} (hC : ∀ k as σ p, C_Mo_likely k as σ = some p → mEx d k as σ p) {l0 l1 l2 l3 : Int} {σ : mS} {b : ((Int × Int × Int × mS) ⊕ (Int × mS))} {r : Int × mS} (h : B_Mo_likely_6 l0 l1 l2 l3 σ = some b) (hk : (Sum.elim (fun (s : Int × Int × Int × mS) r => mG (d + 1) 150 6 [(3, l0), (1, s.1), (1, s.2.1), (1, s.2.2.1), (0, 0)] [] s.2.2.2 r) (fun b r => r = b)) b r) : mG (d + 1) 150 6 [(3, l0), (1, l1), (1, l2), (1, l3), (0, 0)] [] σ r := by
  refine mblk_ok2 P_Mo_likely (F := F_Mo_likely_6) (Sum.elim (fun (s : Int × Int × Int × mS) r => mG (d + 1) 150 6 [(3, l0), (1, s.1), (1, s.2.1), (1, s.2.2.1), (0, 0)] [] s.2.2.2 r) (fun b r => r = b)) [([6, 7, 8, 9, 10, 11, 12, 13, 14, 15, 16, 17, 18, 19, 20, 21, 22], [0])] [6, 7, 8, 9, 10, 11, 12, 13, 14, 15, 16, 17, 18, 19, 20, 21, 22, 23, 24] [(3, l0), (1, l1), (1, l2), (1, l3), (0, 0)] (by decide +kernel) rfl hC ?_ (fun v σ b r hb hk => by cases hb; exact hk) _ 6 [(3, l0), (1, l1), (1, l2), (1, l3), (0, 0)] [] σ b r rfl (mJ_self _ _ _) ((E_Mo_likely_6 l0 l1 l2 l3 σ).trans h) hk
  intro i L st σ b r hj hb hk
  unfold F_Mo_likely_6 at hb
  split at hb
  · have key : ∀ (k0 k1 k2 k3 : Int) (k4 : mV) (σ : mS) (b : ((Int × Int × Int × mS) ⊕ (Int × mS))) (r : Int × mS), mJ [(3, l0), (1, l1), (1, l2), (1, l3), (0, 0)] 6 [(3, k0), (1, k1), (1, k2), (1, k3), k4] [([6, 7, 8, 9, 10, 11, 12, 13, 14, 15, 16, 17, 18, 19, 20, 21, 22], [0])] → (some (.inl (k1, k2, k3, σ))) = some b → (Sum.elim (fun (s : Int × Int × Int × mS) r => mG (d + 1) 150 6 [(3, l0), (1, s.1), (1, s.2.1), (1, s.2.2.1), (0, 0)] [] s.2.2.2 r) (fun b r => r = b)) b r → mG (d + 1) 150 6 [(3, k0), (1, k1), (1, k2), (1, k3), k4] [] σ r := by
      intro k0 k1 k2 k3 k4 σ b r hj hb hk
      have e0 : k0 = l0 := (Prod.mk.inj (Option.some.inj ((hj.1 rfl).1))).2
      subst e0
      cases hb
      exact mG.lle hk (lle_cons (lle_cons (lle_cons (lle_cons (lle_dead lle_nil)))))
    exact key _ _ _ _ _ σ b r hj hb hk
  · cases hb
set_option maxRecDepth 100000 in
theorem T_Mo_likely_6 {d : Nat} (hC : ∀ k as σ p, C_Mo_likely k as σ = some p → mEx d k as σ p) {l0 l1 l2 l3 : Int} {σ : mS} {b : Int × mS} {r : Int × mS} (h : M_Mo_likely_6 l0 l1 l2 l3 σ = some b) (hk : (fun b r => r = b) b r) : mG (d + 1) 150 6 [(3, l0), (1, l1), (1, l2), (1, l3), (0, 0)] [] σ r :=
  miter_ok (G := fun (s : Int × Int × Int × mS) r => mG (d + 1) 150 6 [(3, l0), (1, s.1), (1, s.2.1), (1, s.2.2.1), (0, 0)] [] s.2.2.2 r) (K := (fun b r => r = b)) (fun s x r hs hx => TB_Mo_likely_6 hC hs hx) mN _ b r h hk
set_option maxRecDepth 100000 in
theorem T_Mo_likely_0 {d : Nat} (hC : ∀ k as σ p, C_Mo_likely k as σ = some p → mEx d k as σ p) {l0 : Int} {σ : mS} {b : Int × mS} {r : Int × mS} (h : M_Mo_likely l0 σ = some b) (hk : (fun b r => r = b) b r) : mG (d + 1) 150 0 (mInit 5 [(3, l0)]) [] σ r := by
  refine mblk_ok1 P_Mo_likely (F := F_Mo_likely_0) (fun b r => r = b) hC ?_ (fun v σ b r hb hk => by cases hb; exact hk) _ 0 (mInit 5 [(3, l0)]) [] σ b r ((E_Mo_likely_0 l0 σ).trans h) hk
  intro i L st σ b r hb hk
  unfold F_Mo_likely_0 at hb
  split at hb
  · have key : ∀ (k0 k1 k2 k3 : Int) (k4 : mV) (σ : mS) (b : Int × mS) (r : Int × mS), (M_Mo_likely_6 k0 k1 k2 k3 σ) = some b → (fun b r => r = b) b r → mG (d + 1) 150 6 [(3, k0), (1, k1), (1, k2), (1, k3), k4] [] σ r := by
      intro k0 k1 k2 k3 k4 σ b r hb hk
      exact (T_Mo_likely_6 hC hb hk).lle (lle_cons (lle_cons (lle_cons (lle_cons (lle_dead lle_nil)))))
    exact key _ _ _ _ _ σ b r hb hk
  · cases hb
set_option maxRecDepth 100000 in
theorem T_Mo_likely {l0 : Int} {σ : mS} {r : Int × mS} (h : M_Mo_likely l0 σ = some r) : mEx 127 150 [(3, l0)] σ r :=
  ⟨by rw [P_Mo_likely]; exact Nat.le_of_ble_eq_true rfl, by rw [P_Mo_likely]; exact T_Mo_likely_0 TC_Mo_likely h rfl⟩
set_option maxRecDepth 100000 in
theorem P_Mo_tremble : mProg 151 = (c_Mo_tremble, 9) := rfl
set_option maxRecDepth 100000 in
theorem TC_Mo_tremble : ∀ k as σ p, C_Mo_tremble k as σ = some p → mEx 126 k as σ p := by
  intro k as σ p hp
  unfold C_Mo_tremble at hp
  split at hp
  · exact (T_Mo_lies hp).up (Nat.le_of_ble_eq_true rfl)
  · exact (T_Mo_refuses hp).up (Nat.le_of_ble_eq_true rfl)
  · exact (T_Mo_good hp).up (Nat.le_of_ble_eq_true rfl)
  · exact (T_Mo_isAngle hp).up (Nat.le_of_ble_eq_true rfl)
  · exact (T_Mo_goes hp).up (Nat.le_of_ble_eq_true rfl)
  · exact (T_Mo_goesNow hp).up (Nat.le_of_ble_eq_true rfl)
  · cases hp
set_option maxRecDepth 100000 in
theorem TB_Mo_tremble_41 {d : Nat} (hC : ∀ k as σ p, C_Mo_tremble k as σ = some p → mEx d k as σ p) {l0 l2 l3 l4 l5 l6 l7 l8 : Int} {σ : mS} {b : ((Int × Int × mS) ⊕ (Int × mS))} {r : Int × mS} (h : B_Mo_tremble_41 l0 l2 l3 l4 l5 l6 l7 l8 σ = some b) (hk : (Sum.elim (fun (s : Int × Int × mS) r => mG (d + 1) 151 41 [(3, l0), (0, 0), (1, l2), (1, l3), (1, l4), (1, l5), (1, l6), (1, s.1), (1, s.2.1)] [] s.2.2 r) (fun b r => r = b)) b r) : mG (d + 1) 151 41 [(3, l0), (0, 0), (1, l2), (1, l3), (1, l4), (1, l5), (1, l6), (1, l7), (1, l8)] [] σ r := by
  refine mblk_ok2 P_Mo_tremble (F := F_Mo_tremble_41) (Sum.elim (fun (s : Int × Int × mS) r => mG (d + 1) 151 41 [(3, l0), (0, 0), (1, l2), (1, l3), (1, l4), (1, l5), (1, l6), (1, s.1), (1, s.2.1)] [] s.2.2 r) (fun b r => r = b)) [([41, 42, 43, 44, 45, 46, 47, 48, 49, 50, 51, 52, 53, 54, 55, 56, 57, 58, 59, 60, 61, 62, 63, 64, 65, 66, 67, 68, 69, 70, 71, 72, 73, 74, 75, 76, 77, 78, 79, 80, 81, 82, 83, 84, 85, 86, 87, 88], [0, 2, 3, 4, 5, 6])] [41, 42, 43, 44, 45, 46, 47, 48, 49, 50, 51, 52, 53, 54, 55, 56, 57, 58, 59, 60, 61, 62, 63, 64, 65, 66, 67, 68, 69, 70, 71, 72, 73, 74, 75, 76, 77, 78, 79, 80, 81, 82, 83, 84, 85, 86, 87, 88, 89, 90, 91, 92] [(3, l0), (0, 0), (1, l2), (1, l3), (1, l4), (1, l5), (1, l6), (1, l7), (1, l8)] (by decide +kernel) rfl hC ?_ (fun v σ b r hb hk => by cases hb; exact hk) _ 41 [(3, l0), (0, 0), (1, l2), (1, l3), (1, l4), (1, l5), (1, l6), (1, l7), (1, l8)] [] σ b r rfl (mJ_self _ _ _) ((E_Mo_tremble_41 l0 l2 l3 l4 l5 l6 l7 l8 σ).trans h) hk
  intro i L st σ b r hj hb hk
  unfold F_Mo_tremble_41 at hb
  split at hb
  · have key : ∀ (k0 k2 k3 k4 k5 k6 k7 k8 : Int) (k1 : mV) (σ : mS) (b : ((Int × Int × mS) ⊕ (Int × mS))) (r : Int × mS), mJ [(3, l0), (0, 0), (1, l2), (1, l3), (1, l4), (1, l5), (1, l6), (1, l7), (1, l8)] 41 [(3, k0), k1, (1, k2), (1, k3), (1, k4), (1, k5), (1, k6), (1, k7), (1, k8)] [([41, 42, 43, 44, 45, 46, 47, 48, 49, 50, 51, 52, 53, 54, 55, 56, 57, 58, 59, 60, 61, 62, 63, 64, 65, 66, 67, 68, 69, 70, 71, 72, 73, 74, 75, 76, 77, 78, 79, 80, 81, 82, 83, 84, 85, 86, 87, 88], [0, 2, 3, 4, 5, 6])] → (some (.inl (k7, k8, σ))) = some b → (Sum.elim (fun (s : Int × Int × mS) r => mG (d + 1) 151 41 [(3, l0), (0, 0), (1, l2), (1, l3), (1, l4), (1, l5), (1, l6), (1, s.1), (1, s.2.1)] [] s.2.2 r) (fun b r => r = b)) b r → mG (d + 1) 151 41 [(3, k0), k1, (1, k2), (1, k3), (1, k4), (1, k5), (1, k6), (1, k7), (1, k8)] [] σ r := by
      intro k0 k2 k3 k4 k5 k6 k7 k8 k1 σ b r hj hb hk
      have e0 : k0 = l0 := (Prod.mk.inj (Option.some.inj ((hj.1 rfl).1))).2
      subst e0
      have e2 : k2 = l2 := (Prod.mk.inj (Option.some.inj ((hj.1 rfl).2.1))).2
      subst e2
      have e3 : k3 = l3 := (Prod.mk.inj (Option.some.inj ((hj.1 rfl).2.2.1))).2
      subst e3
      have e4 : k4 = l4 := (Prod.mk.inj (Option.some.inj ((hj.1 rfl).2.2.2.1))).2
      subst e4
      have e5 : k5 = l5 := (Prod.mk.inj (Option.some.inj ((hj.1 rfl).2.2.2.2.1))).2
      subst e5
      have e6 : k6 = l6 := (Prod.mk.inj (Option.some.inj ((hj.1 rfl).2.2.2.2.2.1))).2
      subst e6
      cases hb
      exact mG.lle hk (lle_cons (lle_dead (lle_cons (lle_cons (lle_cons (lle_cons (lle_cons (lle_cons (lle_cons lle_nil)))))))))
    exact key _ _ _ _ _ _ _ _ _ σ b r hj hb hk
  · cases hb
set_option maxRecDepth 100000 in
theorem T_Mo_tremble_41 {d : Nat} (hC : ∀ k as σ p, C_Mo_tremble k as σ = some p → mEx d k as σ p) {l0 l2 l3 l4 l5 l6 l7 l8 : Int} {σ : mS} {b : Int × mS} {r : Int × mS} (h : M_Mo_tremble_41 l0 l2 l3 l4 l5 l6 l7 l8 σ = some b) (hk : (fun b r => r = b) b r) : mG (d + 1) 151 41 [(3, l0), (0, 0), (1, l2), (1, l3), (1, l4), (1, l5), (1, l6), (1, l7), (1, l8)] [] σ r :=
  miter_ok (G := fun (s : Int × Int × mS) r => mG (d + 1) 151 41 [(3, l0), (0, 0), (1, l2), (1, l3), (1, l4), (1, l5), (1, l6), (1, s.1), (1, s.2.1)] [] s.2.2 r) (K := (fun b r => r = b)) (fun s x r hs hx => TB_Mo_tremble_41 hC hs hx) mN _ b r h hk
set_option maxRecDepth 100000 in
theorem T_Mo_tremble_0 {d : Nat} (hC : ∀ k as σ p, C_Mo_tremble k as σ = some p → mEx d k as σ p) {l0 l1 l2 l3 l4 : Int} {σ : mS} {b : Int × mS} {r : Int × mS} (h : M_Mo_tremble l0 l1 l2 l3 l4 σ = some b) (hk : (fun b r => r = b) b r) : mG (d + 1) 151 0 (mInit 9 [(3, l0), (1, l1), (1, l2), (1, l3), (1, l4)]) [] σ r := by
  refine mblk_ok1 P_Mo_tremble (F := F_Mo_tremble_0) (fun b r => r = b) hC ?_ (fun v σ b r hb hk => by cases hb; exact hk) _ 0 (mInit 9 [(3, l0), (1, l1), (1, l2), (1, l3), (1, l4)]) [] σ b r ((E_Mo_tremble_0 l0 l1 l2 l3 l4 σ).trans h) hk
  intro i L st σ b r hb hk
  unfold F_Mo_tremble_0 at hb
  split at hb
  · have key : ∀ (k0 k2 k3 k4 k5 k6 k7 k8 : Int) (k1 : mV) (σ : mS) (b : Int × mS) (r : Int × mS), (M_Mo_tremble_41 k0 k2 k3 k4 k5 k6 k7 k8 σ) = some b → (fun b r => r = b) b r → mG (d + 1) 151 41 [(3, k0), k1, (1, k2), (1, k3), (1, k4), (1, k5), (1, k6), (1, k7), (1, k8)] [] σ r := by
      intro k0 k2 k3 k4 k5 k6 k7 k8 k1 σ b r hb hk
      exact (T_Mo_tremble_41 hC hb hk).lle (lle_cons (lle_dead (lle_cons (lle_cons (lle_cons (lle_cons (lle_cons (lle_cons (lle_cons lle_nil)))))))))
    exact key _ _ _ _ _ _ _ _ _ σ b r hb hk
  · cases hb
set_option maxRecDepth 100000 in
theorem T_Mo_tremble {l0 l1 l2 l3 l4 : Int} {σ : mS} {r : Int × mS} (h : M_Mo_tremble l0 l1 l2 l3 l4 σ = some r) : mEx 127 151 [(3, l0), (1, l1), (1, l2), (1, l3), (1, l4)] σ r :=
  ⟨by rw [P_Mo_tremble]; exact Nat.le_of_ble_eq_true rfl, by rw [P_Mo_tremble]; exact T_Mo_tremble_0 TC_Mo_tremble h rfl⟩
set_option maxRecDepth 100000 in
theorem P_Mo_trembled : mProg 152 = (c_Mo_trembled, 3) := rfl
set_option maxRecDepth 100000 in
theorem TC_Mo_trembled : ∀ k as σ p, C_Mo_trembled k as σ = some p → mEx 1 k as σ p := by
  intro k as σ p hp
  unfold C_Mo_trembled at hp
  split at hp
  · exact (T_Mo_lies hp).up (Nat.le_of_ble_eq_true rfl)
  · cases hp
set_option maxRecDepth 100000 in
theorem T_Mo_trembled_0 {d : Nat} (hC : ∀ k as σ p, C_Mo_trembled k as σ = some p → mEx d k as σ p) {l0 l1 l2 : Int} {σ : mS} {b : Int × mS} {r : Int × mS} (h : M_Mo_trembled l0 l1 l2 σ = some b) (hk : (fun b r => r = b) b r) : mG (d + 1) 152 0 (mInit 3 [(3, l0), (1, l1), (1, l2)]) [] σ r := by
  refine mblk_ok1 P_Mo_trembled (F := F_Mo_trembled_0) (fun b r => r = b) hC ?_ (fun v σ b r hb hk => by cases hb; exact hk) _ 0 (mInit 3 [(3, l0), (1, l1), (1, l2)]) [] σ b r ((E_Mo_trembled_0 l0 l1 l2 σ).trans h) hk
  intro i L st σ b r hb hk
  cases hb
set_option maxRecDepth 100000 in
theorem T_Mo_trembled {l0 l1 l2 : Int} {σ : mS} {r : Int × mS} (h : M_Mo_trembled l0 l1 l2 σ = some r) : mEx 2 152 [(3, l0), (1, l1), (1, l2)] σ r :=
  ⟨by rw [P_Mo_trembled]; exact Nat.le_of_ble_eq_true rfl, by rw [P_Mo_trembled]; exact T_Mo_trembled_0 TC_Mo_trembled h rfl⟩
set_option maxRecDepth 100000 in
theorem P_Mo_count : mProg 153 = (c_Mo_count, 4) := rfl
set_option maxRecDepth 100000 in
theorem TC_Mo_count : ∀ k as σ p, C_Mo_count k as σ = some p → mEx 1 k as σ p := by
  intro k as σ p hp
  unfold C_Mo_count at hp
  split at hp
  · exact (T_Mo_riseOf hp).up (Nat.le_of_ble_eq_true rfl)
  · cases hp
set_option maxRecDepth 100000 in
theorem TB_Mo_count_4 {d : Nat} (hC : ∀ k as σ p, C_Mo_count k as σ = some p → mEx d k as σ p) {l0 l1 l2 l3 : Int} {σ : mS} {b : ((Int × Int × mS) ⊕ (Int × mS))} {r : Int × mS} (h : B_Mo_count_4 l0 l1 l2 l3 σ = some b) (hk : (Sum.elim (fun (s : Int × Int × mS) r => mG (d + 1) 153 4 [(3, l0), (1, l1), (1, s.1), (1, s.2.1)] [] s.2.2 r) (fun b r => r = b)) b r) : mG (d + 1) 153 4 [(3, l0), (1, l1), (1, l2), (1, l3)] [] σ r := by
  refine mblk_ok2 P_Mo_count (F := F_Mo_count_4) (Sum.elim (fun (s : Int × Int × mS) r => mG (d + 1) 153 4 [(3, l0), (1, l1), (1, s.1), (1, s.2.1)] [] s.2.2 r) (fun b r => r = b)) [([4, 5, 6, 7, 8, 9, 10, 11, 12, 13, 14, 15, 16, 17, 18], [0, 1])] [4, 5, 6, 7, 8, 9, 10, 11, 12, 13, 14, 15, 16, 17, 18, 19, 20, 21, 22, 23, 24, 25, 26, 27, 28, 29, 30, 31, 32, 33, 34, 35, 36, 37, 38, 39, 40, 41, 42, 43, 44, 45, 46, 47, 48, 49, 50, 51, 52, 53, 54, 55, 56, 57, 58, 59, 60, 61, 62, 63, 64, 65, 66, 67, 68, 69, 70, 71, 72, 73] [(3, l0), (1, l1), (1, l2), (1, l3)] (by decide +kernel) rfl hC ?_ (fun v σ b r hb hk => by cases hb; exact hk) _ 4 [(3, l0), (1, l1), (1, l2), (1, l3)] [] σ b r rfl (mJ_self _ _ _) ((E_Mo_count_4 l0 l1 l2 l3 σ).trans h) hk
  intro i L st σ b r hj hb hk
  unfold F_Mo_count_4 at hb
  split at hb
  · have key : ∀ (k0 k1 k2 k3 : Int) (σ : mS) (b : ((Int × Int × mS) ⊕ (Int × mS))) (r : Int × mS), mJ [(3, l0), (1, l1), (1, l2), (1, l3)] 4 [(3, k0), (1, k1), (1, k2), (1, k3)] [([4, 5, 6, 7, 8, 9, 10, 11, 12, 13, 14, 15, 16, 17, 18], [0, 1])] → (some (.inl (k2, k3, σ))) = some b → (Sum.elim (fun (s : Int × Int × mS) r => mG (d + 1) 153 4 [(3, l0), (1, l1), (1, s.1), (1, s.2.1)] [] s.2.2 r) (fun b r => r = b)) b r → mG (d + 1) 153 4 [(3, k0), (1, k1), (1, k2), (1, k3)] [] σ r := by
      intro k0 k1 k2 k3 σ b r hj hb hk
      have e0 : k0 = l0 := (Prod.mk.inj (Option.some.inj ((hj.1 rfl).1))).2
      subst e0
      have e1 : k1 = l1 := (Prod.mk.inj (Option.some.inj ((hj.1 rfl).2.1))).2
      subst e1
      cases hb
      exact mG.lle hk (lle_cons (lle_cons (lle_cons (lle_cons lle_nil))))
    exact key _ _ _ _ σ b r hj hb hk
  · cases hb
set_option maxRecDepth 100000 in
theorem T_Mo_count_4 {d : Nat} (hC : ∀ k as σ p, C_Mo_count k as σ = some p → mEx d k as σ p) {l0 l1 l2 l3 : Int} {σ : mS} {b : Int × mS} {r : Int × mS} (h : M_Mo_count_4 l0 l1 l2 l3 σ = some b) (hk : (fun b r => r = b) b r) : mG (d + 1) 153 4 [(3, l0), (1, l1), (1, l2), (1, l3)] [] σ r :=
  miter_ok (G := fun (s : Int × Int × mS) r => mG (d + 1) 153 4 [(3, l0), (1, l1), (1, s.1), (1, s.2.1)] [] s.2.2 r) (K := (fun b r => r = b)) (fun s x r hs hx => TB_Mo_count_4 hC hs hx) mN _ b r h hk
set_option maxRecDepth 100000 in
theorem T_Mo_count_0 {d : Nat} (hC : ∀ k as σ p, C_Mo_count k as σ = some p → mEx d k as σ p) {l0 l1 : Int} {σ : mS} {b : Int × mS} {r : Int × mS} (h : M_Mo_count l0 l1 σ = some b) (hk : (fun b r => r = b) b r) : mG (d + 1) 153 0 (mInit 4 [(3, l0), (1, l1)]) [] σ r := by
  refine mblk_ok1 P_Mo_count (F := F_Mo_count_0) (fun b r => r = b) hC ?_ (fun v σ b r hb hk => by cases hb; exact hk) _ 0 (mInit 4 [(3, l0), (1, l1)]) [] σ b r ((E_Mo_count_0 l0 l1 σ).trans h) hk
  intro i L st σ b r hb hk
  unfold F_Mo_count_0 at hb
  split at hb
  · have key : ∀ (k0 k1 k2 k3 : Int) (σ : mS) (b : Int × mS) (r : Int × mS), (M_Mo_count_4 k0 k1 k2 k3 σ) = some b → (fun b r => r = b) b r → mG (d + 1) 153 4 [(3, k0), (1, k1), (1, k2), (1, k3)] [] σ r := by
      intro k0 k1 k2 k3 σ b r hb hk
      exact (T_Mo_count_4 hC hb hk).lle (lle_cons (lle_cons (lle_cons (lle_cons lle_nil))))
    exact key _ _ _ _ σ b r hb hk
  · cases hb
set_option maxRecDepth 100000 in
theorem T_Mo_count {l0 l1 : Int} {σ : mS} {r : Int × mS} (h : M_Mo_count l0 l1 σ = some r) : mEx 2 153 [(3, l0), (1, l1)] σ r :=
  ⟨by rw [P_Mo_count]; exact Nat.le_of_ble_eq_true rfl, by rw [P_Mo_count]; exact T_Mo_count_0 TC_Mo_count h rfl⟩
set_option maxRecDepth 100000 in
theorem P_Mo_status : mProg 154 = (c_Mo_status, 1) := rfl
set_option maxRecDepth 100000 in
theorem TC_Mo_status : ∀ k as σ p, C_Mo_status k as σ = some p → mEx 0 k as σ p := by
  intro k as σ p hp
  cases hp
set_option maxRecDepth 100000 in
theorem T_Mo_status_0 {d : Nat} (hC : ∀ k as σ p, C_Mo_status k as σ = some p → mEx d k as σ p) {l0 : Int} {σ : mS} {b : Int × mS} {r : Int × mS} (h : M_Mo_status l0 σ = some b) (hk : (fun b r => r = b) b r) : mG (d + 1) 154 0 (mInit 1 [(3, l0)]) [] σ r := by
  refine mblk_ok1 P_Mo_status (F := F_Mo_status_0) (fun b r => r = b) hC ?_ (fun v σ b r hb hk => by cases hb; exact hk) _ 0 (mInit 1 [(3, l0)]) [] σ b r ((E_Mo_status_0 l0 σ).trans h) hk
  intro i L st σ b r hb hk
  cases hb
set_option maxRecDepth 100000 in
theorem T_Mo_status {l0 : Int} {σ : mS} {r : Int × mS} (h : M_Mo_status l0 σ = some r) : mEx 1 154 [(3, l0)] σ r :=
  ⟨by rw [P_Mo_status]; exact Nat.le_of_ble_eq_true rfl, by rw [P_Mo_status]; exact T_Mo_status_0 TC_Mo_status h rfl⟩
set_option maxRecDepth 100000 in
theorem P_LAW_law : mProg 237 = (c_LAW_law, 4) := rfl
set_option maxRecDepth 100000 in
theorem TC_LAW_law : ∀ k as σ p, C_LAW_law k as σ = some p → mEx 128 k as σ p := by
  intro k as σ p hp
  unfold C_LAW_law at hp
  split at hp
  · exact (T_RW_init hp).up (Nat.le_of_ble_eq_true rfl)
  · exact (T_RW_rise hp).up (Nat.le_of_ble_eq_true rfl)
  · exact (T_RW_ground hp).up (Nat.le_of_ble_eq_true rfl)
  · exact (T_RW_thing hp).up (Nat.le_of_ble_eq_true rfl)
  · exact (T_RW_move hp).up (Nat.le_of_ble_eq_true rfl)
  · exact (T_RW_of hp).up (Nat.le_of_ble_eq_true rfl)
  · exact (T_RW_terms hp).up (Nat.le_of_ble_eq_true rfl)
  · exact (T_RW_feed hp).up (Nat.le_of_ble_eq_true rfl)
  · exact (T_RW_end hp).up (Nat.le_of_ble_eq_true rfl)
  · exact (T_RW_row hp).up (Nat.le_of_ble_eq_true rfl)
  · exact (T_RW_worn hp).up (Nat.le_of_ble_eq_true rfl)
  · exact (T_RW_law hp).up (Nat.le_of_ble_eq_true rfl)
  · exact (T_RW_fault hp).up (Nat.le_of_ble_eq_true rfl)
  · exact (T_RW_force hp).up (Nat.le_of_ble_eq_true rfl)
  · exact (T_RW_warm hp).up (Nat.le_of_ble_eq_true rfl)
  · exact (T_RW_ray hp).up (Nat.le_of_ble_eq_true rfl)
  · exact (T_RW_at hp).up (Nat.le_of_ble_eq_true rfl)
  · exact (T_RW_seen hp).up (Nat.le_of_ble_eq_true rfl)
  · exact (T_RW_pictures hp).up (Nat.le_of_ble_eq_true rfl)
  · exact (T_RW_picture hp).up (Nat.le_of_ble_eq_true rfl)
  · exact (T_RW_hidden hp).up (Nat.le_of_ble_eq_true rfl)
  · exact (T_RW_water hp).up (Nat.le_of_ble_eq_true rfl)
  · exact (T_RW_horizon hp).up (Nat.le_of_ble_eq_true rfl)
  · exact (T_RW_aim hp).up (Nat.le_of_ble_eq_true rfl)
  · exact (T_RW_loom hp).up (Nat.le_of_ble_eq_true rfl)
  · exact (T_RW_shade hp).up (Nat.le_of_ble_eq_true rfl)
  · exact (T_RW_cross hp).up (Nat.le_of_ble_eq_true rfl)
  · exact (T_RW_hours hp).up (Nat.le_of_ble_eq_true rfl)
  · exact (T_RW_mark hp).up (Nat.le_of_ble_eq_true rfl)
  · exact (T_RW_level hp).up (Nat.le_of_ble_eq_true rfl)
  · exact (T_RW_best hp).up (Nat.le_of_ble_eq_true rfl)
  · exact (T_RW_eyes hp).up (Nat.le_of_ble_eq_true rfl)
  · exact (T_RW_where hp).up (Nat.le_of_ble_eq_true rfl)
  · exact (T_RW_sight hp).up (Nat.le_of_ble_eq_true rfl)
  · exact (T_RW_drop hp).up (Nat.le_of_ble_eq_true rfl)
  · exact (T_RW_wrong hp).up (Nat.le_of_ble_eq_true rfl)
  · exact (T_RW_fits hp).up (Nat.le_of_ble_eq_true rfl)
  · exact (T_RW_likely hp).up (Nat.le_of_ble_eq_true rfl)
  · exact (T_RW_tremble hp).up (Nat.le_of_ble_eq_true rfl)
  · exact (T_RW_trembled hp).up (Nat.le_of_ble_eq_true rfl)
  · exact (T_RW_image hp).up (Nat.le_of_ble_eq_true rfl)
  · exact (T_RW_back hp).up (Nat.le_of_ble_eq_true rfl)
  · exact (T_RW_count hp).up (Nat.le_of_ble_eq_true rfl)
  · exact (T_RW_status hp).up (Nat.le_of_ble_eq_true rfl)
  · exact (T_Mo_init hp).up (Nat.le_of_ble_eq_true rfl)
  · exact (T_Mo_image hp).up (Nat.le_of_ble_eq_true rfl)
  · exact (T_Mo_back hp).up (Nat.le_of_ble_eq_true rfl)
  · exact (T_Mo_rise hp).up (Nat.le_of_ble_eq_true rfl)
  · exact (T_Mo_ground hp).up (Nat.le_of_ble_eq_true rfl)
  · exact (T_Mo_thing hp).up (Nat.le_of_ble_eq_true rfl)
  · exact (T_Mo_move hp).up (Nat.le_of_ble_eq_true rfl)
  · exact (T_Mo_of hp).up (Nat.le_of_ble_eq_true rfl)
  · exact (T_Mo_terms hp).up (Nat.le_of_ble_eq_true rfl)
  · exact (T_Mo_row hp).up (Nat.le_of_ble_eq_true rfl)
  · exact (T_Mo_worn hp).up (Nat.le_of_ble_eq_true rfl)
  · exact (T_Mo_feed hp).up (Nat.le_of_ble_eq_true rfl)
  · exact (T_Mo_end hp).up (Nat.le_of_ble_eq_true rfl)
  · exact (T_Mo_law hp).up (Nat.le_of_ble_eq_true rfl)
  · exact (T_Mo_fault hp).up (Nat.le_of_ble_eq_true rfl)
  · exact (T_Mo_force hp).up (Nat.le_of_ble_eq_true rfl)
  · exact (T_Mo_warm hp).up (Nat.le_of_ble_eq_true rfl)
  · exact (T_Mo_ray hp).up (Nat.le_of_ble_eq_true rfl)
  · exact (T_Mo_at hp).up (Nat.le_of_ble_eq_true rfl)
  · exact (T_Mo_seen hp).up (Nat.le_of_ble_eq_true rfl)
  · exact (T_Mo_pictures hp).up (Nat.le_of_ble_eq_true rfl)
  · exact (T_Mo_picture hp).up (Nat.le_of_ble_eq_true rfl)
  · exact (T_Mo_hidden hp).up (Nat.le_of_ble_eq_true rfl)
  · exact (T_Mo_water hp).up (Nat.le_of_ble_eq_true rfl)
  · exact (T_Mo_horizon hp).up (Nat.le_of_ble_eq_true rfl)
  · exact (T_Mo_aim hp).up (Nat.le_of_ble_eq_true rfl)
  · exact (T_Mo_loom hp).up (Nat.le_of_ble_eq_true rfl)
  · exact (T_Mo_shade hp).up (Nat.le_of_ble_eq_true rfl)
  · exact (T_Mo_cross hp).up (Nat.le_of_ble_eq_true rfl)
  · exact (T_Mo_hours hp).up (Nat.le_of_ble_eq_true rfl)
  · exact (T_Mo_mark hp).up (Nat.le_of_ble_eq_true rfl)
  · exact (T_Mo_level hp).up (Nat.le_of_ble_eq_true rfl)
  · exact (T_Mo_best hp).up (Nat.le_of_ble_eq_true rfl)
  · exact (T_Mo_eyes hp).up (Nat.le_of_ble_eq_true rfl)
  · exact (T_Mo_where hp).up (Nat.le_of_ble_eq_true rfl)
  · exact (T_Mo_sight hp).up (Nat.le_of_ble_eq_true rfl)
  · exact (T_Mo_drop hp).up (Nat.le_of_ble_eq_true rfl)
  · exact (T_Mo_wrong hp).up (Nat.le_of_ble_eq_true rfl)
  · exact (T_Mo_fits hp).up (Nat.le_of_ble_eq_true rfl)
  · exact (T_Mo_likely hp).up (Nat.le_of_ble_eq_true rfl)
  · exact (T_Mo_tremble hp).up (Nat.le_of_ble_eq_true rfl)
  · exact (T_Mo_trembled hp).up (Nat.le_of_ble_eq_true rfl)
  · exact (T_Mo_count hp).up (Nat.le_of_ble_eq_true rfl)
  · exact (T_Mo_status hp).up (Nat.le_of_ble_eq_true rfl)
  · cases hp
set_option maxRecDepth 100000 in
theorem TB_LAW_law_10 {d : Nat} (hC : ∀ k as σ p, C_LAW_law k as σ = some p → mEx d k as σ p) {l0 l1 l2 l3 : Int} {σ : mS} {b : ((Int × mS) ⊕ (Int × mS))} {r : Int × mS} (h : B_LAW_law_10 l0 l1 l2 l3 σ = some b) (hk : (Sum.elim (fun (s : Int × mS) r => mG (d + 1) 237 10 [(3, l0), (3, l1), (3, l2), (1, s.1)] [] s.2 r) (fun b r => r = b)) b r) : mG (d + 1) 237 10 [(3, l0), (3, l1), (3, l2), (1, l3)] [] σ r := by
  refine mblk_ok2 P_LAW_law (F := F_LAW_law_10) (Sum.elim (fun (s : Int × mS) r => mG (d + 1) 237 10 [(3, l0), (3, l1), (3, l2), (1, s.1)] [] s.2 r) (fun b r => r = b)) [([10, 11, 12, 13, 14, 15, 16, 17, 18, 19, 20, 21, 22, 23, 24, 25, 26, 27, 28, 29, 30, 31, 32, 33, 34, 35, 36, 37, 38, 39, 40, 41, 42, 43, 44, 45, 46, 49, 50, 51, 52, 53, 54, 55, 56, 57, 58, 59, 60, 61, 62, 63, 64, 65, 66, 67, 68, 69, 70, 71, 72, 73, 74, 75, 76, 77, 78, 79, 80, 81, 82, 83, 86, 87, 88, 89, 90, 91, 92, 93, 94, 95, 96, 97, 98, 99, 100, 101, 102, 103, 104, 105, 106, 107, 108, 109, 110, 113, 114, 115, 116, 117, 118, 119, 120, 121, 122, 123, 124, 125, 126, 127, 128, 129, 130, 131, 132, 133, 134, 135, 136, 137, 140, 141, 142, 143, 144, 145, 146, 147, 148, 149, 150, 151, 152, 153, 154, 155, 156, 157, 158, 159, 160, 161, 162, 163, 164, 167, 168, 169, 170, 171, 172, 173, 174, 175, 176, 177, 178, 179, 180, 181, 182, 183, 184, 185, 186, 187, 188, 189, 190, 191, 194, 195, 196, 197, 198, 199, 200, 201, 202, 203, 204, 205, 206, 207, 208, 209, 210, 211, 212, 213, 214, 215, 216, 217, 218, 219, 220, 221, 222, 223, 224, 225, 226, 227, 228, 229, 230, 231, 232, 233, 234, 235, 236, 237, 238, 239, 240, 241, 242, 243, 244, 245, 246, 247, 248, 251, 252, 253, 254, 255, 256, 257, 258, 259, 260, 261, 262, 263, 264, 265, 268, 269, 270, 271, 272, 275, 276, 277, 278, 279, 282, 283, 284, 285, 286, 289, 290, 291, 292, 293, 296, 297, 298, 299, 300, 301, 302, 303, 304, 305, 306, 307, 308, 309, 310, 313, 314, 315, 316, 317, 318, 319, 320, 321, 322, 323, 324, 325, 326, 327, 328, 329, 330, 331, 332, 333, 334, 335, 336, 337, 338, 339, 340, 341, 342, 343, 344, 345, 346, 347, 350, 351, 352, 353, 354, 355, 356, 357, 358, 359, 360, 361, 362, 363, 364, 365, 366, 367, 368, 369, 370, 371, 372, 373, 374, 377, 378, 379, 380, 381, 382, 383, 384, 385, 386, 387, 388, 389, 390, 391, 392, 393, 394, 395, 396, 397, 398, 399, 400, 401, 404, 405, 406, 407, 408, 409, 410, 411, 412, 413, 414, 415, 416, 417, 418, 421, 422, 423, 424, 425, 426, 427, 428, 429, 430, 431, 432, 433, 434, 435, 438, 439, 440, 441, 442, 443, 444, 445, 446, 447, 448, 449, 450, 451, 452, 453, 454, 455, 456, 457, 458, 459, 460, 461, 462, 463, 464, 465, 466, 467, 468, 469, 470, 471, 472, 475, 476, 477, 478, 479, 480, 481, 482, 483, 484, 485, 486, 487, 488, 489, 492, 493, 494, 495, 496, 497, 498, 499, 500, 501, 502, 503, 504, 505, 506, 509, 510, 511, 512, 513, 516, 517, 518, 519, 520, 521, 522, 523, 524, 525, 526, 527, 528, 529, 530, 531, 532, 533, 534, 535, 536, 537, 538, 539, 540, 543, 544, 545, 546, 547, 548, 549, 550, 551, 552, 553, 554, 555, 556, 557, 558, 559, 560, 561, 562, 563, 564, 565, 566, 567, 570, 571, 572, 573, 574, 575, 576, 577, 578, 579, 580, 581, 582, 583, 584, 587, 588, 589, 590, 591, 592, 593, 594, 595, 596, 597, 598, 599, 600, 601, 602, 603, 604, 605, 606, 607, 608, 609, 610, 611, 614, 615, 616, 617, 618, 619, 620, 621, 622, 623, 624, 625, 626, 627, 628, 631, 632, 633, 634, 635, 636, 637, 638, 639, 640, 641, 642, 643, 644, 645, 646, 647, 648, 649, 650, 651, 652, 653, 654, 655, 658, 659, 660, 661, 662, 663, 664, 665, 666, 667, 668, 669, 670, 671, 672, 675, 676, 677, 678, 679, 680, 681, 682, 683, 684, 685, 686, 687, 688, 689, 692, 693, 694, 695, 696, 697, 698, 699, 700, 701, 702, 703, 704, 705, 706, 707, 708, 709, 710, 711, 712, 713, 714, 715, 716, 719, 720, 721, 722, 723, 724, 725, 726, 727, 728, 729, 730, 731, 732, 733, 734, 735, 736, 737, 738, 739, 740, 741, 742, 743, 746, 747, 748, 749, 750, 751, 752, 753, 754, 755, 756, 757, 758, 759, 760, 761, 762, 763, 764, 765, 766, 767, 768, 769, 770, 771, 772, 773, 774, 775, 776, 777, 778, 779, 780, 783, 784, 785, 786, 787, 788, 789, 790, 791, 792, 793, 794, 795, 796, 797, 800, 801, 802, 803, 804, 805, 806, 807, 808, 809, 810, 811, 812, 813, 814, 817, 818, 819, 820, 821, 824, 825, 826, 827, 828, 831, 832, 833, 834, 835, 836, 837, 838, 839, 840, 841, 842, 843, 844, 845, 846, 847, 848, 849, 850, 851, 852, 853, 854, 855, 856, 857, 858, 859, 860, 861, 862, 863, 864, 865, 866, 867, 868, 869, 870, 871, 872, 873, 874, 875, 878, 879, 880, 881, 882, 883, 884, 885, 886, 887, 888, 889, 890, 891, 892, 893, 894, 895, 896, 897, 898, 899, 900, 901, 902, 905, 906, 907, 908, 909, 910, 911, 912, 913, 914, 915, 916, 917, 918, 919, 922, 923, 924, 925, 926, 927, 928, 929, 930, 931, 932, 933, 934, 935, 936, 939, 940, 941, 942, 943, 944, 945, 946, 947, 948, 949, 950, 951, 952, 953, 956, 957, 958, 959, 960, 963, 964], [0, 1, 2])] [10, 11, 12, 13, 14, 15, 16, 17, 18, 19, 20, 21, 22, 23, 24, 25, 26, 27, 28, 29, 30, 31, 32, 33, 34, 35, 36, 37, 38, 39, 40, 41, 42, 43, 44, 45, 46, 47, 48, 49, 50, 51, 52, 53, 54, 55, 56, 57, 58, 59, 60, 61, 62, 63, 64, 65, 66, 67, 68, 69, 70, 71, 72, 73, 74, 75, 76, 77, 78, 79, 80, 81, 82, 83, 84, 85, 86, 87, 88, 89, 90, 91, 92, 93, 94, 95, 96, 97, 98, 99, 100, 101, 102, 103, 104, 105, 106, 107, 108, 109, 110, 111, 112, 113, 114, 115, 116, 117, 118, 119, 120, 121, 122, 123, 124, 125, 126, 127, 128, 129, 130, 131, 132, 133, 134, 135, 136, 137, 138, 139, 140, 141, 142, 143, 144, 145, 146, 147, 148, 149, 150, 151, 152, 153, 154, 155, 156, 157, 158, 159, 160, 161, 162, 163, 164, 165, 166, 167, 168, 169, 170, 171, 172, 173, 174, 175, 176, 177, 178, 179, 180, 181, 182, 183, 184, 185, 186, 187, 188, 189, 190, 191, 192, 193, 194, 195, 196, 197, 198, 199, 200, 201, 202, 203, 204, 205, 206, 207, 208, 209, 210, 211, 212, 213, 214, 215, 216, 217, 218, 219, 220, 221, 222, 223, 224, 225, 226, 227, 228, 229, 230, 231, 232, 233, 234, 235, 236, 237, 238, 239, 240, 241, 242, 243, 244, 245, 246, 247, 248, 249, 250, 251, 252, 253, 254, 255, 256, 257, 258, 259, 260, 261, 262, 263, 264, 265, 266, 267, 268, 269, 270, 271, 272, 273, 274, 275, 276, 277, 278, 279, 280, 281, 282, 283, 284, 285, 286, 287, 288, 289, 290, 291, 292, 293, 294, 295, 296, 297, 298, 299, 300, 301, 302, 303, 304, 305, 306, 307, 308, 309, 310, 311, 312, 313, 314, 315, 316, 317, 318, 319, 320, 321, 322, 323, 324, 325, 326, 327, 328, 329, 330, 331, 332, 333, 334, 335, 336, 337, 338, 339, 340, 341, 342, 343, 344, 345, 346, 347, 348, 349, 350, 351, 352, 353, 354, 355, 356, 357, 358, 359, 360, 361, 362, 363, 364, 365, 366, 367, 368, 369, 370, 371, 372, 373, 374, 375, 376, 377, 378, 379, 380, 381, 382, 383, 384, 385, 386, 387, 388, 389, 390, 391, 392, 393, 394, 395, 396, 397, 398, 399, 400, 401, 402, 403, 404, 405, 406, 407, 408, 409, 410, 411, 412, 413, 414, 415, 416, 417, 418, 419, 420, 421, 422, 423, 424, 425, 426, 427, 428, 429, 430, 431, 432, 433, 434, 435, 436, 437, 438, 439, 440, 441, 442, 443, 444, 445, 446, 447, 448, 449, 450, 451, 452, 453, 454, 455, 456, 457, 458, 459, 460, 461, 462, 463, 464, 465, 466, 467, 468, 469, 470, 471, 472, 473, 474, 475, 476, 477, 478, 479, 480, 481, 482, 483, 484, 485, 486, 487, 488, 489, 490, 491, 492, 493, 494, 495, 496, 497, 498, 499, 500, 501, 502, 503, 504, 505, 506, 507, 508, 509, 510, 511, 512, 513, 514, 515, 516, 517, 518, 519, 520, 521, 522, 523, 524, 525, 526, 527, 528, 529, 530, 531, 532, 533, 534, 535, 536, 537, 538, 539, 540, 541, 542, 543, 544, 545, 546, 547, 548, 549, 550, 551, 552, 553, 554, 555, 556, 557, 558, 559, 560, 561, 562, 563, 564, 565, 566, 567, 568, 569, 570, 571, 572, 573, 574, 575, 576, 577, 578, 579, 580, 581, 582, 583, 584, 585, 586, 587, 588, 589, 590, 591, 592, 593, 594, 595, 596, 597, 598, 599, 600, 601, 602, 603, 604, 605, 606, 607, 608, 609, 610, 611, 612, 613, 614, 615, 616, 617, 618, 619, 620, 621, 622, 623, 624, 625, 626, 627, 628, 629, 630, 631, 632, 633, 634, 635, 636, 637, 638, 639, 640, 641, 642, 643, 644, 645, 646, 647, 648, 649, 650, 651, 652, 653, 654, 655, 656, 657, 658, 659, 660, 661, 662, 663, 664, 665, 666, 667, 668, 669, 670, 671, 672, 673, 674, 675, 676, 677, 678, 679, 680, 681, 682, 683, 684, 685, 686, 687, 688, 689, 690, 691, 692, 693, 694, 695, 696, 697, 698, 699, 700, 701, 702, 703, 704, 705, 706, 707, 708, 709, 710, 711, 712, 713, 714, 715, 716, 717, 718, 719, 720, 721, 722, 723, 724, 725, 726, 727, 728, 729, 730, 731, 732, 733, 734, 735, 736, 737, 738, 739, 740, 741, 742, 743, 744, 745, 746, 747, 748, 749, 750, 751, 752, 753, 754, 755, 756, 757, 758, 759, 760, 761, 762, 763, 764, 765, 766, 767, 768, 769, 770, 771, 772, 773, 774, 775, 776, 777, 778, 779, 780, 781, 782, 783, 784, 785, 786, 787, 788, 789, 790, 791, 792, 793, 794, 795, 796, 797, 798, 799, 800, 801, 802, 803, 804, 805, 806, 807, 808, 809, 810, 811, 812, 813, 814, 815, 816, 817, 818, 819, 820, 821, 822, 823, 824, 825, 826, 827, 828, 829, 830, 831, 832, 833, 834, 835, 836, 837, 838, 839, 840, 841, 842, 843, 844, 845, 846, 847, 848, 849, 850, 851, 852, 853, 854, 855, 856, 857, 858, 859, 860, 861, 862, 863, 864, 865, 866, 867, 868, 869, 870, 871, 872, 873, 874, 875, 876, 877, 878, 879, 880, 881, 882, 883, 884, 885, 886, 887, 888, 889, 890, 891, 892, 893, 894, 895, 896, 897, 898, 899, 900, 901, 902, 903, 904, 905, 906, 907, 908, 909, 910, 911, 912, 913, 914, 915, 916, 917, 918, 919, 920, 921, 922, 923, 924, 925, 926, 927, 928, 929, 930, 931, 932, 933, 934, 935, 936, 937, 938, 939, 940, 941, 942, 943, 944, 945, 946, 947, 948, 949, 950, 951, 952, 953, 954, 955, 956, 957, 958, 959, 960, 961, 962, 963, 964, 965, 966] [(3, l0), (3, l1), (3, l2), (1, l3)] (by decide +kernel) rfl hC ?_ (fun v σ b r hb hk => by cases hb; exact hk) _ 10 [(3, l0), (3, l1), (3, l2), (1, l3)] [] σ b r rfl (mJ_self _ _ _) ((E_LAW_law_10 l0 l1 l2 l3 σ).trans h) hk
  intro i L st σ b r hj hb hk
  unfold F_LAW_law_10 at hb
  split at hb
  · have key : ∀ (k0 k1 k2 k3 : Int) (σ : mS) (b : ((Int × mS) ⊕ (Int × mS))) (r : Int × mS), mJ [(3, l0), (3, l1), (3, l2), (1, l3)] 10 [(3, k0), (3, k1), (3, k2), (1, k3)] [([10, 11, 12, 13, 14, 15, 16, 17, 18, 19, 20, 21, 22, 23, 24, 25, 26, 27, 28, 29, 30, 31, 32, 33, 34, 35, 36, 37, 38, 39, 40, 41, 42, 43, 44, 45, 46, 49, 50, 51, 52, 53, 54, 55, 56, 57, 58, 59, 60, 61, 62, 63, 64, 65, 66, 67, 68, 69, 70, 71, 72, 73, 74, 75, 76, 77, 78, 79, 80, 81, 82, 83, 86, 87, 88, 89, 90, 91, 92, 93, 94, 95, 96, 97, 98, 99, 100, 101, 102, 103, 104, 105, 106, 107, 108, 109, 110, 113, 114, 115, 116, 117, 118, 119, 120, 121, 122, 123, 124, 125, 126, 127, 128, 129, 130, 131, 132, 133, 134, 135, 136, 137, 140, 141, 142, 143, 144, 145, 146, 147, 148, 149, 150, 151, 152, 153, 154, 155, 156, 157, 158, 159, 160, 161, 162, 163, 164, 167, 168, 169, 170, 171, 172, 173, 174, 175, 176, 177, 178, 179, 180, 181, 182, 183, 184, 185, 186, 187, 188, 189, 190, 191, 194, 195, 196, 197, 198, 199, 200, 201, 202, 203, 204, 205, 206, 207, 208, 209, 210, 211, 212, 213, 214, 215, 216, 217, 218, 219, 220, 221, 222, 223, 224, 225, 226, 227, 228, 229, 230, 231, 232, 233, 234, 235, 236, 237, 238, 239, 240, 241, 242, 243, 244, 245, 246, 247, 248, 251, 252, 253, 254, 255, 256, 257, 258, 259, 260, 261, 262, 263, 264, 265, 268, 269, 270, 271, 272, 275, 276, 277, 278, 279, 282, 283, 284, 285, 286, 289, 290, 291, 292, 293, 296, 297, 298, 299, 300, 301, 302, 303, 304, 305, 306, 307, 308, 309, 310, 313, 314, 315, 316, 317, 318, 319, 320, 321, 322, 323, 324, 325, 326, 327, 328, 329, 330, 331, 332, 333, 334, 335, 336, 337, 338, 339, 340, 341, 342, 343, 344, 345, 346, 347, 350, 351, 352, 353, 354, 355, 356, 357, 358, 359, 360, 361, 362, 363, 364, 365, 366, 367, 368, 369, 370, 371, 372, 373, 374, 377, 378, 379, 380, 381, 382, 383, 384, 385, 386, 387, 388, 389, 390, 391, 392, 393, 394, 395, 396, 397, 398, 399, 400, 401, 404, 405, 406, 407, 408, 409, 410, 411, 412, 413, 414, 415, 416, 417, 418, 421, 422, 423, 424, 425, 426, 427, 428, 429, 430, 431, 432, 433, 434, 435, 438, 439, 440, 441, 442, 443, 444, 445, 446, 447, 448, 449, 450, 451, 452, 453, 454, 455, 456, 457, 458, 459, 460, 461, 462, 463, 464, 465, 466, 467, 468, 469, 470, 471, 472, 475, 476, 477, 478, 479, 480, 481, 482, 483, 484, 485, 486, 487, 488, 489, 492, 493, 494, 495, 496, 497, 498, 499, 500, 501, 502, 503, 504, 505, 506, 509, 510, 511, 512, 513, 516, 517, 518, 519, 520, 521, 522, 523, 524, 525, 526, 527, 528, 529, 530, 531, 532, 533, 534, 535, 536, 537, 538, 539, 540, 543, 544, 545, 546, 547, 548, 549, 550, 551, 552, 553, 554, 555, 556, 557, 558, 559, 560, 561, 562, 563, 564, 565, 566, 567, 570, 571, 572, 573, 574, 575, 576, 577, 578, 579, 580, 581, 582, 583, 584, 587, 588, 589, 590, 591, 592, 593, 594, 595, 596, 597, 598, 599, 600, 601, 602, 603, 604, 605, 606, 607, 608, 609, 610, 611, 614, 615, 616, 617, 618, 619, 620, 621, 622, 623, 624, 625, 626, 627, 628, 631, 632, 633, 634, 635, 636, 637, 638, 639, 640, 641, 642, 643, 644, 645, 646, 647, 648, 649, 650, 651, 652, 653, 654, 655, 658, 659, 660, 661, 662, 663, 664, 665, 666, 667, 668, 669, 670, 671, 672, 675, 676, 677, 678, 679, 680, 681, 682, 683, 684, 685, 686, 687, 688, 689, 692, 693, 694, 695, 696, 697, 698, 699, 700, 701, 702, 703, 704, 705, 706, 707, 708, 709, 710, 711, 712, 713, 714, 715, 716, 719, 720, 721, 722, 723, 724, 725, 726, 727, 728, 729, 730, 731, 732, 733, 734, 735, 736, 737, 738, 739, 740, 741, 742, 743, 746, 747, 748, 749, 750, 751, 752, 753, 754, 755, 756, 757, 758, 759, 760, 761, 762, 763, 764, 765, 766, 767, 768, 769, 770, 771, 772, 773, 774, 775, 776, 777, 778, 779, 780, 783, 784, 785, 786, 787, 788, 789, 790, 791, 792, 793, 794, 795, 796, 797, 800, 801, 802, 803, 804, 805, 806, 807, 808, 809, 810, 811, 812, 813, 814, 817, 818, 819, 820, 821, 824, 825, 826, 827, 828, 831, 832, 833, 834, 835, 836, 837, 838, 839, 840, 841, 842, 843, 844, 845, 846, 847, 848, 849, 850, 851, 852, 853, 854, 855, 856, 857, 858, 859, 860, 861, 862, 863, 864, 865, 866, 867, 868, 869, 870, 871, 872, 873, 874, 875, 878, 879, 880, 881, 882, 883, 884, 885, 886, 887, 888, 889, 890, 891, 892, 893, 894, 895, 896, 897, 898, 899, 900, 901, 902, 905, 906, 907, 908, 909, 910, 911, 912, 913, 914, 915, 916, 917, 918, 919, 922, 923, 924, 925, 926, 927, 928, 929, 930, 931, 932, 933, 934, 935, 936, 939, 940, 941, 942, 943, 944, 945, 946, 947, 948, 949, 950, 951, 952, 953, 956, 957, 958, 959, 960, 963, 964], [0, 1, 2])] → (some (.inl (k3, σ))) = some b → (Sum.elim (fun (s : Int × mS) r => mG (d + 1) 237 10 [(3, l0), (3, l1), (3, l2), (1, s.1)] [] s.2 r) (fun b r => r = b)) b r → mG (d + 1) 237 10 [(3, k0), (3, k1), (3, k2), (1, k3)] [] σ r := by
      intro k0 k1 k2 k3 σ b r hj hb hk
      have e0 : k0 = l0 := (Prod.mk.inj (Option.some.inj ((hj.1 rfl).1))).2
      subst e0
      have e1 : k1 = l1 := (Prod.mk.inj (Option.some.inj ((hj.1 rfl).2.1))).2
      subst e1
      have e2 : k2 = l2 := (Prod.mk.inj (Option.some.inj ((hj.1 rfl).2.2.1))).2
      subst e2
      cases hb
      exact mG.lle hk (lle_cons (lle_cons (lle_cons (lle_cons lle_nil))))
    exact key _ _ _ _ σ b r hj hb hk
  · cases hb
set_option maxRecDepth 100000 in
theorem T_LAW_law_10 {d : Nat} (hC : ∀ k as σ p, C_LAW_law k as σ = some p → mEx d k as σ p) {l0 l1 l2 l3 : Int} {σ : mS} {b : Int × mS} {r : Int × mS} (h : M_LAW_law_10 l0 l1 l2 l3 σ = some b) (hk : (fun b r => r = b) b r) : mG (d + 1) 237 10 [(3, l0), (3, l1), (3, l2), (1, l3)] [] σ r :=
  miter_ok (G := fun (s : Int × mS) r => mG (d + 1) 237 10 [(3, l0), (3, l1), (3, l2), (1, s.1)] [] s.2 r) (K := (fun b r => r = b)) (fun s x r hs hx => TB_LAW_law_10 hC hs hx) mN _ b r h hk
set_option maxRecDepth 100000 in
theorem T_LAW_law_0 {d : Nat} (hC : ∀ k as σ p, C_LAW_law k as σ = some p → mEx d k as σ p) {l0 : Int} {σ : mS} {b : Int × mS} {r : Int × mS} (h : M_LAW_law l0 σ = some b) (hk : (fun b r => r = b) b r) : mG (d + 1) 237 0 (mInit 4 [(3, l0)]) [] σ r := by
  refine mblk_ok1 P_LAW_law (F := F_LAW_law_0) (fun b r => r = b) hC ?_ (fun v σ b r hb hk => by cases hb; exact hk) _ 0 (mInit 4 [(3, l0)]) [] σ b r ((E_LAW_law_0 l0 σ).trans h) hk
  intro i L st σ b r hb hk
  unfold F_LAW_law_0 at hb
  split at hb
  · have key : ∀ (k0 k1 k2 k3 : Int) (σ : mS) (b : Int × mS) (r : Int × mS), (M_LAW_law_10 k0 k1 k2 k3 σ) = some b → (fun b r => r = b) b r → mG (d + 1) 237 10 [(3, k0), (3, k1), (3, k2), (1, k3)] [] σ r := by
      intro k0 k1 k2 k3 σ b r hb hk
      exact (T_LAW_law_10 hC hb hk).lle (lle_cons (lle_cons (lle_cons (lle_cons lle_nil))))
    exact key _ _ _ _ σ b r hb hk
  · cases hb
set_option maxRecDepth 100000 in
theorem T_LAW_law {l0 : Int} {σ : mS} {r : Int × mS} (h : M_LAW_law l0 σ = some r) : mEx 129 237 [(3, l0)] σ r :=
  ⟨by rw [P_LAW_law]; exact Nat.le_of_ble_eq_true rfl, by rw [P_LAW_law]; exact T_LAW_law_0 TC_LAW_law h rfl⟩
