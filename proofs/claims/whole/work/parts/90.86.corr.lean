/-! the functions beside the machine: written by gen/corr.py -/
set_option maxRecDepth 100000 in
theorem P_Mo_wrong : mProg 148 = (c_Mo_wrong, 2) := rfl
set_option maxRecDepth 100000 in
theorem TC_Mo_wrong : ∀ k as σ p, C_Mo_wrong k as σ = some p → mEx 126 k as σ p := by
  intro k as σ p hp
  unfold C_Mo_wrong at hp
  split at hp
  · exact (T_Mo_isHour hp).up (Nat.le_of_ble_eq_true rfl)
  · exact (T_Mo_wrongIn hp).up (Nat.le_of_ble_eq_true rfl)
  · cases hp
set_option maxRecDepth 100000 in
theorem T_Mo_wrong_0 {d : Nat} (hC : ∀ k as σ p, C_Mo_wrong k as σ = some p → mEx d k as σ p) {l0 l1 : Int} {σ : mS} {b : Int × mS} {r : Int × mS} (h : M_Mo_wrong l0 l1 σ = some b) (hk : (fun b r => r = b) b r) : mG (d + 1) 148 0 (mInit 2 [(3, l0), (1, l1)]) [] σ r := by
  refine mblk_ok1 P_Mo_wrong (F := F_Mo_wrong_0) (fun b r => r = b) hC ?_ (fun v σ b r hb hk => by cases hb; exact hk) _ 0 (mInit 2 [(3, l0), (1, l1)]) [] σ b r ((E_Mo_wrong_0 l0 l1 σ).trans h) hk
  intro i L st σ b r hb hk
  cases hb
set_option maxRecDepth 100000 in
theorem T_Mo_wrong {l0 l1 : Int} {σ : mS} {r : Int × mS} (h : M_Mo_wrong l0 l1 σ = some r) : mEx 127 148 [(3, l0), (1, l1)] σ r :=
  ⟨by rw [P_Mo_wrong]; exact Nat.le_of_ble_eq_true rfl, by rw [P_Mo_wrong]; exact T_Mo_wrong_0 TC_Mo_wrong h rfl⟩
set_option maxRecDepth 100000 in
theorem P_Mo_fits : mProg 149 = (c_Mo_fits, 3) := rfl
set_option maxRecDepth 100000 in
theorem TC_Mo_fits : ∀ k as σ p, C_Mo_fits k as σ = some p → mEx 126 k as σ p := by
  intro k as σ p hp
  unfold C_Mo_fits at hp
  split at hp
  · exact (T_Mo_wrongIn hp).up (Nat.le_of_ble_eq_true rfl)
  · cases hp
set_option maxRecDepth 100000 in
theorem TB_Mo_fits_4 {d : Nat} (hC : ∀ k as σ p, C_Mo_fits k as σ = some p → mEx d k as σ p) {l0 l1 l2 : Int} {σ : mS} {b : ((Int × Int × mS) ⊕ (Int × mS))} {r : Int × mS} (h : B_Mo_fits_4 l0 l1 l2 σ = some b) (hk : (Sum.elim (fun (s : Int × Int × mS) r => mG (d + 1) 149 4 [(3, l0), (1, s.1), (1, s.2.1)] [] s.2.2 r) (fun b r => r = b)) b r) : mG (d + 1) 149 4 [(3, l0), (1, l1), (1, l2)] [] σ r := by
  refine mblk_ok2 P_Mo_fits (F := F_Mo_fits_4) (Sum.elim (fun (s : Int × Int × mS) r => mG (d + 1) 149 4 [(3, l0), (1, s.1), (1, s.2.1)] [] s.2.2 r) (fun b r => r = b)) [([(4, 20)], [0])] [(4, 22)] [(3, l0), (1, l1), (1, l2)] (by decide +kernel) rfl hC ?_ (fun v σ b r hb hk => by cases hb; exact hk) _ 4 [(3, l0), (1, l1), (1, l2)] [] σ b r rfl (mJ_self _ _ _) ((E_Mo_fits_4 l0 l1 l2 σ).trans h) hk
  intro i L st σ b r hj hb hk
  unfold F_Mo_fits_4 at hb
  split at hb
  · have key : ∀ (k0 k1 k2 : Int) (σ : mS) (b : ((Int × Int × mS) ⊕ (Int × mS))) (r : Int × mS), mJ [(3, l0), (1, l1), (1, l2)] 4 [(3, k0), (1, k1), (1, k2)] [([(4, 20)], [0])] → (some (.inl (k1, k2, σ))) = some b → (Sum.elim (fun (s : Int × Int × mS) r => mG (d + 1) 149 4 [(3, l0), (1, s.1), (1, s.2.1)] [] s.2.2 r) (fun b r => r = b)) b r → mG (d + 1) 149 4 [(3, k0), (1, k1), (1, k2)] [] σ r := by
      intro k0 k1 k2 σ b r hj hb hk
      have e0 : k0 = l0 := (Prod.mk.inj (Option.some.inj ((hj.1 rfl).1))).2
      subst e0
      cases hb
      exact mG.lle hk (lle_cons (lle_cons (lle_cons lle_nil)))
    exact key _ _ _ σ b r hj hb hk
  · cases hb
set_option maxRecDepth 100000 in
theorem T_Mo_fits_4 {d : Nat} (hC : ∀ k as σ p, C_Mo_fits k as σ = some p → mEx d k as σ p) {l0 l1 l2 : Int} {σ : mS} {b : Int × mS} {r : Int × mS} (h : M_Mo_fits_4 l0 l1 l2 σ = some b) (hk : (fun b r => r = b) b r) : mG (d + 1) 149 4 [(3, l0), (1, l1), (1, l2)] [] σ r :=
  miter_ok (G := fun (s : Int × Int × mS) r => mG (d + 1) 149 4 [(3, l0), (1, s.1), (1, s.2.1)] [] s.2.2 r) (K := (fun b r => r = b)) (fun s x r hs hx => TB_Mo_fits_4 hC hs hx) mN _ b r h hk
set_option maxRecDepth 100000 in
theorem T_Mo_fits_0 {d : Nat} (hC : ∀ k as σ p, C_Mo_fits k as σ = some p → mEx d k as σ p) {l0 : Int} {σ : mS} {b : Int × mS} {r : Int × mS} (h : M_Mo_fits l0 σ = some b) (hk : (fun b r => r = b) b r) : mG (d + 1) 149 0 (mInit 3 [(3, l0)]) [] σ r := by
  refine mblk_ok1 P_Mo_fits (F := F_Mo_fits_0) (fun b r => r = b) hC ?_ (fun v σ b r hb hk => by cases hb; exact hk) _ 0 (mInit 3 [(3, l0)]) [] σ b r ((E_Mo_fits_0 l0 σ).trans h) hk
  intro i L st σ b r hb hk
  unfold F_Mo_fits_0 at hb
  split at hb
  · have key : ∀ (k0 k1 k2 : Int) (σ : mS) (b : Int × mS) (r : Int × mS), (M_Mo_fits_4 k0 k1 k2 σ) = some b → (fun b r => r = b) b r → mG (d + 1) 149 4 [(3, k0), (1, k1), (1, k2)] [] σ r := by
      intro k0 k1 k2 σ b r hb hk
      exact (T_Mo_fits_4 hC hb hk).lle (lle_cons (lle_cons (lle_cons lle_nil)))
    exact key _ _ _ σ b r hb hk
  · cases hb
set_option maxRecDepth 100000 in
theorem T_Mo_fits {l0 : Int} {σ : mS} {r : Int × mS} (h : M_Mo_fits l0 σ = some r) : mEx 127 149 [(3, l0)] σ r :=
  ⟨by rw [P_Mo_fits]; exact Nat.le_of_ble_eq_true rfl, by rw [P_Mo_fits]; exact T_Mo_fits_0 TC_Mo_fits h rfl⟩
set_option maxRecDepth 100000 in
theorem P_Mo_likely : mProg 150 = (c_Mo_likely, 5) := rfl
set_option maxRecDepth 100000 in
theorem TC_Mo_likely : ∀ k as σ p, C_Mo_likely k as σ = some p → mEx 126 k as σ p := by
  intro k as σ p hp
  unfold C_Mo_likely at hp
  split at hp
  · exact (T_Mo_wrongIn hp).up (Nat.le_of_ble_eq_true rfl)
  · cases hp
set_option maxRecDepth 100000 in
theorem TB_Mo_likely_6 {d : Nat} (hC : ∀ k as σ p, C_Mo_likely k as σ = some p → mEx d k as σ p) {l0 l1 l2 l3 : Int} {σ : mS} {b : ((Int × Int × Int × mS) ⊕ (Int × mS))} {r : Int × mS} (h : B_Mo_likely_6 l0 l1 l2 l3 σ = some b) (hk : (Sum.elim (fun (s : Int × Int × Int × mS) r => mG (d + 1) 150 6 [(3, l0), (1, s.1), (1, s.2.1), (1, s.2.2.1), (0, 0)] [] s.2.2.2 r) (fun b r => r = b)) b r) : mG (d + 1) 150 6 [(3, l0), (1, l1), (1, l2), (1, l3), (0, 0)] [] σ r := by
  refine mblk_ok2 P_Mo_likely (F := F_Mo_likely_6) (Sum.elim (fun (s : Int × Int × Int × mS) r => mG (d + 1) 150 6 [(3, l0), (1, s.1), (1, s.2.1), (1, s.2.2.1), (0, 0)] [] s.2.2.2 r) (fun b r => r = b)) [([(6, 22)], [0])] [(6, 24)] [(3, l0), (1, l1), (1, l2), (1, l3), (0, 0)] (by decide +kernel) rfl hC ?_ (fun v σ b r hb hk => by cases hb; exact hk) _ 6 [(3, l0), (1, l1), (1, l2), (1, l3), (0, 0)] [] σ b r rfl (mJ_self _ _ _) ((E_Mo_likely_6 l0 l1 l2 l3 σ).trans h) hk
  intro i L st σ b r hj hb hk
  unfold F_Mo_likely_6 at hb
  split at hb
  · have key : ∀ (k0 k1 k2 k3 : Int) (k4 : mV) (σ : mS) (b : ((Int × Int × Int × mS) ⊕ (Int × mS))) (r : Int × mS), mJ [(3, l0), (1, l1), (1, l2), (1, l3), (0, 0)] 6 [(3, k0), (1, k1), (1, k2), (1, k3), k4] [([(6, 22)], [0])] → (some (.inl (k1, k2, k3, σ))) = some b → (Sum.elim (fun (s : Int × Int × Int × mS) r => mG (d + 1) 150 6 [(3, l0), (1, s.1), (1, s.2.1), (1, s.2.2.1), (0, 0)] [] s.2.2.2 r) (fun b r => r = b)) b r → mG (d + 1) 150 6 [(3, k0), (1, k1), (1, k2), (1, k3), k4] [] σ r := by
      intro k0 k1 k2 k3 k4 σ b r hj hb hk
      have e0 : k0 = l0 := (Prod.mk.inj (Option.some.inj ((hj.1 rfl).1))).2
      subst e0
      cases hb
      exact mG.lle hk (lle_cons (lle_cons (lle_cons (lle_cons (lle_dead lle_nil)))))
    exact key _ _ _ _ _ σ b r hj hb hk
  · cases hb
set_option maxRecDepth 100000 in
theorem T_Mo_likely_6 {d : Nat} (hC : ∀ k as σ p, C_Mo_likely k as σ = some p → mEx d k as σ p) {l0 l1 l2 l3 : Int} {σ : mS} {b : Int × mS} {r : Int × mS} (h : M_Mo_likely_6 l0 l1 l2 l3 σ = some b) (hk : (fun b r => r = b) b r) : mG (d + 1) 150 6 [(3, l0), (1, l1), (1, l2), (1, l3), (0, 0)] [] σ r :=
  miter_ok (G := fun (s : Int × Int × Int × mS) r => mG (d + 1) 150 6 [(3, l0), (1, s.1), (1, s.2.1), (1, s.2.2.1), (0, 0)] [] s.2.2.2 r) (K := (fun b r => r = b)) (fun s x r hs hx => TB_Mo_likely_6 hC hs hx) mN _ b r h hk
set_option maxRecDepth 100000 in
theorem T_Mo_likely_0 {d : Nat} (hC : ∀ k as σ p, C_Mo_likely k as σ = some p → mEx d k as σ p) {l0 : Int} {σ : mS} {b : Int × mS} {r : Int × mS} (h : M_Mo_likely l0 σ = some b) (hk : (fun b r => r = b) b r) : mG (d + 1) 150 0 (mInit 5 [(3, l0)]) [] σ r := by
  refine mblk_ok1 P_Mo_likely (F := F_Mo_likely_0) (fun b r => r = b) hC ?_ (fun v σ b r hb hk => by cases hb; exact hk) _ 0 (mInit 5 [(3, l0)]) [] σ b r ((E_Mo_likely_0 l0 σ).trans h) hk
  intro i L st σ b r hb hk
  unfold F_Mo_likely_0 at hb
  split at hb
  · have key : ∀ (k0 k1 k2 k3 : Int) (k4 : mV) (σ : mS) (b : Int × mS) (r : Int × mS), (M_Mo_likely_6 k0 k1 k2 k3 σ) = some b → (fun b r => r = b) b r → mG (d + 1) 150 6 [(3, k0), (1, k1), (1, k2), (1, k3), k4] [] σ r := by
      intro k0 k1 k2 k3 k4 σ b r hb hk
      exact (T_Mo_likely_6 hC hb hk).lle (lle_cons (lle_cons (lle_cons (lle_cons (lle_dead lle_nil)))))
    exact key _ _ _ _ _ σ b r hb hk
  · cases hb
set_option maxRecDepth 100000 in
theorem T_Mo_likely {l0 : Int} {σ : mS} {r : Int × mS} (h : M_Mo_likely l0 σ = some r) : mEx 127 150 [(3, l0)] σ r :=
  ⟨by rw [P_Mo_likely]; exact Nat.le_of_ble_eq_true rfl, by rw [P_Mo_likely]; exact T_Mo_likely_0 TC_Mo_likely h rfl⟩
set_option maxRecDepth 100000 in
theorem P_Mo_tremble : mProg 151 = (c_Mo_tremble, 9) := rfl
set_option maxRecDepth 100000 in
theorem TC_Mo_tremble : ∀ k as σ p, C_Mo_tremble k as σ = some p → mEx 126 k as σ p := by
  intro k as σ p hp
  unfold C_Mo_tremble at hp
  split at hp
  · exact (T_Mo_lies hp).up (Nat.le_of_ble_eq_true rfl)
  · exact (T_Mo_refuses hp).up (Nat.le_of_ble_eq_true rfl)
  · exact (T_Mo_good hp).up (Nat.le_of_ble_eq_true rfl)
  · exact (T_Mo_isAngle hp).up (Nat.le_of_ble_eq_true rfl)
  · exact (T_Mo_goes hp).up (Nat.le_of_ble_eq_true rfl)
  · exact (T_Mo_goesNow hp).up (Nat.le_of_ble_eq_true rfl)
  · cases hp
set_option maxRecDepth 100000 in
theorem TB_Mo_tremble_41 {d : Nat} (hC : ∀ k as σ p, C_Mo_tremble k as σ = some p → mEx d k as σ p) {l0 l2 l3 l4 l5 l6 l7 l8 : Int} {σ : mS} {b : ((Int × Int × mS) ⊕ (Int × mS))} {r : Int × mS} (h : B_Mo_tremble_41 l0 l2 l3 l4 l5 l6 l7 l8 σ = some b) (hk : (Sum.elim (fun (s : Int × Int × mS) r => mG (d + 1) 151 41 [(3, l0), (0, 0), (1, l2), (1, l3), (1, l4), (1, l5), (1, l6), (1, s.1), (1, s.2.1)] [] s.2.2 r) (fun b r => r = b)) b r) : mG (d + 1) 151 41 [(3, l0), (0, 0), (1, l2), (1, l3), (1, l4), (1, l5), (1, l6), (1, l7), (1, l8)] [] σ r := by
  refine mblk_ok2 P_Mo_tremble (F := F_Mo_tremble_41) (Sum.elim (fun (s : Int × Int × mS) r => mG (d + 1) 151 41 [(3, l0), (0, 0), (1, l2), (1, l3), (1, l4), (1, l5), (1, l6), (1, s.1), (1, s.2.1)] [] s.2.2 r) (fun b r => r = b)) [([(41, 88)], [0, 2, 3, 4, 5, 6])] [(41, 92)] [(3, l0), (0, 0), (1, l2), (1, l3), (1, l4), (1, l5), (1, l6), (1, l7), (1, l8)] (by decide +kernel) rfl hC ?_ (fun v σ b r hb hk => by cases hb; exact hk) _ 41 [(3, l0), (0, 0), (1, l2), (1, l3), (1, l4), (1, l5), (1, l6), (1, l7), (1, l8)] [] σ b r rfl (mJ_self _ _ _) ((E_Mo_tremble_41 l0 l2 l3 l4 l5 l6 l7 l8 σ).trans h) hk
  intro i L st σ b r hj hb hk
  unfold F_Mo_tremble_41 at hb
  split at hb
  · have key : ∀ (k0 k2 k3 k4 k5 k6 k7 k8 : Int) (k1 : mV) (σ : mS) (b : ((Int × Int × mS) ⊕ (Int × mS))) (r : Int × mS), mJ [(3, l0), (0, 0), (1, l2), (1, l3), (1, l4), (1, l5), (1, l6), (1, l7), (1, l8)] 41 [(3, k0), k1, (1, k2), (1, k3), (1, k4), (1, k5), (1, k6), (1, k7), (1, k8)] [([(41, 88)], [0, 2, 3, 4, 5, 6])] → (some (.inl (k7, k8, σ))) = some b → (Sum.elim (fun (s : Int × Int × mS) r => mG (d + 1) 151 41 [(3, l0), (0, 0), (1, l2), (1, l3), (1, l4), (1, l5), (1, l6), (1, s.1), (1, s.2.1)] [] s.2.2 r) (fun b r => r = b)) b r → mG (d + 1) 151 41 [(3, k0), k1, (1, k2), (1, k3), (1, k4), (1, k5), (1, k6), (1, k7), (1, k8)] [] σ r := by
      intro k0 k2 k3 k4 k5 k6 k7 k8 k1 σ b r hj hb hk
      have e0 : k0 = l0 := (Prod.mk.inj (Option.some.inj ((hj.1 rfl).1))).2
      subst e0
      have e2 : k2 = l2 := (Prod.mk.inj (Option.some.inj ((hj.1 rfl).2.1))).2
      subst e2
      have e3 : k3 = l3 := (Prod.mk.inj (Option.some.inj ((hj.1 rfl).2.2.1))).2
      subst e3
      have e4 : k4 = l4 := (Prod.mk.inj (Option.some.inj ((hj.1 rfl).2.2.2.1))).2
      subst e4
      have e5 : k5 = l5 := (Prod.mk.inj (Option.some.inj ((hj.1 rfl).2.2.2.2.1))).2
      subst e5
      have e6 : k6 = l6 := (Prod.mk.inj (Option.some.inj ((hj.1 rfl).2.2.2.2.2.1))).2
      subst e6
      cases hb
      exact mG.lle hk (lle_cons (lle_dead (lle_cons (lle_cons (lle_cons (lle_cons (lle_cons (lle_cons (lle_cons lle_nil)))))))))
    exact key _ _ _ _ _ _ _ _ _ σ b r hj hb hk
  · cases hb
set_option maxRecDepth 100000 in
theorem T_Mo_tremble_41 {d : Nat} (hC : ∀ k as σ p, C_Mo_tremble k as σ = some p → mEx d k as σ p) {l0 l2 l3 l4 l5 l6 l7 l8 : Int} {σ : mS} {b : Int × mS} {r : Int × mS} (h : M_Mo_tremble_41 l0 l2 l3 l4 l5 l6 l7 l8 σ = some b) (hk : (fun b r => r = b) b r) : mG (d + 1) 151 41 [(3, l0), (0, 0), (1, l2), (1, l3), (1, l4), (1, l5), (1, l6), (1, l7), (1, l8)] [] σ r :=
  miter_ok (G := fun (s : Int × Int × mS) r => mG (d + 1) 151 41 [(3, l0), (0, 0), (1, l2), (1, l3), (1, l4), (1, l5), (1, l6), (1, s.1), (1, s.2.1)] [] s.2.2 r) (K := (fun b r => r = b)) (fun s x r hs hx => TB_Mo_tremble_41 hC hs hx) mN _ b r h hk
set_option maxRecDepth 100000 in
theorem T_Mo_tremble_0 {d : Nat} (hC : ∀ k as σ p, C_Mo_tremble k as σ = some p → mEx d k as σ p) {l0 l1 l2 l3 l4 : Int} {σ : mS} {b : Int × mS} {r : Int × mS} (h : M_Mo_tremble l0 l1 l2 l3 l4 σ = some b) (hk : (fun b r => r = b) b r) : mG (d + 1) 151 0 (mInit 9 [(3, l0), (1, l1), (1, l2), (1, l3), (1, l4)]) [] σ r := by
  refine mblk_ok1 P_Mo_tremble (F := F_Mo_tremble_0) (fun b r => r = b) hC ?_ (fun v σ b r hb hk => by cases hb; exact hk) _ 0 (mInit 9 [(3, l0), (1, l1), (1, l2), (1, l3), (1, l4)]) [] σ b r ((E_Mo_tremble_0 l0 l1 l2 l3 l4 σ).trans h) hk
  intro i L st σ b r hb hk
  unfold F_Mo_tremble_0 at hb
  split at hb
  · have key : ∀ (k0 k2 k3 k4 k5 k6 k7 k8 : Int) (k1 : mV) (σ : mS) (b : Int × mS) (r : Int × mS), (M_Mo_tremble_41 k0 k2 k3 k4 k5 k6 k7 k8 σ) = some b → (fun b r => r = b) b r → mG (d + 1) 151 41 [(3, k0), k1, (1, k2), (1, k3), (1, k4), (1, k5), (1, k6), (1, k7), (1, k8)] [] σ r := by
      intro k0 k2 k3 k4 k5 k6 k7 k8 k1 σ b r hb hk
      exact (T_Mo_tremble_41 hC hb hk).lle (lle_cons (lle_dead (lle_cons (lle_cons (lle_cons (lle_cons (lle_cons (lle_cons (lle_cons lle_nil)))))))))
    exact key _ _ _ _ _ _ _ _ _ σ b r hb hk
  · cases hb
set_option maxRecDepth 100000 in
theorem T_Mo_tremble {l0 l1 l2 l3 l4 : Int} {σ : mS} {r : Int × mS} (h : M_Mo_tremble l0 l1 l2 l3 l4 σ = some r) : mEx 127 151 [(3, l0), (1, l1), (1, l2), (1, l3), (1, l4)] σ r :=
  ⟨by rw [P_Mo_tremble]; exact Nat.le_of_ble_eq_true rfl, by rw [P_Mo_tremble]; exact T_Mo_tremble_0 TC_Mo_tremble h rfl⟩
set_option maxRecDepth 100000 in
theorem P_Mo_trembled : mProg 152 = (c_Mo_trembled, 3) := rfl
set_option maxRecDepth 100000 in
theorem TC_Mo_trembled : ∀ k as σ p, C_Mo_trembled k as σ = some p → mEx 1 k as σ p := by
  intro k as σ p hp
  unfold C_Mo_trembled at hp
  split at hp
  · exact (T_Mo_lies hp).up (Nat.le_of_ble_eq_true rfl)
  · cases hp
set_option maxRecDepth 100000 in
theorem T_Mo_trembled_0 {d : Nat} (hC : ∀ k as σ p, C_Mo_trembled k as σ = some p → mEx d k as σ p) {l0 l1 l2 : Int} {σ : mS} {b : Int × mS} {r : Int × mS} (h : M_Mo_trembled l0 l1 l2 σ = some b) (hk : (fun b r => r = b) b r) : mG (d + 1) 152 0 (mInit 3 [(3, l0), (1, l1), (1, l2)]) [] σ r := by
  refine mblk_ok1 P_Mo_trembled (F := F_Mo_trembled_0) (fun b r => r = b) hC ?_ (fun v σ b r hb hk => by cases hb; exact hk) _ 0 (mInit 3 [(3, l0), (1, l1), (1, l2)]) [] σ b r ((E_Mo_trembled_0 l0 l1 l2 σ).trans h) hk
  intro i L st σ b r hb hk
  cases hb
set_option maxRecDepth 100000 in
theorem T_Mo_trembled {l0 l1 l2 : Int} {σ : mS} {r : Int × mS} (h : M_Mo_trembled l0 l1 l2 σ = some r) : mEx 2 152 [(3, l0), (1, l1), (1, l2)] σ r :=
  ⟨by rw [P_Mo_trembled]; exact Nat.le_of_ble_eq_true rfl, by rw [P_Mo_trembled]; exact T_Mo_trembled_0 TC_Mo_trembled h rfl⟩
set_option maxRecDepth 100000 in
theorem P_Mo_count : mProg 153 = (c_Mo_count, 4) := rfl
set_option maxRecDepth 100000 in
theorem TC_Mo_count : ∀ k as σ p, C_Mo_count k as σ = some p → mEx 1 k as σ p := by
  intro k as σ p hp
  unfold C_Mo_count at hp
  split at hp
  · exact (T_Mo_riseOf hp).up (Nat.le_of_ble_eq_true rfl)
  · cases hp
set_option maxRecDepth 100000 in
theorem TB_Mo_count_4 {d : Nat} (hC : ∀ k as σ p, C_Mo_count k as σ = some p → mEx d k as σ p) {l0 l1 l2 l3 : Int} {σ : mS} {b : ((Int × Int × mS) ⊕ (Int × mS))} {r : Int × mS} (h : B_Mo_count_4 l0 l1 l2 l3 σ = some b) (hk : (Sum.elim (fun (s : Int × Int × mS) r => mG (d + 1) 153 4 [(3, l0), (1, l1), (1, s.1), (1, s.2.1)] [] s.2.2 r) (fun b r => r = b)) b r) : mG (d + 1) 153 4 [(3, l0), (1, l1), (1, l2), (1, l3)] [] σ r := by
  refine mblk_ok2 P_Mo_count (F := F_Mo_count_4) (Sum.elim (fun (s : Int × Int × mS) r => mG (d + 1) 153 4 [(3, l0), (1, l1), (1, s.1), (1, s.2.1)] [] s.2.2 r) (fun b r => r = b)) [([(4, 18)], [0, 1])] [(4, 73)] [(3, l0), (1, l1), (1, l2), (1, l3)] (by decide +kernel) rfl hC ?_ (fun v σ b r hb hk => by cases hb; exact hk) _ 4 [(3, l0), (1, l1), (1, l2), (1, l3)] [] σ b r rfl (mJ_self _ _ _) ((E_Mo_count_4 l0 l1 l2 l3 σ).trans h) hk
  intro i L st σ b r hj hb hk
  unfold F_Mo_count_4 at hb
  split at hb
  · have key : ∀ (k0 k1 k2 k3 : Int) (σ : mS) (b : ((Int × Int × mS) ⊕ (Int × mS))) (r : Int × mS), mJ [(3, l0), (1, l1), (1, l2), (1, l3)] 4 [(3, k0), (1, k1), (1, k2), (1, k3)] [([(4, 18)], [0, 1])] → (some (.inl (k2, k3, σ))) = some b → (Sum.elim (fun (s : Int × Int × mS) r => mG (d + 1) 153 4 [(3, l0), (1, l1), (1, s.1), (1, s.2.1)] [] s.2.2 r) (fun b r => r = b)) b r → mG (d + 1) 153 4 [(3, k0), (1, k1), (1, k2), (1, k3)] [] σ r := by
      intro k0 k1 k2 k3 σ b r hj hb hk
      have e0 : k0 = l0 := (Prod.mk.inj (Option.some.inj ((hj.1 rfl).1))).2
      subst e0
      have e1 : k1 = l1 := (Prod.mk.inj (Option.some.inj ((hj.1 rfl).2.1))).2
      subst e1
      cases hb
      exact mG.lle hk (lle_cons (lle_cons (lle_cons (lle_cons lle_nil))))
    exact key _ _ _ _ σ b r hj hb hk
  · cases hb
set_option maxRecDepth 100000 in
theorem T_Mo_count_4 {d : Nat} (hC : ∀ k as σ p, C_Mo_count k as σ = some p → mEx d k as σ p) {l0 l1 l2 l3 : Int} {σ : mS} {b : Int × mS} {r : Int × mS} (h : M_Mo_count_4 l0 l1 l2 l3 σ = some b) (hk : (fun b r => r = b) b r) : mG (d + 1) 153 4 [(3, l0), (1, l1), (1, l2), (1, l3)] [] σ r :=
  miter_ok (G := fun (s : Int × Int × mS) r => mG (d + 1) 153 4 [(3, l0), (1, l1), (1, s.1), (1, s.2.1)] [] s.2.2 r) (K := (fun b r => r = b)) (fun s x r hs hx => TB_Mo_count_4 hC hs hx) mN _ b r h hk
set_option maxRecDepth 100000 in
theorem T_Mo_count_0 {d : Nat} (hC : ∀ k as σ p, C_Mo_count k as σ = some p → mEx d k as σ p) {l0 l1 : Int} {σ : mS} {b : Int × mS} {r : Int × mS} (h : M_Mo_count l0 l1 σ = some b) (hk : (fun b r => r = b) b r) : mG (d + 1) 153 0 (mInit 4 [(3, l0), (1, l1)]) [] σ r := by
  refine mblk_ok1 P_Mo_count (F := F_Mo_count_0) (fun b r => r = b) hC ?_ (fun v σ b r hb hk => by cases hb; exact hk) _ 0 (mInit 4 [(3, l0), (1, l1)]) [] σ b r ((E_Mo_count_0 l0 l1 σ).trans h) hk
  intro i L st σ b r hb hk
  unfold F_Mo_count_0 at hb
  split at hb
  · have key : ∀ (k0 k1 k2 k3 : Int) (σ : mS) (b : Int × mS) (r : Int × mS), (M_Mo_count_4 k0 k1 k2 k3 σ) = some b → (fun b r => r = b) b r → mG (d + 1) 153 4 [(3, k0), (1, k1), (1, k2), (1, k3)] [] σ r := by
      intro k0 k1 k2 k3 σ b r hb hk
      exact (T_Mo_count_4 hC hb hk).lle (lle_cons (lle_cons (lle_cons (lle_cons lle_nil))))
    exact key _ _ _ _ σ b r hb hk
  · cases hb
set_option maxRecDepth 100000 in
theorem T_Mo_count {l0 l1 : Int} {σ : mS} {r : Int × mS} (h : M_Mo_count l0 l1 σ = some r) : mEx 2 153 [(3, l0), (1, l1)] σ r :=
  ⟨by rw [P_Mo_count]; exact Nat.le_of_ble_eq_true rfl, by rw [P_Mo_count]; exact T_Mo_count_0 TC_Mo_count h rfl⟩
set_option maxRecDepth 100000 in
theorem P_Mo_status : mProg 154 = (c_Mo_status, 1) := rfl
set_option maxRecDepth 100000 in
theorem TC_Mo_status : ∀ k as σ p, C_Mo_status k as σ = some p → mEx 0 k as σ p := by
  intro k as σ p hp
  cases hp
set_option maxRecDepth 100000 in
theorem T_Mo_status_0 {d : Nat} (hC : ∀ k as σ p, C_Mo_status k as σ = some p → mEx d k as σ p) {l0 : Int} {σ : mS} {b : Int × mS} {r : Int × mS} (h : M_Mo_status l0 σ = some b) (hk : (fun b r => r = b) b r) : mG (d + 1) 154 0 (mInit 1 [(3, l0)]) [] σ r := by
  refine mblk_ok1 P_Mo_status (F := F_Mo_status_0) (fun b r => r = b) hC ?_ (fun v σ b r hb hk => by cases hb; exact hk) _ 0 (mInit 1 [(3, l0)]) [] σ b r ((E_Mo_status_0 l0 σ).trans h) hk
  intro i L st σ b r hb hk
  cases hb
set_option maxRecDepth 100000 in
theorem T_Mo_status {l0 : Int} {σ : mS} {r : Int × mS} (h : M_Mo_status l0 σ = some r) : mEx 1 154 [(3, l0)] σ r :=
  ⟨by rw [P_Mo_status]; exact Nat.le_of_ble_eq_true rfl, by rw [P_Mo_status]; exact T_Mo_status_0 TC_Mo_status h rfl⟩
