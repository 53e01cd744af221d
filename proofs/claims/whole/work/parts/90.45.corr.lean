/-! the functions beside the machine: written by gen/corr.py -/
set_option maxRecDepth 100000 in
theorem P_Mo_warm : mProg 111 = (c_Mo_warm, 4) := rfl
set_option maxRecDepth 100000 in
theorem TC_Mo_warm : ∀ k as σ p, C_Mo_warm k as σ = some p → mEx 123 k as σ p := by
  intro k as σ p hp
  unfold C_Mo_warm at hp
  split at hp
  · exact (T_Mo_isPlace hp).up (Nat.le_of_ble_eq_true rfl)
  · exact (T_Mo_isInch hp).up (Nat.le_of_ble_eq_true rfl)
  · exact (T_Mo_isHour hp).up (Nat.le_of_ble_eq_true rfl)
  · exact (T_Mo_warmthOf hp).up (Nat.le_of_ble_eq_true rfl)
  · cases hp
set_option maxRecDepth 100000 in
theorem T_Mo_warm_0 {d : Nat} (hC : ∀ k as σ p, C_Mo_warm k as σ = some p → mEx d k as σ p) {l0 l1 l2 l3 : Int} {σ : mS} {b : Int × mS} {r : Int × mS} (h : M_Mo_warm l0 l1 l2 l3 σ = some b) (hk : (fun b r => r = b) b r) : mG (d + 1) 111 0 (mInit 4 [(3, l0), (1, l1), (1, l2), (1, l3)]) [] σ r := by
  refine mblk_ok1 P_Mo_warm (F := F_Mo_warm_0) (fun b r => r = b) hC ?_ (fun v σ b r hb hk => by cases hb; exact hk) _ 0 (mInit 4 [(3, l0), (1, l1), (1, l2), (1, l3)]) [] σ b r ((E_Mo_warm_0 l0 l1 l2 l3 σ).trans h) hk
  intro i L st σ b r hb hk
  cases hb
set_option maxRecDepth 100000 in
theorem T_Mo_warm {l0 l1 l2 l3 : Int} {σ : mS} {r : Int × mS} (h : M_Mo_warm l0 l1 l2 l3 σ = some r) : mEx 124 111 [(3, l0), (1, l1), (1, l2), (1, l3)] σ r :=
  ⟨by rw [P_Mo_warm]; exact Nat.le_of_ble_eq_true rfl, by rw [P_Mo_warm]; exact T_Mo_warm_0 TC_Mo_warm h rfl⟩
set_option maxRecDepth 100000 in
theorem P_Mo_warmer : mProg 112 = (c_Mo_warmer, 5) := rfl
set_option maxRecDepth 100000 in
theorem TC_Mo_warmer : ∀ k as σ p, C_Mo_warmer k as σ = some p → mEx 1 k as σ p := by
  intro k as σ p hp
  unfold C_Mo_warmer at hp
  split at hp
  · exact (T_Mo_nearest hp).up (Nat.le_of_ble_eq_true rfl)
  · cases hp
set_option maxRecDepth 100000 in
theorem T_Mo_warmer_0 {d : Nat} (hC : ∀ k as σ p, C_Mo_warmer k as σ = some p → mEx d k as σ p) {l0 l1 l2 l3 : Int} {σ : mS} {b : Int × mS} {r : Int × mS} (h : M_Mo_warmer l0 l1 l2 l3 σ = some b) (hk : (fun b r => r = b) b r) : mG (d + 1) 112 0 (mInit 5 [(3, l0), (1, l1), (1, l2), (1, l3)]) [] σ r := by
  refine mblk_ok1 P_Mo_warmer (F := F_Mo_warmer_0) (fun b r => r = b) hC ?_ (fun v σ b r hb hk => by cases hb; exact hk) _ 0 (mInit 5 [(3, l0), (1, l1), (1, l2), (1, l3)]) [] σ b r ((E_Mo_warmer_0 l0 l1 l2 l3 σ).trans h) hk
  intro i L st σ b r hb hk
  cases hb
set_option maxRecDepth 100000 in
theorem T_Mo_warmer {l0 l1 l2 l3 : Int} {σ : mS} {r : Int × mS} (h : M_Mo_warmer l0 l1 l2 l3 σ = some r) : mEx 2 112 [(3, l0), (1, l1), (1, l2), (1, l3)] σ r :=
  ⟨by rw [P_Mo_warmer]; exact Nat.le_of_ble_eq_true rfl, by rw [P_Mo_warmer]; exact T_Mo_warmer_0 TC_Mo_warmer h rfl⟩
set_option maxRecDepth 100000 in
theorem P_Mo_draws : mProg 113 = (c_Mo_draws, 2) := rfl
set_option maxRecDepth 100000 in
theorem TC_Mo_draws : ∀ k as σ p, C_Mo_draws k as σ = some p → mEx 0 k as σ p := by
  intro k as σ p hp
  cases hp
set_option maxRecDepth 100000 in
theorem T_Mo_draws_0 {d : Nat} (hC : ∀ k as σ p, C_Mo_draws k as σ = some p → mEx d k as σ p) {l0 l1 : Int} {σ : mS} {b : Int × mS} {r : Int × mS} (h : M_Mo_draws l0 l1 σ = some b) (hk : (fun b r => r = b) b r) : mG (d + 1) 113 0 (mInit 2 [(3, l0), (1, l1)]) [] σ r := by
  refine mblk_ok1 P_Mo_draws (F := F_Mo_draws_0) (fun b r => r = b) hC ?_ (fun v σ b r hb hk => by cases hb; exact hk) _ 0 (mInit 2 [(3, l0), (1, l1)]) [] σ b r ((E_Mo_draws_0 l0 l1 σ).trans h) hk
  intro i L st σ b r hb hk
  cases hb
set_option maxRecDepth 100000 in
theorem T_Mo_draws {l0 l1 : Int} {σ : mS} {r : Int × mS} (h : M_Mo_draws l0 l1 σ = some r) : mEx 1 113 [(3, l0), (1, l1)] σ r :=
  ⟨by rw [P_Mo_draws]; exact Nat.le_of_ble_eq_true rfl, by rw [P_Mo_draws]; exact T_Mo_draws_0 TC_Mo_draws h rfl⟩
set_option maxRecDepth 100000 in
theorem P_Mo_signOf : mProg 114 = (c_Mo_signOf, 1) := rfl
set_option maxRecDepth 100000 in
theorem TC_Mo_signOf : ∀ k as σ p, C_Mo_signOf k as σ = some p → mEx 0 k as σ p := by
  intro k as σ p hp
  cases hp
set_option maxRecDepth 100000 in
theorem T_Mo_signOf_0 {d : Nat} (hC : ∀ k as σ p, C_Mo_signOf k as σ = some p → mEx d k as σ p) {l0 : Int} {σ : mS} {b : Int × mS} {r : Int × mS} (h : M_Mo_signOf l0 σ = some b) (hk : (fun b r => r = b) b r) : mG (d + 1) 114 0 (mInit 1 [(1, l0)]) [] σ r := by
  refine mblk_ok1 P_Mo_signOf (F := F_Mo_signOf_0) (fun b r => r = b) hC ?_ (fun v σ b r hb hk => by cases hb; exact hk) _ 0 (mInit 1 [(1, l0)]) [] σ b r ((E_Mo_signOf_0 l0 σ).trans h) hk
  intro i L st σ b r hb hk
  cases hb
set_option maxRecDepth 100000 in
theorem T_Mo_signOf {l0 : Int} {σ : mS} {r : Int × mS} (h : M_Mo_signOf l0 σ = some r) : mEx 1 114 [(1, l0)] σ r :=
  ⟨by rw [P_Mo_signOf]; exact Nat.le_of_ble_eq_true rfl, by rw [P_Mo_signOf]; exact T_Mo_signOf_0 TC_Mo_signOf h rfl⟩
set_option maxRecDepth 100000 in
theorem P_Mo_ends : mProg 115 = (c_Mo_ends, 5) := rfl
set_option maxRecDepth 100000 in
theorem TC_Mo_ends : ∀ k as σ p, C_Mo_ends k as σ = some p → mEx 0 k as σ p := by
  intro k as σ p hp
  cases hp
set_option maxRecDepth 100000 in
theorem T_Mo_ends_0 {d : Nat} (hC : ∀ k as σ p, C_Mo_ends k as σ = some p → mEx d k as σ p) {l0 l1 l2 l3 l4 : Int} {σ : mS} {b : Int × mS} {r : Int × mS} (h : M_Mo_ends l0 l1 l2 l3 l4 σ = some b) (hk : (fun b r => r = b) b r) : mG (d + 1) 115 0 (mInit 5 [(3, l0), (1, l1), (1, l2), (1, l3), (1, l4)]) [] σ r := by
  refine mblk_ok1 P_Mo_ends (F := F_Mo_ends_0) (fun b r => r = b) hC ?_ (fun v σ b r hb hk => by cases hb; exact hk) _ 0 (mInit 5 [(3, l0), (1, l1), (1, l2), (1, l3), (1, l4)]) [] σ b r ((E_Mo_ends_0 l0 l1 l2 l3 l4 σ).trans h) hk
  intro i L st σ b r hb hk
  cases hb
set_option maxRecDepth 100000 in
theorem T_Mo_ends {l0 l1 l2 l3 l4 : Int} {σ : mS} {r : Int × mS} (h : M_Mo_ends l0 l1 l2 l3 l4 σ = some r) : mEx 1 115 [(3, l0), (1, l1), (1, l2), (1, l3), (1, l4)] σ r :=
  ⟨by rw [P_Mo_ends]; exact Nat.le_of_ble_eq_true rfl, by rw [P_Mo_ends]; exact T_Mo_ends_0 TC_Mo_ends h rfl⟩
set_option maxRecDepth 100000 in
theorem P_Mo_goes : mProg 116 = (c_Mo_goes, 13) := rfl
set_option maxRecDepth 100000 in
theorem TC_Mo_goes : ∀ k as σ p, C_Mo_goes k as σ = some p → mEx 124 k as σ p := by
  intro k as σ p hp
  unfold C_Mo_goes at hp
  split at hp
  · exact (T_Mo_nearest hp).up (Nat.le_of_ble_eq_true rfl)
  · exact (T_Mo_riseOf hp).up (Nat.le_of_ble_eq_true rfl)
  · exact (T_Mo_thingAt hp).up (Nat.le_of_ble_eq_true rfl)
  · exact (T_Mo_warms hp).up (Nat.le_of_ble_eq_true rfl)
  · exact (T_Mo_warmer hp).up (Nat.le_of_ble_eq_true rfl)
  · exact (T_Mo_draws hp).up (Nat.le_of_ble_eq_true rfl)
  · exact (T_Mo_signOf hp).up (Nat.le_of_ble_eq_true rfl)
  · exact (T_Mo_ends hp).up (Nat.le_of_ble_eq_true rfl)
  · cases hp
set_option maxRecDepth 100000 in
theorem T_Mo_goes_191 {d : Nat} (hC : ∀ k as σ p, C_Mo_goes k as σ = some p → mEx d k as σ p) {l0 l2 l3 l5 l6 l7 l8 l9 l12 s2 s1 s0 : Int} {σ : mS} {b : ((Int × Int × Int × Int × mS) ⊕ (Int × mS))} {r : Int × mS} (h : M_Mo_goes_191 l0 l2 l3 l5 l6 l7 l8 l9 l12 s2 s1 s0 σ = some b) (hk : (Sum.elim (fun (s : Int × Int × Int × Int × mS) r => mG (d + 1) 116 44 [(3, l0), (0, 0), (1, l2), (1, l3), (0, 0), (1, l5), (1, l6), (1, s.1), (1, s.2.1), (1, s.2.2.1), (1, s.2.2.2.1), (0, 0), (0, 0)] [] s.2.2.2.2 r) (fun b r => r = b)) b r) : mG (d + 1) 116 191 [(3, l0), (0, 0), (1, l2), (1, l3), (0, 0), (1, l5), (1, l6), (1, l7), (1, l8), (1, l9), (0, 0), (0, 0), (1, l12)] [(1, s2), (1, s1), (3, s0)] σ r := by
  refine mblk_ok2 P_Mo_goes (F := F_Mo_goes_191) (Sum.elim (fun (s : Int × Int × Int × Int × mS) r => mG (d + 1) 116 44 [(3, l0), (0, 0), (1, l2), (1, l3), (0, 0), (1, l5), (1, l6), (1, s.1), (1, s.2.1), (1, s.2.2.1), (1, s.2.2.2.1), (0, 0), (0, 0)] [] s.2.2.2.2 r) (fun b r => r = b)) [([(44, 201)], [0, 2, 3, 5, 6])] [(191, 201)] [(3, l0), (0, 0), (1, l2), (1, l3), (0, 0), (1, l5), (1, l6), (1, l7), (1, l8), (1, l9), (0, 0), (0, 0), (1, l12)] (by decide +kernel) rfl hC ?_ (fun v σ b r hb hk => by cases hb; exact hk) _ 191 [(3, l0), (0, 0), (1, l2), (1, l3), (0, 0), (1, l5), (1, l6), (1, l7), (1, l8), (1, l9), (0, 0), (0, 0), (1, l12)] [(1, s2), (1, s1), (3, s0)] σ b r rfl (mJ_self _ _ _) ((E_Mo_goes_191 l0 l2 l3 l5 l6 l7 l8 l9 l12 s2 s1 s0 σ).trans h) hk
  intro i L st σ b r hj hb hk
  unfold F_Mo_goes_191 at hb
  split at hb
  · have key : ∀ (k0 k2 k3 k5 k6 k7 k8 k9 k10 : Int) (k1 k4 k11 k12 : mV) (σ : mS) (b : ((Int × Int × Int × Int × mS) ⊕ (Int × mS))) (r : Int × mS), mJ [(3, l0), (0, 0), (1, l2), (1, l3), (0, 0), (1, l5), (1, l6), (1, l7), (1, l8), (1, l9), (0, 0), (0, 0), (1, l12)] 44 [(3, k0), k1, (1, k2), (1, k3), k4, (1, k5), (1, k6), (1, k7), (1, k8), (1, k9), (1, k10), k11, k12] [([(44, 201)], [0, 2, 3, 5, 6])] → (some (.inl (k7, k8, k9, k10, σ))) = some b → (Sum.elim (fun (s : Int × Int × Int × Int × mS) r => mG (d + 1) 116 44 [(3, l0), (0, 0), (1, l2), (1, l3), (0, 0), (1, l5), (1, l6), (1, s.1), (1, s.2.1), (1, s.2.2.1), (1, s.2.2.2.1), (0, 0), (0, 0)] [] s.2.2.2.2 r) (fun b r => r = b)) b r → mG (d + 1) 116 44 [(3, k0), k1, (1, k2), (1, k3), k4, (1, k5), (1, k6), (1, k7), (1, k8), (1, k9), (1, k10), k11, k12] [] σ r := by
      intro k0 k2 k3 k5 k6 k7 k8 k9 k10 k1 k4 k11 k12 σ b r hj hb hk
      have e0 : k0 = l0 := (Prod.mk.inj (Option.some.inj ((hj.1 rfl).1))).2
      subst e0
      have e2 : k2 = l2 := (Prod.mk.inj (Option.some.inj ((hj.1 rfl).2.1))).2
      subst e2
      have e3 : k3 = l3 := (Prod.mk.inj (Option.some.inj ((hj.1 rfl).2.2.1))).2
      subst e3
      have e5 : k5 = l5 := (Prod.mk.inj (Option.some.inj ((hj.1 rfl).2.2.2.1))).2
      subst e5
      have e6 : k6 = l6 := (Prod.mk.inj (Option.some.inj ((hj.1 rfl).2.2.2.2.1))).2
      subst e6
      cases hb
      exact mG.lle hk (lle_cons (lle_dead (lle_cons (lle_cons (lle_dead (lle_cons (lle_cons (lle_cons (lle_cons (lle_cons (lle_cons (lle_dead (lle_dead lle_nil)))))))))))))
    exact key _ _ _ _ _ _ _ _ _ _ _ _ _ σ b r hj hb hk
  · cases hb
set_option maxRecDepth 100000 in
theorem T_Mo_goes_190 {d : Nat} (hC : ∀ k as σ p, C_Mo_goes k as σ = some p → mEx d k as σ p) {l0 l2 l3 l5 l6 l7 l8 l9 l12 s1 s0 : Int} {σ : mS} {b : ((Int × Int × Int × Int × mS) ⊕ (Int × mS))} {r : Int × mS} (h : M_Mo_goes_190 l0 l2 l3 l5 l6 l7 l8 l9 l12 s1 s0 σ = some b) (hk : (Sum.elim (fun (s : Int × Int × Int × Int × mS) r => mG (d + 1) 116 44 [(3, l0), (0, 0), (1, l2), (1, l3), (0, 0), (1, l5), (1, l6), (1, s.1), (1, s.2.1), (1, s.2.2.1), (1, s.2.2.2.1), (0, 0), (0, 0)] [] s.2.2.2.2 r) (fun b r => r = b)) b r) : mG (d + 1) 116 190 [(3, l0), (0, 0), (1, l2), (1, l3), (0, 0), (1, l5), (1, l6), (1, l7), (1, l8), (1, l9), (0, 0), (0, 0), (1, l12)] [(1, s1), (3, s0)] σ r := by
  refine mblk_ok2 P_Mo_goes (F := F_Mo_goes_190) (Sum.elim (fun (s : Int × Int × Int × Int × mS) r => mG (d + 1) 116 44 [(3, l0), (0, 0), (1, l2), (1, l3), (0, 0), (1, l5), (1, l6), (1, s.1), (1, s.2.1), (1, s.2.2.1), (1, s.2.2.2.1), (0, 0), (0, 0)] [] s.2.2.2.2 r) (fun b r => r = b)) [([(44, 201)], [0, 2, 3, 5, 6])] [(190, 190)] [(3, l0), (0, 0), (1, l2), (1, l3), (0, 0), (1, l5), (1, l6), (1, l7), (1, l8), (1, l9), (0, 0), (0, 0), (1, l12)] (by decide +kernel) rfl hC ?_ (fun v σ b r hb hk => by cases hb; exact hk) _ 190 [(3, l0), (0, 0), (1, l2), (1, l3), (0, 0), (1, l5), (1, l6), (1, l7), (1, l8), (1, l9), (0, 0), (0, 0), (1, l12)] [(1, s1), (3, s0)] σ b r rfl (mJ_self _ _ _) ((E_Mo_goes_190 l0 l2 l3 l5 l6 l7 l8 l9 l12 s1 s0 σ).trans h) hk
  intro i L st σ b r hj hb hk
  unfold F_Mo_goes_190 at hb
  split at hb
  · have key : ∀ (k0 k2 k3 k5 k6 k7 k8 k9 k12 u2 u1 u0 : Int) (k1 k4 k10 k11 : mV) (σ : mS) (b : ((Int × Int × Int × Int × mS) ⊕ (Int × mS))) (r : Int × mS), mJ [(3, l0), (0, 0), (1, l2), (1, l3), (0, 0), (1, l5), (1, l6), (1, l7), (1, l8), (1, l9), (0, 0), (0, 0), (1, l12)] 191 [(3, k0), k1, (1, k2), (1, k3), k4, (1, k5), (1, k6), (1, k7), (1, k8), (1, k9), k10, k11, (1, k12)] [([(44, 201)], [0, 2, 3, 5, 6])] → (M_Mo_goes_191 k0 k2 k3 k5 k6 k7 k8 k9 k12 u2 u1 u0 σ) = some b → (Sum.elim (fun (s : Int × Int × Int × Int × mS) r => mG (d + 1) 116 44 [(3, l0), (0, 0), (1, l2), (1, l3), (0, 0), (1, l5), (1, l6), (1, s.1), (1, s.2.1), (1, s.2.2.1), (1, s.2.2.2.1), (0, 0), (0, 0)] [] s.2.2.2.2 r) (fun b r => r = b)) b r → mG (d + 1) 116 191 [(3, k0), k1, (1, k2), (1, k3), k4, (1, k5), (1, k6), (1, k7), (1, k8), (1, k9), k10, k11, (1, k12)] [(1, u2), (1, u1), (3, u0)] σ r := by
      intro k0 k2 k3 k5 k6 k7 k8 k9 k12 u2 u1 u0 k1 k4 k10 k11 σ b r hj hb hk
      have e0 : k0 = l0 := (Prod.mk.inj (Option.some.inj ((hj.1 rfl).1))).2
      subst e0
      have e2 : k2 = l2 := (Prod.mk.inj (Option.some.inj ((hj.1 rfl).2.1))).2
      subst e2
      have e3 : k3 = l3 := (Prod.mk.inj (Option.some.inj ((hj.1 rfl).2.2.1))).2
      subst e3
      have e5 : k5 = l5 := (Prod.mk.inj (Option.some.inj ((hj.1 rfl).2.2.2.1))).2
      subst e5
      have e6 : k6 = l6 := (Prod.mk.inj (Option.some.inj ((hj.1 rfl).2.2.2.2.1))).2
      subst e6
      exact (T_Mo_goes_191 hC hb hk).lle (lle_cons (lle_dead (lle_cons (lle_cons (lle_dead (lle_cons (lle_cons (lle_cons (lle_cons (lle_cons (lle_dead (lle_dead (lle_cons lle_nil)))))))))))))
    exact key _ _ _ _ _ _ _ _ _ _ _ _ _ _ _ _ σ b r hj hb hk
  · cases hb
set_option maxRecDepth 100000 in
theorem T_Mo_goes_147 {d : Nat} (hC : ∀ k as σ p, C_Mo_goes k as σ = some p → mEx d k as σ p) {l0 l2 l3 l5 l6 l7 l8 l9 l10 : Int} {σ : mS} {b : ((Int × Int × Int × Int × mS) ⊕ (Int × mS))} {r : Int × mS} (h : M_Mo_goes_147 l0 l2 l3 l5 l6 l7 l8 l9 l10 σ = some b) (hk : (Sum.elim (fun (s : Int × Int × Int × Int × mS) r => mG (d + 1) 116 44 [(3, l0), (0, 0), (1, l2), (1, l3), (0, 0), (1, l5), (1, l6), (1, s.1), (1, s.2.1), (1, s.2.2.1), (1, s.2.2.2.1), (0, 0), (0, 0)] [] s.2.2.2.2 r) (fun b r => r = b)) b r) : mG (d + 1) 116 147 [(3, l0), (0, 0), (1, l2), (1, l3), (0, 0), (1, l5), (1, l6), (1, l7), (1, l8), (1, l9), (1, l10), (0, 0), (0, 0)] [] σ r := by
  refine mblk_ok2 P_Mo_goes (F := F_Mo_goes_147) (Sum.elim (fun (s : Int × Int × Int × Int × mS) r => mG (d + 1) 116 44 [(3, l0), (0, 0), (1, l2), (1, l3), (0, 0), (1, l5), (1, l6), (1, s.1), (1, s.2.1), (1, s.2.2.1), (1, s.2.2.2.1), (0, 0), (0, 0)] [] s.2.2.2.2 r) (fun b r => r = b)) [([(44, 201)], [0, 2, 3, 5, 6])] [(147, 189), (201, 201)] [(3, l0), (0, 0), (1, l2), (1, l3), (0, 0), (1, l5), (1, l6), (1, l7), (1, l8), (1, l9), (1, l10), (0, 0), (0, 0)] (by decide +kernel) rfl hC ?_ (fun v σ b r hb hk => by cases hb; exact hk) _ 147 [(3, l0), (0, 0), (1, l2), (1, l3), (0, 0), (1, l5), (1, l6), (1, l7), (1, l8), (1, l9), (1, l10), (0, 0), (0, 0)] [] σ b r rfl (mJ_self _ _ _) ((E_Mo_goes_147 l0 l2 l3 l5 l6 l7 l8 l9 l10 σ).trans h) hk
  intro i L st σ b r hj hb hk
  unfold F_Mo_goes_147 at hb
  split at hb
  · have key : ∀ (k0 k2 k3 k5 k6 k7 k8 k9 k10 : Int) (k1 k4 k11 k12 : mV) (σ : mS) (b : ((Int × Int × Int × Int × mS) ⊕ (Int × mS))) (r : Int × mS), mJ [(3, l0), (0, 0), (1, l2), (1, l3), (0, 0), (1, l5), (1, l6), (1, l7), (1, l8), (1, l9), (1, l10), (0, 0), (0, 0)] 44 [(3, k0), k1, (1, k2), (1, k3), k4, (1, k5), (1, k6), (1, k7), (1, k8), (1, k9), (1, k10), k11, k12] [([(44, 201)], [0, 2, 3, 5, 6])] → (some (.inl (k7, k8, k9, k10, σ))) = some b → (Sum.elim (fun (s : Int × Int × Int × Int × mS) r => mG (d + 1) 116 44 [(3, l0), (0, 0), (1, l2), (1, l3), (0, 0), (1, l5), (1, l6), (1, s.1), (1, s.2.1), (1, s.2.2.1), (1, s.2.2.2.1), (0, 0), (0, 0)] [] s.2.2.2.2 r) (fun b r => r = b)) b r → mG (d + 1) 116 44 [(3, k0), k1, (1, k2), (1, k3), k4, (1, k5), (1, k6), (1, k7), (1, k8), (1, k9), (1, k10), k11, k12] [] σ r := by
      intro k0 k2 k3 k5 k6 k7 k8 k9 k10 k1 k4 k11 k12 σ b r hj hb hk
      have e0 : k0 = l0 := (Prod.mk.inj (Option.some.inj ((hj.1 rfl).1))).2
      subst e0
      have e2 : k2 = l2 := (Prod.mk.inj (Option.some.inj ((hj.1 rfl).2.1))).2
      subst e2
      have e3 : k3 = l3 := (Prod.mk.inj (Option.some.inj ((hj.1 rfl).2.2.1))).2
      subst e3
      have e5 : k5 = l5 := (Prod.mk.inj (Option.some.inj ((hj.1 rfl).2.2.2.1))).2
      subst e5
      have e6 : k6 = l6 := (Prod.mk.inj (Option.some.inj ((hj.1 rfl).2.2.2.2.1))).2
      subst e6
      cases hb
      exact mG.lle hk (lle_cons (lle_dead (lle_cons (lle_cons (lle_dead (lle_cons (lle_cons (lle_cons (lle_cons (lle_cons (lle_cons (lle_dead (lle_dead lle_nil)))))))))))))
    exact key _ _ _ _ _ _ _ _ _ _ _ _ _ σ b r hj hb hk
  · have key : ∀ (k0 k2 k3 k5 k6 k7 k8 k9 k12 u1 u0 : Int) (k1 k4 k10 k11 : mV) (σ : mS) (b : ((Int × Int × Int × Int × mS) ⊕ (Int × mS))) (r : Int × mS), mJ [(3, l0), (0, 0), (1, l2), (1, l3), (0, 0), (1, l5), (1, l6), (1, l7), (1, l8), (1, l9), (1, l10), (0, 0), (0, 0)] 190 [(3, k0), k1, (1, k2), (1, k3), k4, (1, k5), (1, k6), (1, k7), (1, k8), (1, k9), k10, k11, (1, k12)] [([(44, 201)], [0, 2, 3, 5, 6])] → (M_Mo_goes_190 k0 k2 k3 k5 k6 k7 k8 k9 k12 u1 u0 σ) = some b → (Sum.elim (fun (s : Int × Int × Int × Int × mS) r => mG (d + 1) 116 44 [(3, l0), (0, 0), (1, l2), (1, l3), (0, 0), (1, l5), (1, l6), (1, s.1), (1, s.2.1), (1, s.2.2.1), (1, s.2.2.2.1), (0, 0), (0, 0)] [] s.2.2.2.2 r) (fun b r => r = b)) b r → mG (d + 1) 116 190 [(3, k0), k1, (1, k2), (1, k3), k4, (1, k5), (1, k6), (1, k7), (1, k8), (1, k9), k10, k11, (1, k12)] [(1, u1), (3, u0)] σ r := by
      intro k0 k2 k3 k5 k6 k7 k8 k9 k12 u1 u0 k1 k4 k10 k11 σ b r hj hb hk
      have e0 : k0 = l0 := (Prod.mk.inj (Option.some.inj ((hj.1 rfl).1))).2
      subst e0
      have e2 : k2 = l2 := (Prod.mk.inj (Option.some.inj ((hj.1 rfl).2.1))).2
      subst e2
      have e3 : k3 = l3 := (Prod.mk.inj (Option.some.inj ((hj.1 rfl).2.2.1))).2
      subst e3
      have e5 : k5 = l5 := (Prod.mk.inj (Option.some.inj ((hj.1 rfl).2.2.2.1))).2
      subst e5
      have e6 : k6 = l6 := (Prod.mk.inj (Option.some.inj ((hj.1 rfl).2.2.2.2.1))).2
      subst e6
      exact (T_Mo_goes_190 hC hb hk).lle (lle_cons (lle_dead (lle_cons (lle_cons (lle_dead (lle_cons (lle_cons (lle_cons (lle_cons (lle_cons (lle_dead (lle_dead (lle_cons lle_nil)))))))))))))
    exact key _ _ _ _ _ _ _ _ _ _ _ _ _ _ _ σ b r hj hb hk
  · have key : ∀ (k0 k2 k3 k5 k6 k7 k8 k9 k12 u2 u1 u0 : Int) (k1 k4 k10 k11 : mV) (σ : mS) (b : ((Int × Int × Int × Int × mS) ⊕ (Int × mS))) (r : Int × mS), mJ [(3, l0), (0, 0), (1, l2), (1, l3), (0, 0), (1, l5), (1, l6), (1, l7), (1, l8), (1, l9), (1, l10), (0, 0), (0, 0)] 191 [(3, k0), k1, (1, k2), (1, k3), k4, (1, k5), (1, k6), (1, k7), (1, k8), (1, k9), k10, k11, (1, k12)] [([(44, 201)], [0, 2, 3, 5, 6])] → (M_Mo_goes_191 k0 k2 k3 k5 k6 k7 k8 k9 k12 u2 u1 u0 σ) = some b → (Sum.elim (fun (s : Int × Int × Int × Int × mS) r => mG (d + 1) 116 44 [(3, l0), (0, 0), (1, l2), (1, l3), (0, 0), (1, l5), (1, l6), (1, s.1), (1, s.2.1), (1, s.2.2.1), (1, s.2.2.2.1), (0, 0), (0, 0)] [] s.2.2.2.2 r) (fun b r => r = b)) b r → mG (d + 1) 116 191 [(3, k0), k1, (1, k2), (1, k3), k4, (1, k5), (1, k6), (1, k7), (1, k8), (1, k9), k10, k11, (1, k12)] [(1, u2), (1, u1), (3, u0)] σ r := by
      intro k0 k2 k3 k5 k6 k7 k8 k9 k12 u2 u1 u0 k1 k4 k10 k11 σ b r hj hb hk
      have e0 : k0 = l0 := (Prod.mk.inj (Option.some.inj ((hj.1 rfl).1))).2
      subst e0
      have e2 : k2 = l2 := (Prod.mk.inj (Option.some.inj ((hj.1 rfl).2.1))).2
      subst e2
      have e3 : k3 = l3 := (Prod.mk.inj (Option.some.inj ((hj.1 rfl).2.2.1))).2
      subst e3
      have e5 : k5 = l5 := (Prod.mk.inj (Option.some.inj ((hj.1 rfl).2.2.2.1))).2
      subst e5
      have e6 : k6 = l6 := (Prod.mk.inj (Option.some.inj ((hj.1 rfl).2.2.2.2.1))).2
      subst e6
      exact (T_Mo_goes_191 hC hb hk).lle (lle_cons (lle_dead (lle_cons (lle_cons (lle_dead (lle_cons (lle_cons (lle_cons (lle_cons (lle_cons (lle_dead (lle_dead (lle_cons lle_nil)))))))))))))
    exact key _ _ _ _ _ _ _ _ _ _ _ _ _ _ _ _ σ b r hj hb hk
  · cases hb
set_option maxRecDepth 100000 in
theorem T_Mo_goes_88 {d : Nat} (hC : ∀ k as σ p, C_Mo_goes k as σ = some p → mEx d k as σ p) {l0 l2 l3 l5 l6 l7 l8 l9 s0 : Int} {σ : mS} {b : ((Int × Int × Int × Int × mS) ⊕ (Int × mS))} {r : Int × mS} (h : M_Mo_goes_88 l0 l2 l3 l5 l6 l7 l8 l9 s0 σ = some b) (hk : (Sum.elim (fun (s : Int × Int × Int × Int × mS) r => mG (d + 1) 116 44 [(3, l0), (0, 0), (1, l2), (1, l3), (0, 0), (1, l5), (1, l6), (1, s.1), (1, s.2.1), (1, s.2.2.1), (1, s.2.2.2.1), (0, 0), (0, 0)] [] s.2.2.2.2 r) (fun b r => r = b)) b r) : mG (d + 1) 116 88 [(3, l0), (0, 0), (1, l2), (1, l3), (0, 0), (1, l5), (1, l6), (1, l7), (1, l8), (1, l9), (0, 0), (0, 0), (0, 0)] [(1, s0)] σ r := by
  refine mblk_ok2 P_Mo_goes (F := F_Mo_goes_88) (Sum.elim (fun (s : Int × Int × Int × Int × mS) r => mG (d + 1) 116 44 [(3, l0), (0, 0), (1, l2), (1, l3), (0, 0), (1, l5), (1, l6), (1, s.1), (1, s.2.1), (1, s.2.2.1), (1, s.2.2.2.1), (0, 0), (0, 0)] [] s.2.2.2.2 r) (fun b r => r = b)) [([(44, 201)], [0, 2, 3, 5, 6])] [(88, 146), (201, 201)] [(3, l0), (0, 0), (1, l2), (1, l3), (0, 0), (1, l5), (1, l6), (1, l7), (1, l8), (1, l9), (0, 0), (0, 0), (0, 0)] (by decide +kernel) rfl hC ?_ (fun v σ b r hb hk => by cases hb; exact hk) _ 88 [(3, l0), (0, 0), (1, l2), (1, l3), (0, 0), (1, l5), (1, l6), (1, l7), (1, l8), (1, l9), (0, 0), (0, 0), (0, 0)] [(1, s0)] σ b r rfl (mJ_self _ _ _) ((E_Mo_goes_88 l0 l2 l3 l5 l6 l7 l8 l9 s0 σ).trans h) hk
  intro i L st σ b r hj hb hk
  unfold F_Mo_goes_88 at hb
  split at hb
  · have key : ∀ (k0 k2 k3 k5 k6 k7 k8 k9 k10 : Int) (k1 k4 k11 k12 : mV) (σ : mS) (b : ((Int × Int × Int × Int × mS) ⊕ (Int × mS))) (r : Int × mS), mJ [(3, l0), (0, 0), (1, l2), (1, l3), (0, 0), (1, l5), (1, l6), (1, l7), (1, l8), (1, l9), (0, 0), (0, 0), (0, 0)] 44 [(3, k0), k1, (1, k2), (1, k3), k4, (1, k5), (1, k6), (1, k7), (1, k8), (1, k9), (1, k10), k11, k12] [([(44, 201)], [0, 2, 3, 5, 6])] → (some (.inl (k7, k8, k9, k10, σ))) = some b → (Sum.elim (fun (s : Int × Int × Int × Int × mS) r => mG (d + 1) 116 44 [(3, l0), (0, 0), (1, l2), (1, l3), (0, 0), (1, l5), (1, l6), (1, s.1), (1, s.2.1), (1, s.2.2.1), (1, s.2.2.2.1), (0, 0), (0, 0)] [] s.2.2.2.2 r) (fun b r => r = b)) b r → mG (d + 1) 116 44 [(3, k0), k1, (1, k2), (1, k3), k4, (1, k5), (1, k6), (1, k7), (1, k8), (1, k9), (1, k10), k11, k12] [] σ r := by
      intro k0 k2 k3 k5 k6 k7 k8 k9 k10 k1 k4 k11 k12 σ b r hj hb hk
      have e0 : k0 = l0 := (Prod.mk.inj (Option.some.inj ((hj.1 rfl).1))).2
      subst e0
      have e2 : k2 = l2 := (Prod.mk.inj (Option.some.inj ((hj.1 rfl).2.1))).2
      subst e2
      have e3 : k3 = l3 := (Prod.mk.inj (Option.some.inj ((hj.1 rfl).2.2.1))).2
      subst e3
      have e5 : k5 = l5 := (Prod.mk.inj (Option.some.inj ((hj.1 rfl).2.2.2.1))).2
      subst e5
      have e6 : k6 = l6 := (Prod.mk.inj (Option.some.inj ((hj.1 rfl).2.2.2.2.1))).2
      subst e6
      cases hb
      exact mG.lle hk (lle_cons (lle_dead (lle_cons (lle_cons (lle_dead (lle_cons (lle_cons (lle_cons (lle_cons (lle_cons (lle_cons (lle_dead (lle_dead lle_nil)))))))))))))
    exact key _ _ _ _ _ _ _ _ _ _ _ _ _ σ b r hj hb hk
  · have key : ∀ (k0 k2 k3 k5 k6 k7 k8 k9 k10 : Int) (k1 k4 k11 k12 : mV) (σ : mS) (b : ((Int × Int × Int × Int × mS) ⊕ (Int × mS))) (r : Int × mS), mJ [(3, l0), (0, 0), (1, l2), (1, l3), (0, 0), (1, l5), (1, l6), (1, l7), (1, l8), (1, l9), (0, 0), (0, 0), (0, 0)] 147 [(3, k0), k1, (1, k2), (1, k3), k4, (1, k5), (1, k6), (1, k7), (1, k8), (1, k9), (1, k10), k11, k12] [([(44, 201)], [0, 2, 3, 5, 6])] → (M_Mo_goes_147 k0 k2 k3 k5 k6 k7 k8 k9 k10 σ) = some b → (Sum.elim (fun (s : Int × Int × Int × Int × mS) r => mG (d + 1) 116 44 [(3, l0), (0, 0), (1, l2), (1, l3), (0, 0), (1, l5), (1, l6), (1, s.1), (1, s.2.1), (1, s.2.2.1), (1, s.2.2.2.1), (0, 0), (0, 0)] [] s.2.2.2.2 r) (fun b r => r = b)) b r → mG (d + 1) 116 147 [(3, k0), k1, (1, k2), (1, k3), k4, (1, k5), (1, k6), (1, k7), (1, k8), (1, k9), (1, k10), k11, k12] [] σ r := by
      intro k0 k2 k3 k5 k6 k7 k8 k9 k10 k1 k4 k11 k12 σ b r hj hb hk
      have e0 : k0 = l0 := (Prod.mk.inj (Option.some.inj ((hj.1 rfl).1))).2
      subst e0
      have e2 : k2 = l2 := (Prod.mk.inj (Option.some.inj ((hj.1 rfl).2.1))).2
      subst e2
      have e3 : k3 = l3 := (Prod.mk.inj (Option.some.inj ((hj.1 rfl).2.2.1))).2
      subst e3
      have e5 : k5 = l5 := (Prod.mk.inj (Option.some.inj ((hj.1 rfl).2.2.2.1))).2
      subst e5
      have e6 : k6 = l6 := (Prod.mk.inj (Option.some.inj ((hj.1 rfl).2.2.2.2.1))).2
      subst e6
      exact (T_Mo_goes_147 hC hb hk).lle (lle_cons (lle_dead (lle_cons (lle_cons (lle_dead (lle_cons (lle_cons (lle_cons (lle_cons (lle_cons (lle_cons (lle_dead (lle_dead lle_nil)))))))))))))
    exact key _ _ _ _ _ _ _ _ _ _ _ _ _ σ b r hj hb hk
  · cases hb
set_option maxRecDepth 100000 in
theorem T_Mo_goes_80 {d : Nat} (hC : ∀ k as σ p, C_Mo_goes k as σ = some p → mEx d k as σ p) {l0 l2 l3 l5 l6 l7 l8 l9 s1 s0 : Int} {σ : mS} {b : ((Int × Int × Int × Int × mS) ⊕ (Int × mS))} {r : Int × mS} (h : M_Mo_goes_80 l0 l2 l3 l5 l6 l7 l8 l9 s1 s0 σ = some b) (hk : (Sum.elim (fun (s : Int × Int × Int × Int × mS) r => mG (d + 1) 116 44 [(3, l0), (0, 0), (1, l2), (1, l3), (0, 0), (1, l5), (1, l6), (1, s.1), (1, s.2.1), (1, s.2.2.1), (1, s.2.2.2.1), (0, 0), (0, 0)] [] s.2.2.2.2 r) (fun b r => r = b)) b r) : mG (d + 1) 116 80 [(3, l0), (0, 0), (1, l2), (1, l3), (0, 0), (1, l5), (1, l6), (1, l7), (1, l8), (1, l9), (0, 0), (0, 0), (0, 0)] [(1, s1), (3, s0)] σ r := by
  refine mblk_ok2 P_Mo_goes (F := F_Mo_goes_80) (Sum.elim (fun (s : Int × Int × Int × Int × mS) r => mG (d + 1) 116 44 [(3, l0), (0, 0), (1, l2), (1, l3), (0, 0), (1, l5), (1, l6), (1, s.1), (1, s.2.1), (1, s.2.2.1), (1, s.2.2.2.1), (0, 0), (0, 0)] [] s.2.2.2.2 r) (fun b r => r = b)) [([(44, 201)], [0, 2, 3, 5, 6])] [(80, 87)] [(3, l0), (0, 0), (1, l2), (1, l3), (0, 0), (1, l5), (1, l6), (1, l7), (1, l8), (1, l9), (0, 0), (0, 0), (0, 0)] (by decide +kernel) rfl hC ?_ (fun v σ b r hb hk => by cases hb; exact hk) _ 80 [(3, l0), (0, 0), (1, l2), (1, l3), (0, 0), (1, l5), (1, l6), (1, l7), (1, l8), (1, l9), (0, 0), (0, 0), (0, 0)] [(1, s1), (3, s0)] σ b r rfl (mJ_self _ _ _) ((E_Mo_goes_80 l0 l2 l3 l5 l6 l7 l8 l9 s1 s0 σ).trans h) hk
  intro i L st σ b r hj hb hk
  unfold F_Mo_goes_80 at hb
  split at hb
  · have key : ∀ (k0 k2 k3 k5 k6 k7 k8 k9 u0 : Int) (k1 k4 k10 k11 k12 : mV) (σ : mS) (b : ((Int × Int × Int × Int × mS) ⊕ (Int × mS))) (r : Int × mS), mJ [(3, l0), (0, 0), (1, l2), (1, l3), (0, 0), (1, l5), (1, l6), (1, l7), (1, l8), (1, l9), (0, 0), (0, 0), (0, 0)] 88 [(3, k0), k1, (1, k2), (1, k3), k4, (1, k5), (1, k6), (1, k7), (1, k8), (1, k9), k10, k11, k12] [([(44, 201)], [0, 2, 3, 5, 6])] → (M_Mo_goes_88 k0 k2 k3 k5 k6 k7 k8 k9 u0 σ) = some b → (Sum.elim (fun (s : Int × Int × Int × Int × mS) r => mG (d + 1) 116 44 [(3, l0), (0, 0), (1, l2), (1, l3), (0, 0), (1, l5), (1, l6), (1, s.1), (1, s.2.1), (1, s.2.2.1), (1, s.2.2.2.1), (0, 0), (0, 0)] [] s.2.2.2.2 r) (fun b r => r = b)) b r → mG (d + 1) 116 88 [(3, k0), k1, (1, k2), (1, k3), k4, (1, k5), (1, k6), (1, k7), (1, k8), (1, k9), k10, k11, k12] [(1, u0)] σ r := by
      intro k0 k2 k3 k5 k6 k7 k8 k9 u0 k1 k4 k10 k11 k12 σ b r hj hb hk
      have e0 : k0 = l0 := (Prod.mk.inj (Option.some.inj ((hj.1 rfl).1))).2
      subst e0
      have e2 : k2 = l2 := (Prod.mk.inj (Option.some.inj ((hj.1 rfl).2.1))).2
      subst e2
      have e3 : k3 = l3 := (Prod.mk.inj (Option.some.inj ((hj.1 rfl).2.2.1))).2
      subst e3
      have e5 : k5 = l5 := (Prod.mk.inj (Option.some.inj ((hj.1 rfl).2.2.2.1))).2
      subst e5
      have e6 : k6 = l6 := (Prod.mk.inj (Option.some.inj ((hj.1 rfl).2.2.2.2.1))).2
      subst e6
      exact (T_Mo_goes_88 hC hb hk).lle (lle_cons (lle_dead (lle_cons (lle_cons (lle_dead (lle_cons (lle_cons (lle_cons (lle_cons (lle_cons (lle_dead (lle_dead (lle_dead lle_nil)))))))))))))
    exact key _ _ _ _ _ _ _ _ _ _ _ _ _ _ σ b r hj hb hk
  · cases hb
set_option maxRecDepth 100000 in
theorem T_Mo_goes_66 {d : Nat} (hC : ∀ k as σ p, C_Mo_goes k as σ = some p → mEx d k as σ p) {l0 l2 l3 l5 l6 l7 l8 l9 : Int} {σ : mS} {b : ((Int × Int × Int × Int × mS) ⊕ (Int × mS))} {r : Int × mS} (h : M_Mo_goes_66 l0 l2 l3 l5 l6 l7 l8 l9 σ = some b) (hk : (Sum.elim (fun (s : Int × Int × Int × Int × mS) r => mG (d + 1) 116 44 [(3, l0), (0, 0), (1, l2), (1, l3), (0, 0), (1, l5), (1, l6), (1, s.1), (1, s.2.1), (1, s.2.2.1), (1, s.2.2.2.1), (0, 0), (0, 0)] [] s.2.2.2.2 r) (fun b r => r = b)) b r) : mG (d + 1) 116 66 [(3, l0), (0, 0), (1, l2), (1, l3), (0, 0), (1, l5), (1, l6), (1, l7), (1, l8), (1, l9), (0, 0), (0, 0), (0, 0)] [] σ r := by
  refine mblk_ok2 P_Mo_goes (F := F_Mo_goes_66) (Sum.elim (fun (s : Int × Int × Int × Int × mS) r => mG (d + 1) 116 44 [(3, l0), (0, 0), (1, l2), (1, l3), (0, 0), (1, l5), (1, l6), (1, s.1), (1, s.2.1), (1, s.2.2.1), (1, s.2.2.2.1), (0, 0), (0, 0)] [] s.2.2.2.2 r) (fun b r => r = b)) [([(44, 201)], [0, 2, 3, 5, 6])] [(66, 79)] [(3, l0), (0, 0), (1, l2), (1, l3), (0, 0), (1, l5), (1, l6), (1, l7), (1, l8), (1, l9), (0, 0), (0, 0), (0, 0)] (by decide +kernel) rfl hC ?_ (fun v σ b r hb hk => by cases hb; exact hk) _ 66 [(3, l0), (0, 0), (1, l2), (1, l3), (0, 0), (1, l5), (1, l6), (1, l7), (1, l8), (1, l9), (0, 0), (0, 0), (0, 0)] [] σ b r rfl (mJ_self _ _ _) ((E_Mo_goes_66 l0 l2 l3 l5 l6 l7 l8 l9 σ).trans h) hk
  intro i L st σ b r hj hb hk
  unfold F_Mo_goes_66 at hb
  split at hb
  · have key : ∀ (k0 k2 k3 k5 k6 k7 k8 k9 u1 u0 : Int) (k1 k4 k10 k11 k12 : mV) (σ : mS) (b : ((Int × Int × Int × Int × mS) ⊕ (Int × mS))) (r : Int × mS), mJ [(3, l0), (0, 0), (1, l2), (1, l3), (0, 0), (1, l5), (1, l6), (1, l7), (1, l8), (1, l9), (0, 0), (0, 0), (0, 0)] 80 [(3, k0), k1, (1, k2), (1, k3), k4, (1, k5), (1, k6), (1, k7), (1, k8), (1, k9), k10, k11, k12] [([(44, 201)], [0, 2, 3, 5, 6])] → (M_Mo_goes_80 k0 k2 k3 k5 k6 k7 k8 k9 u1 u0 σ) = some b → (Sum.elim (fun (s : Int × Int × Int × Int × mS) r => mG (d + 1) 116 44 [(3, l0), (0, 0), (1, l2), (1, l3), (0, 0), (1, l5), (1, l6), (1, s.1), (1, s.2.1), (1, s.2.2.1), (1, s.2.2.2.1), (0, 0), (0, 0)] [] s.2.2.2.2 r) (fun b r => r = b)) b r → mG (d + 1) 116 80 [(3, k0), k1, (1, k2), (1, k3), k4, (1, k5), (1, k6), (1, k7), (1, k8), (1, k9), k10, k11, k12] [(1, u1), (3, u0)] σ r := by
      intro k0 k2 k3 k5 k6 k7 k8 k9 u1 u0 k1 k4 k10 k11 k12 σ b r hj hb hk
      have e0 : k0 = l0 := (Prod.mk.inj (Option.some.inj ((hj.1 rfl).1))).2
      subst e0
      have e2 : k2 = l2 := (Prod.mk.inj (Option.some.inj ((hj.1 rfl).2.1))).2
      subst e2
      have e3 : k3 = l3 := (Prod.mk.inj (Option.some.inj ((hj.1 rfl).2.2.1))).2
      subst e3
      have e5 : k5 = l5 := (Prod.mk.inj (Option.some.inj ((hj.1 rfl).2.2.2.1))).2
      subst e5
      have e6 : k6 = l6 := (Prod.mk.inj (Option.some.inj ((hj.1 rfl).2.2.2.2.1))).2
      subst e6
      exact (T_Mo_goes_80 hC hb hk).lle (lle_cons (lle_dead (lle_cons (lle_cons (lle_dead (lle_cons (lle_cons (lle_cons (lle_cons (lle_cons (lle_dead (lle_dead (lle_dead lle_nil)))))))))))))
    exact key _ _ _ _ _ _ _ _ _ _ _ _ _ _ _ σ b r hj hb hk
  · cases hb
set_option maxRecDepth 100000 in
theorem TB_Mo_goes_44 {d : Nat} (hC : ∀ k as σ p, C_Mo_goes k as σ = some p → mEx d k as σ p) {l0 l2 l3 l5 l6 l7 l8 l9 l10 : Int} {σ : mS} {b : ((Int × Int × Int × Int × mS) ⊕ (Int × mS))} {r : Int × mS} (h : B_Mo_goes_44 l0 l2 l3 l5 l6 l7 l8 l9 l10 σ = some b) (hk : (Sum.elim (fun (s : Int × Int × Int × Int × mS) r => mG (d + 1) 116 44 [(3, l0), (0, 0), (1, l2), (1, l3), (0, 0), (1, l5), (1, l6), (1, s.1), (1, s.2.1), (1, s.2.2.1), (1, s.2.2.2.1), (0, 0), (0, 0)] [] s.2.2.2.2 r) (fun b r => r = b)) b r) : mG (d + 1) 116 44 [(3, l0), (0, 0), (1, l2), (1, l3), (0, 0), (1, l5), (1, l6), (1, l7), (1, l8), (1, l9), (1, l10), (0, 0), (0, 0)] [] σ r := by
  refine mblk_ok2 P_Mo_goes (F := F_Mo_goes_44) (Sum.elim (fun (s : Int × Int × Int × Int × mS) r => mG (d + 1) 116 44 [(3, l0), (0, 0), (1, l2), (1, l3), (0, 0), (1, l5), (1, l6), (1, s.1), (1, s.2.1), (1, s.2.2.1), (1, s.2.2.2.1), (0, 0), (0, 0)] [] s.2.2.2.2 r) (fun b r => r = b)) [([(44, 201)], [0, 2, 3, 5, 6])] [(44, 65), (202, 202)] [(3, l0), (0, 0), (1, l2), (1, l3), (0, 0), (1, l5), (1, l6), (1, l7), (1, l8), (1, l9), (1, l10), (0, 0), (0, 0)] (by decide +kernel) rfl hC ?_ (fun v σ b r hb hk => by cases hb; exact hk) _ 44 [(3, l0), (0, 0), (1, l2), (1, l3), (0, 0), (1, l5), (1, l6), (1, l7), (1, l8), (1, l9), (1, l10), (0, 0), (0, 0)] [] σ b r rfl (mJ_self _ _ _) ((E_Mo_goes_44 l0 l2 l3 l5 l6 l7 l8 l9 l10 σ).trans h) hk
  intro i L st σ b r hj hb hk
  unfold F_Mo_goes_44 at hb
  split at hb
  · have key : ∀ (k0 k2 k3 k5 k6 k7 k8 k9 : Int) (k1 k4 k10 k11 k12 : mV) (σ : mS) (b : ((Int × Int × Int × Int × mS) ⊕ (Int × mS))) (r : Int × mS), mJ [(3, l0), (0, 0), (1, l2), (1, l3), (0, 0), (1, l5), (1, l6), (1, l7), (1, l8), (1, l9), (1, l10), (0, 0), (0, 0)] 66 [(3, k0), k1, (1, k2), (1, k3), k4, (1, k5), (1, k6), (1, k7), (1, k8), (1, k9), k10, k11, k12] [([(44, 201)], [0, 2, 3, 5, 6])] → (M_Mo_goes_66 k0 k2 k3 k5 k6 k7 k8 k9 σ) = some b → (Sum.elim (fun (s : Int × Int × Int × Int × mS) r => mG (d + 1) 116 44 [(3, l0), (0, 0), (1, l2), (1, l3), (0, 0), (1, l5), (1, l6), (1, s.1), (1, s.2.1), (1, s.2.2.1), (1, s.2.2.2.1), (0, 0), (0, 0)] [] s.2.2.2.2 r) (fun b r => r = b)) b r → mG (d + 1) 116 66 [(3, k0), k1, (1, k2), (1, k3), k4, (1, k5), (1, k6), (1, k7), (1, k8), (1, k9), k10, k11, k12] [] σ r := by
      intro k0 k2 k3 k5 k6 k7 k8 k9 k1 k4 k10 k11 k12 σ b r hj hb hk
      have e0 : k0 = l0 := (Prod.mk.inj (Option.some.inj ((hj.1 rfl).1))).2
      subst e0
      have e2 : k2 = l2 := (Prod.mk.inj (Option.some.inj ((hj.1 rfl).2.1))).2
      subst e2
      have e3 : k3 = l3 := (Prod.mk.inj (Option.some.inj ((hj.1 rfl).2.2.1))).2
      subst e3
      have e5 : k5 = l5 := (Prod.mk.inj (Option.some.inj ((hj.1 rfl).2.2.2.1))).2
      subst e5
      have e6 : k6 = l6 := (Prod.mk.inj (Option.some.inj ((hj.1 rfl).2.2.2.2.1))).2
      subst e6
      exact (T_Mo_goes_66 hC hb hk).lle (lle_cons (lle_dead (lle_cons (lle_cons (lle_dead (lle_cons (lle_cons (lle_cons (lle_cons (lle_cons (lle_dead (lle_dead (lle_dead lle_nil)))))))))))))
    exact key _ _ _ _ _ _ _ _ _ _ _ _ _ σ b r hj hb hk
  · cases hb
set_option maxRecDepth 100000 in
theorem T_Mo_goes_44 {d : Nat} (hC : ∀ k as σ p, C_Mo_goes k as σ = some p → mEx d k as σ p) {l0 l2 l3 l5 l6 l7 l8 l9 l10 : Int} {σ : mS} {b : Int × mS} {r : Int × mS} (h : M_Mo_goes_44 l0 l2 l3 l5 l6 l7 l8 l9 l10 σ = some b) (hk : (fun b r => r = b) b r) : mG (d + 1) 116 44 [(3, l0), (0, 0), (1, l2), (1, l3), (0, 0), (1, l5), (1, l6), (1, l7), (1, l8), (1, l9), (1, l10), (0, 0), (0, 0)] [] σ r :=
  miter_ok (G := fun (s : Int × Int × Int × Int × mS) r => mG (d + 1) 116 44 [(3, l0), (0, 0), (1, l2), (1, l3), (0, 0), (1, l5), (1, l6), (1, s.1), (1, s.2.1), (1, s.2.2.1), (1, s.2.2.2.1), (0, 0), (0, 0)] [] s.2.2.2.2 r) (K := (fun b r => r = b)) (fun s x r hs hx => TB_Mo_goes_44 hC hs hx) mN _ b r h hk
set_option maxRecDepth 100000 in
theorem T_Mo_goes_0 {d : Nat} (hC : ∀ k as σ p, C_Mo_goes k as σ = some p → mEx d k as σ p) {l0 l1 l2 l3 l4 l5 l6 : Int} {σ : mS} {b : Int × mS} {r : Int × mS} (h : M_Mo_goes l0 l1 l2 l3 l4 l5 l6 σ = some b) (hk : (fun b r => r = b) b r) : mG (d + 1) 116 0 (mInit 13 [(3, l0), (1, l1), (1, l2), (1, l3), (1, l4), (1, l5), (1, l6)]) [] σ r := by
  refine mblk_ok1 P_Mo_goes (F := F_Mo_goes_0) (fun b r => r = b) hC ?_ (fun v σ b r hb hk => by cases hb; exact hk) _ 0 (mInit 13 [(3, l0), (1, l1), (1, l2), (1, l3), (1, l4), (1, l5), (1, l6)]) [] σ b r ((E_Mo_goes_0 l0 l1 l2 l3 l4 l5 l6 σ).trans h) hk
  intro i L st σ b r hb hk
  unfold F_Mo_goes_0 at hb
  split at hb
  · have key : ∀ (k0 k2 k3 k5 k6 k7 k8 k9 k10 : Int) (k1 k4 k11 k12 : mV) (σ : mS) (b : Int × mS) (r : Int × mS), (M_Mo_goes_44 k0 k2 k3 k5 k6 k7 k8 k9 k10 σ) = some b → (fun b r => r = b) b r → mG (d + 1) 116 44 [(3, k0), k1, (1, k2), (1, k3), k4, (1, k5), (1, k6), (1, k7), (1, k8), (1, k9), (1, k10), k11, k12] [] σ r := by
      intro k0 k2 k3 k5 k6 k7 k8 k9 k10 k1 k4 k11 k12 σ b r hb hk
      exact (T_Mo_goes_44 hC hb hk).lle (lle_cons (lle_dead (lle_cons (lle_cons (lle_dead (lle_cons (lle_cons (lle_cons (lle_cons (lle_cons (lle_cons (lle_dead (lle_dead lle_nil)))))))))))))
    exact key _ _ _ _ _ _ _ _ _ _ _ _ _ σ b r hb hk
  · cases hb
set_option maxRecDepth 100000 in
theorem T_Mo_goes {l0 l1 l2 l3 l4 l5 l6 : Int} {σ : mS} {r : Int × mS} (h : M_Mo_goes l0 l1 l2 l3 l4 l5 l6 σ = some r) : mEx 125 116 [(3, l0), (1, l1), (1, l2), (1, l3), (1, l4), (1, l5), (1, l6)] σ r :=
  ⟨by rw [P_Mo_goes]; exact Nat.le_of_ble_eq_true rfl, by rw [P_Mo_goes]; exact T_Mo_goes_0 TC_Mo_goes h rfl⟩
set_option maxRecDepth 100000 in
theorem P_Mo_goesNow : mProg 117 = (c_Mo_goesNow, 2) := rfl
set_option maxRecDepth 100000 in
theorem TC_Mo_goesNow : ∀ k as σ p, C_Mo_goesNow k as σ = some p → mEx 125 k as σ p := by
  intro k as σ p hp
  unfold C_Mo_goesNow at hp
  split at hp
  · exact (T_Mo_goes hp).up (Nat.le_of_ble_eq_true rfl)
  · cases hp
set_option maxRecDepth 100000 in
theorem T_Mo_goesNow_0 {d : Nat} (hC : ∀ k as σ p, C_Mo_goesNow k as σ = some p → mEx d k as σ p) {l0 l1 : Int} {σ : mS} {b : Int × mS} {r : Int × mS} (h : M_Mo_goesNow l0 l1 σ = some b) (hk : (fun b r => r = b) b r) : mG (d + 1) 117 0 (mInit 2 [(3, l0), (1, l1)]) [] σ r := by
  refine mblk_ok1 P_Mo_goesNow (F := F_Mo_goesNow_0) (fun b r => r = b) hC ?_ (fun v σ b r hb hk => by cases hb; exact hk) _ 0 (mInit 2 [(3, l0), (1, l1)]) [] σ b r ((E_Mo_goesNow_0 l0 l1 σ).trans h) hk
  intro i L st σ b r hb hk
  cases hb
set_option maxRecDepth 100000 in
theorem T_Mo_goesNow {l0 l1 : Int} {σ : mS} {r : Int × mS} (h : M_Mo_goesNow l0 l1 σ = some r) : mEx 126 117 [(3, l0), (1, l1)] σ r :=
  ⟨by rw [P_Mo_goesNow]; exact Nat.le_of_ble_eq_true rfl, by rw [P_Mo_goesNow]; exact T_Mo_goesNow_0 TC_Mo_goesNow h rfl⟩
set_option maxRecDepth 100000 in
theorem P_Mo_ray : mProg 118 = (c_Mo_ray, 3) := rfl
set_option maxRecDepth 100000 in
theorem TC_Mo_ray : ∀ k as σ p, C_Mo_ray k as σ = some p → mEx 126 k as σ p := by
  intro k as σ p hp
  unfold C_Mo_ray at hp
  split at hp
  · exact (T_Mo_lies hp).up (Nat.le_of_ble_eq_true rfl)
  · exact (T_Mo_isAngle hp).up (Nat.le_of_ble_eq_true rfl)
  · exact (T_Mo_goesNow hp).up (Nat.le_of_ble_eq_true rfl)
  · cases hp
set_option maxRecDepth 100000 in
theorem T_Mo_ray_0 {d : Nat} (hC : ∀ k as σ p, C_Mo_ray k as σ = some p → mEx d k as σ p) {l0 l1 l2 : Int} {σ : mS} {b : Int × mS} {r : Int × mS} (h : M_Mo_ray l0 l1 l2 σ = some b) (hk : (fun b r => r = b) b r) : mG (d + 1) 118 0 (mInit 3 [(3, l0), (1, l1), (1, l2)]) [] σ r := by
  refine mblk_ok1 P_Mo_ray (F := F_Mo_ray_0) (fun b r => r = b) hC ?_ (fun v σ b r hb hk => by cases hb; exact hk) _ 0 (mInit 3 [(3, l0), (1, l1), (1, l2)]) [] σ b r ((E_Mo_ray_0 l0 l1 l2 σ).trans h) hk
  intro i L st σ b r hb hk
  cases hb
set_option maxRecDepth 100000 in
theorem T_Mo_ray {l0 l1 l2 : Int} {σ : mS} {r : Int × mS} (h : M_Mo_ray l0 l1 l2 σ = some r) : mEx 127 118 [(3, l0), (1, l1), (1, l2)] σ r :=
  ⟨by rw [P_Mo_ray]; exact Nat.le_of_ble_eq_true rfl, by rw [P_Mo_ray]; exact T_Mo_ray_0 TC_Mo_ray h rfl⟩
set_option maxRecDepth 100000 in
theorem P_Mo_at : mProg 119 = (c_Mo_at, 3) := rfl
set_option maxRecDepth 100000 in
theorem TC_Mo_at : ∀ k as σ p, C_Mo_at k as σ = some p → mEx 126 k as σ p := by
  intro k as σ p hp
  unfold C_Mo_at at hp
  split at hp
  · exact (T_Mo_lies hp).up (Nat.le_of_ble_eq_true rfl)
  · exact (T_Mo_isPlace hp).up (Nat.le_of_ble_eq_true rfl)
  · exact (T_Mo_isAngle hp).up (Nat.le_of_ble_eq_true rfl)
  · exact (T_Mo_goesNow hp).up (Nat.le_of_ble_eq_true rfl)
  · cases hp
set_option maxRecDepth 100000 in
theorem T_Mo_at_0 {d : Nat} (hC : ∀ k as σ p, C_Mo_at k as σ = some p → mEx d k as σ p) {l0 l1 l2 : Int} {σ : mS} {b : Int × mS} {r : Int × mS} (h : M_Mo_at l0 l1 l2 σ = some b) (hk : (fun b r => r = b) b r) : mG (d + 1) 119 0 (mInit 3 [(3, l0), (1, l1), (1, l2)]) [] σ r := by
  refine mblk_ok1 P_Mo_at (F := F_Mo_at_0) (fun b r => r = b) hC ?_ (fun v σ b r hb hk => by cases hb; exact hk) _ 0 (mInit 3 [(3, l0), (1, l1), (1, l2)]) [] σ b r ((E_Mo_at_0 l0 l1 l2 σ).trans h) hk
  intro i L st σ b r hb hk
  cases hb
set_option maxRecDepth 100000 in
theorem T_Mo_at {l0 l1 l2 : Int} {σ : mS} {r : Int × mS} (h : M_Mo_at l0 l1 l2 σ = some r) : mEx 127 119 [(3, l0), (1, l1), (1, l2)] σ r :=
  ⟨by rw [P_Mo_at]; exact Nat.le_of_ble_eq_true rfl, by rw [P_Mo_at]; exact T_Mo_at_0 TC_Mo_at h rfl⟩
set_option maxRecDepth 100000 in
theorem P_Mo_looks : mProg 120 = (c_Mo_looks, 5) := rfl
set_option maxRecDepth 100000 in
theorem TC_Mo_looks : ∀ k as σ p, C_Mo_looks k as σ = some p → mEx 125 k as σ p := by
  intro k as σ p hp
  unfold C_Mo_looks at hp
  split at hp
  · exact (T_Mo_goes hp).up (Nat.le_of_ble_eq_true rfl)
  · cases hp
set_option maxRecDepth 100000 in
theorem TB_Mo_looks_2 {d : Nat} (hC : ∀ k as σ p, C_Mo_looks k as σ = some p → mEx d k as σ p) {l0 l1 l2 l3 l4 : Int} {σ : mS} {b : ((Int × mS) ⊕ (Int × mS))} {r : Int × mS} (h : B_Mo_looks_2 l0 l1 l2 l3 l4 σ = some b) (hk : (Sum.elim (fun (s : Int × mS) r => mG (d + 1) 120 2 [(3, l0), (1, l1), (1, l2), (1, l3), (1, s.1)] [] s.2 r) (fun b r => r = b)) b r) : mG (d + 1) 120 2 [(3, l0), (1, l1), (1, l2), (1, l3), (1, l4)] [] σ r := by
  refine mblk_ok2 P_Mo_looks (F := F_Mo_looks_2) (Sum.elim (fun (s : Int × mS) r => mG (d + 1) 120 2 [(3, l0), (1, l1), (1, l2), (1, l3), (1, s.1)] [] s.2 r) (fun b r => r = b)) [([(2, 28)], [0, 1, 2, 3])] [(2, 29)] [(3, l0), (1, l1), (1, l2), (1, l3), (1, l4)] (by decide +kernel) rfl hC ?_ (fun v σ b r hb hk => by cases hb; exact hk) _ 2 [(3, l0), (1, l1), (1, l2), (1, l3), (1, l4)] [] σ b r rfl (mJ_self _ _ _) ((E_Mo_looks_2 l0 l1 l2 l3 l4 σ).trans h) hk
  intro i L st σ b r hj hb hk
  unfold F_Mo_looks_2 at hb
  split at hb
  · have key : ∀ (k0 k1 k2 k3 k4 : Int) (σ : mS) (b : ((Int × mS) ⊕ (Int × mS))) (r : Int × mS), mJ [(3, l0), (1, l1), (1, l2), (1, l3), (1, l4)] 2 [(3, k0), (1, k1), (1, k2), (1, k3), (1, k4)] [([(2, 28)], [0, 1, 2, 3])] → (some (.inl (k4, σ))) = some b → (Sum.elim (fun (s : Int × mS) r => mG (d + 1) 120 2 [(3, l0), (1, l1), (1, l2), (1, l3), (1, s.1)] [] s.2 r) (fun b r => r = b)) b r → mG (d + 1) 120 2 [(3, k0), (1, k1), (1, k2), (1, k3), (1, k4)] [] σ r := by
      intro k0 k1 k2 k3 k4 σ b r hj hb hk
      have e0 : k0 = l0 := (Prod.mk.inj (Option.some.inj ((hj.1 rfl).1))).2
      subst e0
      have e1 : k1 = l1 := (Prod.mk.inj (Option.some.inj ((hj.1 rfl).2.1))).2
      subst e1
      have e2 : k2 = l2 := (Prod.mk.inj (Option.some.inj ((hj.1 rfl).2.2.1))).2
      subst e2
      have e3 : k3 = l3 := (Prod.mk.inj (Option.some.inj ((hj.1 rfl).2.2.2.1))).2
      subst e3
      cases hb
      exact mG.lle hk (lle_cons (lle_cons (lle_cons (lle_cons (lle_cons lle_nil)))))
    exact key _ _ _ _ _ σ b r hj hb hk
  · cases hb
set_option maxRecDepth 100000 in
theorem T_Mo_looks_2 {d : Nat} (hC : ∀ k as σ p, C_Mo_looks k as σ = some p → mEx d k as σ p) {l0 l1 l2 l3 l4 : Int} {σ : mS} {b : Int × mS} {r : Int × mS} (h : M_Mo_looks_2 l0 l1 l2 l3 l4 σ = some b) (hk : (fun b r => r = b) b r) : mG (d + 1) 120 2 [(3, l0), (1, l1), (1, l2), (1, l3), (1, l4)] [] σ r :=
  miter_ok (G := fun (s : Int × mS) r => mG (d + 1) 120 2 [(3, l0), (1, l1), (1, l2), (1, l3), (1, s.1)] [] s.2 r) (K := (fun b r => r = b)) (fun s x r hs hx => TB_Mo_looks_2 hC hs hx) mN _ b r h hk
set_option maxRecDepth 100000 in
theorem T_Mo_looks_0 {d : Nat} (hC : ∀ k as σ p, C_Mo_looks k as σ = some p → mEx d k as σ p) {l0 l1 l2 l3 : Int} {σ : mS} {b : Int × mS} {r : Int × mS} (h : M_Mo_looks l0 l1 l2 l3 σ = some b) (hk : (fun b r => r = b) b r) : mG (d + 1) 120 0 (mInit 5 [(3, l0), (1, l1), (1, l2), (1, l3)]) [] σ r := by
  refine mblk_ok1 P_Mo_looks (F := F_Mo_looks_0) (fun b r => r = b) hC ?_ (fun v σ b r hb hk => by cases hb; exact hk) _ 0 (mInit 5 [(3, l0), (1, l1), (1, l2), (1, l3)]) [] σ b r ((E_Mo_looks_0 l0 l1 l2 l3 σ).trans h) hk
  intro i L st σ b r hb hk
  unfold F_Mo_looks_0 at hb
  split at hb
  · have key : ∀ (k0 k1 k2 k3 k4 : Int) (σ : mS) (b : Int × mS) (r : Int × mS), (M_Mo_looks_2 k0 k1 k2 k3 k4 σ) = some b → (fun b r => r = b) b r → mG (d + 1) 120 2 [(3, k0), (1, k1), (1, k2), (1, k3), (1, k4)] [] σ r := by
      intro k0 k1 k2 k3 k4 σ b r hb hk
      exact (T_Mo_looks_2 hC hb hk).lle (lle_cons (lle_cons (lle_cons (lle_cons (lle_cons lle_nil)))))
    exact key _ _ _ _ _ σ b r hb hk
  · cases hb
set_option maxRecDepth 100000 in
theorem T_Mo_looks {l0 l1 l2 l3 : Int} {σ : mS} {r : Int × mS} (h : M_Mo_looks l0 l1 l2 l3 σ = some r) : mEx 126 120 [(3, l0), (1, l1), (1, l2), (1, l3)] σ r :=
  ⟨by rw [P_Mo_looks]; exact Nat.le_of_ble_eq_true rfl, by rw [P_Mo_looks]; exact T_Mo_looks_0 TC_Mo_looks h rfl⟩
set_option maxRecDepth 100000 in
theorem P_Mo_looksNow : mProg 121 = (c_Mo_looksNow, 1) := rfl
set_option maxRecDepth 100000 in
theorem TC_Mo_looksNow : ∀ k as σ p, C_Mo_looksNow k as σ = some p → mEx 126 k as σ p := by
  intro k as σ p hp
  unfold C_Mo_looksNow at hp
  split at hp
  · exact (T_Mo_looks hp).up (Nat.le_of_ble_eq_true rfl)
  · cases hp
set_option maxRecDepth 100000 in
theorem T_Mo_looksNow_0 {d : Nat} (hC : ∀ k as σ p, C_Mo_looksNow k as σ = some p → mEx d k as σ p) {l0 : Int} {σ : mS} {b : Int × mS} {r : Int × mS} (h : M_Mo_looksNow l0 σ = some b) (hk : (fun b r => r = b) b r) : mG (d + 1) 121 0 (mInit 1 [(3, l0)]) [] σ r := by
  refine mblk_ok1 P_Mo_looksNow (F := F_Mo_looksNow_0) (fun b r => r = b) hC ?_ (fun v σ b r hb hk => by cases hb; exact hk) _ 0 (mInit 1 [(3, l0)]) [] σ b r ((E_Mo_looksNow_0 l0 σ).trans h) hk
  intro i L st σ b r hb hk
  cases hb
set_option maxRecDepth 100000 in
theorem T_Mo_looksNow {l0 : Int} {σ : mS} {r : Int × mS} (h : M_Mo_looksNow l0 σ = some r) : mEx 127 121 [(3, l0)] σ r :=
  ⟨by rw [P_Mo_looksNow]; exact Nat.le_of_ble_eq_true rfl, by rw [P_Mo_looksNow]; exact T_Mo_looksNow_0 TC_Mo_looksNow h rfl⟩
set_option maxRecDepth 100000 in
theorem P_Mo_seenNow : mProg 122 = (c_Mo_seenNow, 4) := rfl
set_option maxRecDepth 100000 in
theorem TC_Mo_seenNow : ∀ k as σ p, C_Mo_seenNow k as σ = some p → mEx 0 k as σ p := by
  intro k as σ p hp
  cases hp
set_option maxRecDepth 100000 in
theorem TB_Mo_seenNow_4 {d : Nat} (hC : ∀ k as σ p, C_Mo_seenNow k as σ = some p → mEx d k as σ p) {l0 l1 l2 l3 : Int} {σ : mS} {b : ((Int × Int × mS) ⊕ (Int × mS))} {r : Int × mS} (h : B_Mo_seenNow_4 l0 l1 l2 l3 σ = some b) (hk : (Sum.elim (fun (s : Int × Int × mS) r => mG (d + 1) 122 4 [(3, l0), (1, l1), (1, s.1), (1, s.2.1)] [] s.2.2 r) (fun b r => r = b)) b r) : mG (d + 1) 122 4 [(3, l0), (1, l1), (1, l2), (1, l3)] [] σ r := by
  refine mblk_ok2 P_Mo_seenNow (F := F_Mo_seenNow_4) (Sum.elim (fun (s : Int × Int × mS) r => mG (d + 1) 122 4 [(3, l0), (1, l1), (1, s.1), (1, s.2.1)] [] s.2.2 r) (fun b r => r = b)) [([(4, 20)], [0, 1])] [(4, 22)] [(3, l0), (1, l1), (1, l2), (1, l3)] (by decide +kernel) rfl hC ?_ (fun v σ b r hb hk => by cases hb; exact hk) _ 4 [(3, l0), (1, l1), (1, l2), (1, l3)] [] σ b r rfl (mJ_self _ _ _) ((E_Mo_seenNow_4 l0 l1 l2 l3 σ).trans h) hk
  intro i L st σ b r hj hb hk
  unfold F_Mo_seenNow_4 at hb
  split at hb
  · have key : ∀ (k0 k1 k2 k3 : Int) (σ : mS) (b : ((Int × Int × mS) ⊕ (Int × mS))) (r : Int × mS), mJ [(3, l0), (1, l1), (1, l2), (1, l3)] 4 [(3, k0), (1, k1), (1, k2), (1, k3)] [([(4, 20)], [0, 1])] → (some (.inl (k2, k3, σ))) = some b → (Sum.elim (fun (s : Int × Int × mS) r => mG (d + 1) 122 4 [(3, l0), (1, l1), (1, s.1), (1, s.2.1)] [] s.2.2 r) (fun b r => r = b)) b r → mG (d + 1) 122 4 [(3, k0), (1, k1), (1, k2), (1, k3)] [] σ r := by
      intro k0 k1 k2 k3 σ b r hj hb hk
      have e0 : k0 = l0 := (Prod.mk.inj (Option.some.inj ((hj.1 rfl).1))).2
      subst e0
      have e1 : k1 = l1 := (Prod.mk.inj (Option.some.inj ((hj.1 rfl).2.1))).2
      subst e1
      cases hb
      exact mG.lle hk (lle_cons (lle_cons (lle_cons (lle_cons lle_nil))))
    exact key _ _ _ _ σ b r hj hb hk
  · cases hb
set_option maxRecDepth 100000 in
theorem T_Mo_seenNow_4 {d : Nat} (hC : ∀ k as σ p, C_Mo_seenNow k as σ = some p → mEx d k as σ p) {l0 l1 l2 l3 : Int} {σ : mS} {b : Int × mS} {r : Int × mS} (h : M_Mo_seenNow_4 l0 l1 l2 l3 σ = some b) (hk : (fun b r => r = b) b r) : mG (d + 1) 122 4 [(3, l0), (1, l1), (1, l2), (1, l3)] [] σ r :=
  miter_ok (G := fun (s : Int × Int × mS) r => mG (d + 1) 122 4 [(3, l0), (1, l1), (1, s.1), (1, s.2.1)] [] s.2.2 r) (K := (fun b r => r = b)) (fun s x r hs hx => TB_Mo_seenNow_4 hC hs hx) mN _ b r h hk
set_option maxRecDepth 100000 in
theorem T_Mo_seenNow_0 {d : Nat} (hC : ∀ k as σ p, C_Mo_seenNow k as σ = some p → mEx d k as σ p) {l0 l1 : Int} {σ : mS} {b : Int × mS} {r : Int × mS} (h : M_Mo_seenNow l0 l1 σ = some b) (hk : (fun b r => r = b) b r) : mG (d + 1) 122 0 (mInit 4 [(3, l0), (1, l1)]) [] σ r := by
  refine mblk_ok1 P_Mo_seenNow (F := F_Mo_seenNow_0) (fun b r => r = b) hC ?_ (fun v σ b r hb hk => by cases hb; exact hk) _ 0 (mInit 4 [(3, l0), (1, l1)]) [] σ b r ((E_Mo_seenNow_0 l0 l1 σ).trans h) hk
  intro i L st σ b r hb hk
  unfold F_Mo_seenNow_0 at hb
  split at hb
  · have key : ∀ (k0 k1 k2 k3 : Int) (σ : mS) (b : Int × mS) (r : Int × mS), (M_Mo_seenNow_4 k0 k1 k2 k3 σ) = some b → (fun b r => r = b) b r → mG (d + 1) 122 4 [(3, k0), (1, k1), (1, k2), (1, k3)] [] σ r := by
      intro k0 k1 k2 k3 σ b r hb hk
      exact (T_Mo_seenNow_4 hC hb hk).lle (lle_cons (lle_cons (lle_cons (lle_cons lle_nil))))
    exact key _ _ _ _ σ b r hb hk
  · cases hb
set_option maxRecDepth 100000 in
theorem T_Mo_seenNow {l0 l1 : Int} {σ : mS} {r : Int × mS} (h : M_Mo_seenNow l0 l1 σ = some r) : mEx 1 122 [(3, l0), (1, l1)] σ r :=
  ⟨by rw [P_Mo_seenNow]; exact Nat.le_of_ble_eq_true rfl, by rw [P_Mo_seenNow]; exact T_Mo_seenNow_0 TC_Mo_seenNow h rfl⟩
set_option maxRecDepth 100000 in
theorem P_Mo_picturesNow : mProg 123 = (c_Mo_picturesNow, 4) := rfl
set_option maxRecDepth 100000 in
theorem TC_Mo_picturesNow : ∀ k as σ p, C_Mo_picturesNow k as σ = some p → mEx 0 k as σ p := by
  intro k as σ p hp
  cases hp
set_option maxRecDepth 100000 in
theorem T_Mo_picturesNow_24 {d : Nat} (hC : ∀ k as σ p, C_Mo_picturesNow k as σ = some p → mEx d k as σ p) {l0 l1 l3 s0 : Int} {σ : mS} {b : ((Int × Int × mS) ⊕ (Int × mS))} {r : Int × mS} (h : M_Mo_picturesNow_24 l0 l1 l3 s0 σ = some b) (hk : (Sum.elim (fun (s : Int × Int × mS) r => mG (d + 1) 123 4 [(3, l0), (1, l1), (1, s.1), (1, s.2.1)] [] s.2.2 r) (fun b r => r = b)) b r) : mG (d + 1) 123 24 [(3, l0), (1, l1), (0, 0), (1, l3)] [(1, s0)] σ r := by
  refine mblk_ok2 P_Mo_picturesNow (F := F_Mo_picturesNow_24) (Sum.elim (fun (s : Int × Int × mS) r => mG (d + 1) 123 4 [(3, l0), (1, l1), (1, s.1), (1, s.2.1)] [] s.2.2 r) (fun b r => r = b)) [([(4, 30)], [0, 1])] [(24, 25), (27, 30)] [(3, l0), (1, l1), (0, 0), (1, l3)] (by decide +kernel) rfl hC ?_ (fun v σ b r hb hk => by cases hb; exact hk) _ 24 [(3, l0), (1, l1), (0, 0), (1, l3)] [(1, s0)] σ b r rfl (mJ_self _ _ _) ((E_Mo_picturesNow_24 l0 l1 l3 s0 σ).trans h) hk
  intro i L st σ b r hj hb hk
  unfold F_Mo_picturesNow_24 at hb
  split at hb
  · have key : ∀ (k0 k1 k2 k3 : Int) (σ : mS) (b : ((Int × Int × mS) ⊕ (Int × mS))) (r : Int × mS), mJ [(3, l0), (1, l1), (0, 0), (1, l3)] 4 [(3, k0), (1, k1), (1, k2), (1, k3)] [([(4, 30)], [0, 1])] → (some (.inl (k2, k3, σ))) = some b → (Sum.elim (fun (s : Int × Int × mS) r => mG (d + 1) 123 4 [(3, l0), (1, l1), (1, s.1), (1, s.2.1)] [] s.2.2 r) (fun b r => r = b)) b r → mG (d + 1) 123 4 [(3, k0), (1, k1), (1, k2), (1, k3)] [] σ r := by
      intro k0 k1 k2 k3 σ b r hj hb hk
      have e0 : k0 = l0 := (Prod.mk.inj (Option.some.inj ((hj.1 rfl).1))).2
      subst e0
      have e1 : k1 = l1 := (Prod.mk.inj (Option.some.inj ((hj.1 rfl).2.1))).2
      subst e1
      cases hb
      exact mG.lle hk (lle_cons (lle_cons (lle_cons (lle_cons lle_nil))))
    exact key _ _ _ _ σ b r hj hb hk
  · cases hb
set_option maxRecDepth 100000 in
theorem TB_Mo_picturesNow_4 {d : Nat} (hC : ∀ k as σ p, C_Mo_picturesNow k as σ = some p → mEx d k as σ p) {l0 l1 l2 l3 : Int} {σ : mS} {b : ((Int × Int × mS) ⊕ (Int × mS))} {r : Int × mS} (h : B_Mo_picturesNow_4 l0 l1 l2 l3 σ = some b) (hk : (Sum.elim (fun (s : Int × Int × mS) r => mG (d + 1) 123 4 [(3, l0), (1, l1), (1, s.1), (1, s.2.1)] [] s.2.2 r) (fun b r => r = b)) b r) : mG (d + 1) 123 4 [(3, l0), (1, l1), (1, l2), (1, l3)] [] σ r := by
  refine mblk_ok2 P_Mo_picturesNow (F := F_Mo_picturesNow_4) (Sum.elim (fun (s : Int × Int × mS) r => mG (d + 1) 123 4 [(3, l0), (1, l1), (1, s.1), (1, s.2.1)] [] s.2.2 r) (fun b r => r = b)) [([(4, 30)], [0, 1])] [(4, 23), (26, 32)] [(3, l0), (1, l1), (1, l2), (1, l3)] (by decide +kernel) rfl hC ?_ (fun v σ b r hb hk => by cases hb; exact hk) _ 4 [(3, l0), (1, l1), (1, l2), (1, l3)] [] σ b r rfl (mJ_self _ _ _) ((E_Mo_picturesNow_4 l0 l1 l2 l3 σ).trans h) hk
  intro i L st σ b r hj hb hk
  unfold F_Mo_picturesNow_4 at hb
  split at hb
  · have key : ∀ (k0 k1 k2 k3 : Int) (σ : mS) (b : ((Int × Int × mS) ⊕ (Int × mS))) (r : Int × mS), mJ [(3, l0), (1, l1), (1, l2), (1, l3)] 4 [(3, k0), (1, k1), (1, k2), (1, k3)] [([(4, 30)], [0, 1])] → (some (.inl (k2, k3, σ))) = some b → (Sum.elim (fun (s : Int × Int × mS) r => mG (d + 1) 123 4 [(3, l0), (1, l1), (1, s.1), (1, s.2.1)] [] s.2.2 r) (fun b r => r = b)) b r → mG (d + 1) 123 4 [(3, k0), (1, k1), (1, k2), (1, k3)] [] σ r := by
      intro k0 k1 k2 k3 σ b r hj hb hk
      have e0 : k0 = l0 := (Prod.mk.inj (Option.some.inj ((hj.1 rfl).1))).2
      subst e0
      have e1 : k1 = l1 := (Prod.mk.inj (Option.some.inj ((hj.1 rfl).2.1))).2
      subst e1
      cases hb
      exact mG.lle hk (lle_cons (lle_cons (lle_cons (lle_cons lle_nil))))
    exact key _ _ _ _ σ b r hj hb hk
  · have key : ∀ (k0 k1 k3 u0 : Int) (k2 : mV) (σ : mS) (b : ((Int × Int × mS) ⊕ (Int × mS))) (r : Int × mS), mJ [(3, l0), (1, l1), (1, l2), (1, l3)] 24 [(3, k0), (1, k1), k2, (1, k3)] [([(4, 30)], [0, 1])] → (M_Mo_picturesNow_24 k0 k1 k3 u0 σ) = some b → (Sum.elim (fun (s : Int × Int × mS) r => mG (d + 1) 123 4 [(3, l0), (1, l1), (1, s.1), (1, s.2.1)] [] s.2.2 r) (fun b r => r = b)) b r → mG (d + 1) 123 24 [(3, k0), (1, k1), k2, (1, k3)] [(1, u0)] σ r := by
      intro k0 k1 k3 u0 k2 σ b r hj hb hk
      have e0 : k0 = l0 := (Prod.mk.inj (Option.some.inj ((hj.1 rfl).1))).2
      subst e0
      have e1 : k1 = l1 := (Prod.mk.inj (Option.some.inj ((hj.1 rfl).2.1))).2
      subst e1
      exact (T_Mo_picturesNow_24 hC hb hk).lle (lle_cons (lle_cons (lle_dead (lle_cons lle_nil))))
    exact key _ _ _ _ _ σ b r hj hb hk
  · cases hb
set_option maxRecDepth 100000 in
theorem T_Mo_picturesNow_4 {d : Nat} (hC : ∀ k as σ p, C_Mo_picturesNow k as σ = some p → mEx d k as σ p) {l0 l1 l2 l3 : Int} {σ : mS} {b : Int × mS} {r : Int × mS} (h : M_Mo_picturesNow_4 l0 l1 l2 l3 σ = some b) (hk : (fun b r => r = b) b r) : mG (d + 1) 123 4 [(3, l0), (1, l1), (1, l2), (1, l3)] [] σ r :=
  miter_ok (G := fun (s : Int × Int × mS) r => mG (d + 1) 123 4 [(3, l0), (1, l1), (1, s.1), (1, s.2.1)] [] s.2.2 r) (K := (fun b r => r = b)) (fun s x r hs hx => TB_Mo_picturesNow_4 hC hs hx) mN _ b r h hk
set_option maxRecDepth 100000 in
theorem T_Mo_picturesNow_0 {d : Nat} (hC : ∀ k as σ p, C_Mo_picturesNow k as σ = some p → mEx d k as σ p) {l0 l1 : Int} {σ : mS} {b : Int × mS} {r : Int × mS} (h : M_Mo_picturesNow l0 l1 σ = some b) (hk : (fun b r => r = b) b r) : mG (d + 1) 123 0 (mInit 4 [(3, l0), (1, l1)]) [] σ r := by
  refine mblk_ok1 P_Mo_picturesNow (F := F_Mo_picturesNow_0) (fun b r => r = b) hC ?_ (fun v σ b r hb hk => by cases hb; exact hk) _ 0 (mInit 4 [(3, l0), (1, l1)]) [] σ b r ((E_Mo_picturesNow_0 l0 l1 σ).trans h) hk
  intro i L st σ b r hb hk
  unfold F_Mo_picturesNow_0 at hb
  split at hb
  · have key : ∀ (k0 k1 k2 k3 : Int) (σ : mS) (b : Int × mS) (r : Int × mS), (M_Mo_picturesNow_4 k0 k1 k2 k3 σ) = some b → (fun b r => r = b) b r → mG (d + 1) 123 4 [(3, k0), (1, k1), (1, k2), (1, k3)] [] σ r := by
      intro k0 k1 k2 k3 σ b r hb hk
      exact (T_Mo_picturesNow_4 hC hb hk).lle (lle_cons (lle_cons (lle_cons (lle_cons lle_nil))))
    exact key _ _ _ _ σ b r hb hk
  · cases hb
set_option maxRecDepth 100000 in
theorem T_Mo_picturesNow {l0 l1 : Int} {σ : mS} {r : Int × mS} (h : M_Mo_picturesNow l0 l1 σ = some r) : mEx 1 123 [(3, l0), (1, l1)] σ r :=
  ⟨by rw [P_Mo_picturesNow]; exact Nat.le_of_ble_eq_true rfl, by rw [P_Mo_picturesNow]; exact T_Mo_picturesNow_0 TC_Mo_picturesNow h rfl⟩
set_option maxRecDepth 100000 in
theorem P_Mo_hiddenNow : mProg 124 = (c_Mo_hiddenNow, 4) := rfl
set_option maxRecDepth 100000 in
theorem TC_Mo_hiddenNow : ∀ k as σ p, C_Mo_hiddenNow k as σ = some p → mEx 2 k as σ p := by
  intro k as σ p hp
  unfold C_Mo_hiddenNow at hp
  split at hp
  · exact (T_Mo_thereOf hp).up (Nat.le_of_ble_eq_true rfl)
  · cases hp
set_option maxRecDepth 100000 in
theorem TB_Mo_hiddenNow_30 {d : Nat} (hC : ∀ k as σ p, C_Mo_hiddenNow k as σ = some p → mEx d k as σ p) {l0 l1 l2 l3 : Int} {σ : mS} {b : ((Int × Int × mS) ⊕ (Int × mS))} {r : Int × mS} (h : B_Mo_hiddenNow_30 l0 l1 l2 l3 σ = some b) (hk : (Sum.elim (fun (s : Int × Int × mS) r => mG (d + 1) 124 30 [(3, l0), (1, l1), (1, s.1), (1, s.2.1)] [] s.2.2 r) (fun b r => r = b)) b r) : mG (d + 1) 124 30 [(3, l0), (1, l1), (1, l2), (1, l3)] [] σ r := by
  refine mblk_ok2 P_Mo_hiddenNow (F := F_Mo_hiddenNow_30) (Sum.elim (fun (s : Int × Int × mS) r => mG (d + 1) 124 30 [(3, l0), (1, l1), (1, s.1), (1, s.2.1)] [] s.2.2 r) (fun b r => r = b)) [([(30, 51)], [0, 1])] [(30, 53)] [(3, l0), (1, l1), (1, l2), (1, l3)] (by decide +kernel) rfl hC ?_ (fun v σ b r hb hk => by cases hb; exact hk) _ 30 [(3, l0), (1, l1), (1, l2), (1, l3)] [] σ b r rfl (mJ_self _ _ _) ((E_Mo_hiddenNow_30 l0 l1 l2 l3 σ).trans h) hk
  intro i L st σ b r hj hb hk
  unfold F_Mo_hiddenNow_30 at hb
  split at hb
  · have key : ∀ (k0 k1 k2 k3 : Int) (σ : mS) (b : ((Int × Int × mS) ⊕ (Int × mS))) (r : Int × mS), mJ [(3, l0), (1, l1), (1, l2), (1, l3)] 30 [(3, k0), (1, k1), (1, k2), (1, k3)] [([(30, 51)], [0, 1])] → (some (.inl (k2, k3, σ))) = some b → (Sum.elim (fun (s : Int × Int × mS) r => mG (d + 1) 124 30 [(3, l0), (1, l1), (1, s.1), (1, s.2.1)] [] s.2.2 r) (fun b r => r = b)) b r → mG (d + 1) 124 30 [(3, k0), (1, k1), (1, k2), (1, k3)] [] σ r := by
      intro k0 k1 k2 k3 σ b r hj hb hk
      have e0 : k0 = l0 := (Prod.mk.inj (Option.some.inj ((hj.1 rfl).1))).2
      subst e0
      have e1 : k1 = l1 := (Prod.mk.inj (Option.some.inj ((hj.1 rfl).2.1))).2
      subst e1
      cases hb
      exact mG.lle hk (lle_cons (lle_cons (lle_cons (lle_cons lle_nil))))
    exact key _ _ _ _ σ b r hj hb hk
  · cases hb
set_option maxRecDepth 100000 in
theorem T_Mo_hiddenNow_30 {d : Nat} (hC : ∀ k as σ p, C_Mo_hiddenNow k as σ = some p → mEx d k as σ p) {l0 l1 l2 l3 : Int} {σ : mS} {b : Int × mS} {r : Int × mS} (h : M_Mo_hiddenNow_30 l0 l1 l2 l3 σ = some b) (hk : (fun b r => r = b) b r) : mG (d + 1) 124 30 [(3, l0), (1, l1), (1, l2), (1, l3)] [] σ r :=
  miter_ok (G := fun (s : Int × Int × mS) r => mG (d + 1) 124 30 [(3, l0), (1, l1), (1, s.1), (1, s.2.1)] [] s.2.2 r) (K := (fun b r => r = b)) (fun s x r hs hx => TB_Mo_hiddenNow_30 hC hs hx) mN _ b r h hk
set_option maxRecDepth 100000 in
theorem TB_Mo_hiddenNow_4 {d : Nat} (hC : ∀ k as σ p, C_Mo_hiddenNow k as σ = some p → mEx d k as σ p) {l0 l1 l2 l3 : Int} {σ : mS} {b : ((Int × Int × mS) ⊕ (Int × mS))} {r : Int × mS} (h : B_Mo_hiddenNow_4 l0 l1 l2 l3 σ = some b) (hk : (Sum.elim (fun (s : Int × Int × mS) r => mG (d + 1) 124 4 [(3, l0), (1, l1), (1, s.1), (1, s.2.1)] [] s.2.2 r) (fun b r => r = b)) b r) : mG (d + 1) 124 4 [(3, l0), (1, l1), (1, l2), (1, l3)] [] σ r := by
  refine mblk_ok2 P_Mo_hiddenNow (F := F_Mo_hiddenNow_4) (Sum.elim (fun (s : Int × Int × mS) r => mG (d + 1) 124 4 [(3, l0), (1, l1), (1, s.1), (1, s.2.1)] [] s.2.2 r) (fun b r => r = b)) [([(4, 27)], [0, 1])] [(4, 29)] [(3, l0), (1, l1), (1, l2), (1, l3)] (by decide +kernel) rfl hC ?_ (fun v σ b r hb hk => by cases hb; exact hk) _ 4 [(3, l0), (1, l1), (1, l2), (1, l3)] [] σ b r rfl (mJ_self _ _ _) ((E_Mo_hiddenNow_4 l0 l1 l2 l3 σ).trans h) hk
  intro i L st σ b r hj hb hk
  unfold F_Mo_hiddenNow_4 at hb
  split at hb
  · have key : ∀ (k0 k1 k2 k3 : Int) (σ : mS) (b : ((Int × Int × mS) ⊕ (Int × mS))) (r : Int × mS), mJ [(3, l0), (1, l1), (1, l2), (1, l3)] 4 [(3, k0), (1, k1), (1, k2), (1, k3)] [([(4, 27)], [0, 1])] → (some (.inl (k2, k3, σ))) = some b → (Sum.elim (fun (s : Int × Int × mS) r => mG (d + 1) 124 4 [(3, l0), (1, l1), (1, s.1), (1, s.2.1)] [] s.2.2 r) (fun b r => r = b)) b r → mG (d + 1) 124 4 [(3, k0), (1, k1), (1, k2), (1, k3)] [] σ r := by
      intro k0 k1 k2 k3 σ b r hj hb hk
      have e0 : k0 = l0 := (Prod.mk.inj (Option.some.inj ((hj.1 rfl).1))).2
      subst e0
      have e1 : k1 = l1 := (Prod.mk.inj (Option.some.inj ((hj.1 rfl).2.1))).2
      subst e1
      cases hb
      exact mG.lle hk (lle_cons (lle_cons (lle_cons (lle_cons lle_nil))))
    exact key _ _ _ _ σ b r hj hb hk
  · have key : ∀ (k0 k1 k2 k3 : Int) (σ : mS) (b : ((Int × Int × mS) ⊕ (Int × mS))) (r : Int × mS), mJ [(3, l0), (1, l1), (1, l2), (1, l3)] 30 [(3, k0), (1, k1), (1, k2), (1, k3)] [([(4, 27)], [0, 1])] → ((M_Mo_hiddenNow_30 k0 k1 k2 k3 σ).bind fun z => some (.inr z)) = some b → (Sum.elim (fun (s : Int × Int × mS) r => mG (d + 1) 124 4 [(3, l0), (1, l1), (1, s.1), (1, s.2.1)] [] s.2.2 r) (fun b r => r = b)) b r → mG (d + 1) 124 30 [(3, k0), (1, k1), (1, k2), (1, k3)] [] σ r := by
      intro k0 k1 k2 k3 σ b r hj hb hk
      obtain ⟨z, hz, e⟩ := Option.bind_eq_some_iff.mp hb
      cases e
      exact (T_Mo_hiddenNow_30 hC hz hk).lle (lle_cons (lle_cons (lle_cons (lle_cons lle_nil))))
    exact key _ _ _ _ σ b r hj hb hk
  · cases hb
set_option maxRecDepth 100000 in
theorem T_Mo_hiddenNow_4 {d : Nat} (hC : ∀ k as σ p, C_Mo_hiddenNow k as σ = some p → mEx d k as σ p) {l0 l1 l2 l3 : Int} {σ : mS} {b : Int × mS} {r : Int × mS} (h : M_Mo_hiddenNow_4 l0 l1 l2 l3 σ = some b) (hk : (fun b r => r = b) b r) : mG (d + 1) 124 4 [(3, l0), (1, l1), (1, l2), (1, l3)] [] σ r :=
  miter_ok (G := fun (s : Int × Int × mS) r => mG (d + 1) 124 4 [(3, l0), (1, l1), (1, s.1), (1, s.2.1)] [] s.2.2 r) (K := (fun b r => r = b)) (fun s x r hs hx => TB_Mo_hiddenNow_4 hC hs hx) mN _ b r h hk
set_option maxRecDepth 100000 in
theorem T_Mo_hiddenNow_0 {d : Nat} (hC : ∀ k as σ p, C_Mo_hiddenNow k as σ = some p → mEx d k as σ p) {l0 l1 : Int} {σ : mS} {b : Int × mS} {r : Int × mS} (h : M_Mo_hiddenNow l0 l1 σ = some b) (hk : (fun b r => r = b) b r) : mG (d + 1) 124 0 (mInit 4 [(3, l0), (1, l1)]) [] σ r := by
  refine mblk_ok1 P_Mo_hiddenNow (F := F_Mo_hiddenNow_0) (fun b r => r = b) hC ?_ (fun v σ b r hb hk => by cases hb; exact hk) _ 0 (mInit 4 [(3, l0), (1, l1)]) [] σ b r ((E_Mo_hiddenNow_0 l0 l1 σ).trans h) hk
  intro i L st σ b r hb hk
  unfold F_Mo_hiddenNow_0 at hb
  split at hb
  · have key : ∀ (k0 k1 k2 k3 : Int) (σ : mS) (b : Int × mS) (r : Int × mS), (M_Mo_hiddenNow_4 k0 k1 k2 k3 σ) = some b → (fun b r => r = b) b r → mG (d + 1) 124 4 [(3, k0), (1, k1), (1, k2), (1, k3)] [] σ r := by
      intro k0 k1 k2 k3 σ b r hb hk
      exact (T_Mo_hiddenNow_4 hC hb hk).lle (lle_cons (lle_cons (lle_cons (lle_cons lle_nil))))
    exact key _ _ _ _ σ b r hb hk
  · cases hb
set_option maxRecDepth 100000 in
theorem T_Mo_hiddenNow {l0 l1 : Int} {σ : mS} {r : Int × mS} (h : M_Mo_hiddenNow l0 l1 σ = some r) : mEx 3 124 [(3, l0), (1, l1)] σ r :=
  ⟨by rw [P_Mo_hiddenNow]; exact Nat.le_of_ble_eq_true rfl, by rw [P_Mo_hiddenNow]; exact T_Mo_hiddenNow_0 TC_Mo_hiddenNow h rfl⟩
set_option maxRecDepth 100000 in
theorem P_Mo_seen : mProg 125 = (c_Mo_seen, 2) := rfl
set_option maxRecDepth 100000 in
theorem TC_Mo_seen : ∀ k as σ p, C_Mo_seen k as σ = some p → mEx 127 k as σ p := by
  intro k as σ p hp
  unfold C_Mo_seen at hp
  split at hp
  · exact (T_Mo_isThing hp).up (Nat.le_of_ble_eq_true rfl)
  · exact (T_Mo_looksNow hp).up (Nat.le_of_ble_eq_true rfl)
  · exact (T_Mo_seenNow hp).up (Nat.le_of_ble_eq_true rfl)
  · cases hp
set_option maxRecDepth 100000 in
theorem T_Mo_seen_0 {d : Nat} (hC : ∀ k as σ p, C_Mo_seen k as σ = some p → mEx d k as σ p) {l0 l1 : Int} {σ : mS} {b : Int × mS} {r : Int × mS} (h : M_Mo_seen l0 l1 σ = some b) (hk : (fun b r => r = b) b r) : mG (d + 1) 125 0 (mInit 2 [(3, l0), (1, l1)]) [] σ r := by
  refine mblk_ok1 P_Mo_seen (F := F_Mo_seen_0) (fun b r => r = b) hC ?_ (fun v σ b r hb hk => by cases hb; exact hk) _ 0 (mInit 2 [(3, l0), (1, l1)]) [] σ b r ((E_Mo_seen_0 l0 l1 σ).trans h) hk
  intro i L st σ b r hb hk
  cases hb
set_option maxRecDepth 100000 in
theorem T_Mo_seen {l0 l1 : Int} {σ : mS} {r : Int × mS} (h : M_Mo_seen l0 l1 σ = some r) : mEx 128 125 [(3, l0), (1, l1)] σ r :=
  ⟨by rw [P_Mo_seen]; exact Nat.le_of_ble_eq_true rfl, by rw [P_Mo_seen]; exact T_Mo_seen_0 TC_Mo_seen h rfl⟩
set_option maxRecDepth 100000 in
theorem P_Mo_pictures : mProg 126 = (c_Mo_pictures, 2) := rfl
set_option maxRecDepth 100000 in
theorem TC_Mo_pictures : ∀ k as σ p, C_Mo_pictures k as σ = some p → mEx 127 k as σ p := by
  intro k as σ p hp
  unfold C_Mo_pictures at hp
  split at hp
  · exact (T_Mo_isThing hp).up (Nat.le_of_ble_eq_true rfl)
  · exact (T_Mo_looksNow hp).up (Nat.le_of_ble_eq_true rfl)
  · exact (T_Mo_picturesNow hp).up (Nat.le_of_ble_eq_true rfl)
  · cases hp
set_option maxRecDepth 100000 in
theorem T_Mo_pictures_0 {d : Nat} (hC : ∀ k as σ p, C_Mo_pictures k as σ = some p → mEx d k as σ p) {l0 l1 : Int} {σ : mS} {b : Int × mS} {r : Int × mS} (h : M_Mo_pictures l0 l1 σ = some b) (hk : (fun b r => r = b) b r) : mG (d + 1) 126 0 (mInit 2 [(3, l0), (1, l1)]) [] σ r := by
  refine mblk_ok1 P_Mo_pictures (F := F_Mo_pictures_0) (fun b r => r = b) hC ?_ (fun v σ b r hb hk => by cases hb; exact hk) _ 0 (mInit 2 [(3, l0), (1, l1)]) [] σ b r ((E_Mo_pictures_0 l0 l1 σ).trans h) hk
  intro i L st σ b r hb hk
  cases hb
set_option maxRecDepth 100000 in
theorem T_Mo_pictures {l0 l1 : Int} {σ : mS} {r : Int × mS} (h : M_Mo_pictures l0 l1 σ = some r) : mEx 128 126 [(3, l0), (1, l1)] σ r :=
  ⟨by rw [P_Mo_pictures]; exact Nat.le_of_ble_eq_true rfl, by rw [P_Mo_pictures]; exact T_Mo_pictures_0 TC_Mo_pictures h rfl⟩
set_option maxRecDepth 100000 in
theorem P_Mo_picture : mProg 127 = (c_Mo_picture, 9) := rfl
set_option maxRecDepth 100000 in
theorem TC_Mo_picture : ∀ k as σ p, C_Mo_picture k as σ = some p → mEx 127 k as σ p := by
  intro k as σ p hp
  unfold C_Mo_picture at hp
  split at hp
  · exact (T_Mo_lies hp).up (Nat.le_of_ble_eq_true rfl)
  · exact (T_Mo_isThing hp).up (Nat.le_of_ble_eq_true rfl)
  · exact (T_Mo_looksNow hp).up (Nat.le_of_ble_eq_true rfl)
  · cases hp
set_option maxRecDepth 100000 in
theorem T_Mo_picture_112 {d : Nat} (hC : ∀ k as σ p, C_Mo_picture k as σ = some p → mEx d k as σ p) {l0 l3 l4 l6 l7 l8 : Int} {σ : mS} {b : Int × mS} {r : Int × mS} (h : M_Mo_picture_112 l0 l3 l4 l6 l7 l8 σ = some b) (hk : (fun b r => r = b) b r) : mG (d + 1) 127 112 [(3, l0), (0, 0), (0, 0), (1, l3), (1, l4), (0, 0), (1, l6), (1, l7), (1, l8)] [] σ r := by
  refine mblk_ok1 P_Mo_picture (F := F_Mo_picture_112) (fun b r => r = b) hC ?_ (fun v σ b r hb hk => by cases hb; exact hk) _ 112 [(3, l0), (0, 0), (0, 0), (1, l3), (1, l4), (0, 0), (1, l6), (1, l7), (1, l8)] [] σ b r ((E_Mo_picture_112 l0 l3 l4 l6 l7 l8 σ).trans h) hk
  intro i L st σ b r hb hk
  cases hb
set_option maxRecDepth 100000 in
theorem T_Mo_picture_96 {d : Nat} (hC : ∀ k as σ p, C_Mo_picture k as σ = some p → mEx d k as σ p) {l0 l1 l3 l4 l6 l8 s0 : Int} {σ : mS} {b : ((Int × Int × Int × mS) ⊕ (Int × mS))} {r : Int × mS} (h : M_Mo_picture_96 l0 l1 l3 l4 l6 l8 s0 σ = some b) (hk : (Sum.elim (fun (s : Int × Int × Int × mS) r => mG (d + 1) 127 75 [(3, l0), (1, l1), (0, 0), (1, l3), (1, l4), (0, 0), (1, s.1), (1, s.2.1), (1, s.2.2.1)] [] s.2.2.2 r) (fun b r => r = b)) b r) : mG (d + 1) 127 96 [(3, l0), (1, l1), (0, 0), (1, l3), (1, l4), (0, 0), (1, l6), (0, 0), (1, l8)] [(1, s0)] σ r := by
  refine mblk_ok2 P_Mo_picture (F := F_Mo_picture_96) (Sum.elim (fun (s : Int × Int × Int × mS) r => mG (d + 1) 127 75 [(3, l0), (1, l1), (0, 0), (1, l3), (1, l4), (0, 0), (1, s.1), (1, s.2.1), (1, s.2.2.1)] [] s.2.2.2 r) (fun b r => r = b)) [([(75, 111)], [0, 1, 3, 4])] [(96, 111)] [(3, l0), (1, l1), (0, 0), (1, l3), (1, l4), (0, 0), (1, l6), (0, 0), (1, l8)] (by decide +kernel) rfl hC ?_ (fun v σ b r hb hk => by cases hb; exact hk) _ 96 [(3, l0), (1, l1), (0, 0), (1, l3), (1, l4), (0, 0), (1, l6), (0, 0), (1, l8)] [(1, s0)] σ b r rfl (mJ_self _ _ _) ((E_Mo_picture_96 l0 l1 l3 l4 l6 l8 s0 σ).trans h) hk
  intro i L st σ b r hj hb hk
  unfold F_Mo_picture_96 at hb
  split at hb
  · have key : ∀ (k0 k1 k3 k4 k6 k7 k8 : Int) (k2 k5 : mV) (σ : mS) (b : ((Int × Int × Int × mS) ⊕ (Int × mS))) (r : Int × mS), mJ [(3, l0), (1, l1), (0, 0), (1, l3), (1, l4), (0, 0), (1, l6), (0, 0), (1, l8)] 75 [(3, k0), (1, k1), k2, (1, k3), (1, k4), k5, (1, k6), (1, k7), (1, k8)] [([(75, 111)], [0, 1, 3, 4])] → (some (.inl (k6, k7, k8, σ))) = some b → (Sum.elim (fun (s : Int × Int × Int × mS) r => mG (d + 1) 127 75 [(3, l0), (1, l1), (0, 0), (1, l3), (1, l4), (0, 0), (1, s.1), (1, s.2.1), (1, s.2.2.1)] [] s.2.2.2 r) (fun b r => r = b)) b r → mG (d + 1) 127 75 [(3, k0), (1, k1), k2, (1, k3), (1, k4), k5, (1, k6), (1, k7), (1, k8)] [] σ r := by
      intro k0 k1 k3 k4 k6 k7 k8 k2 k5 σ b r hj hb hk
      have e0 : k0 = l0 := (Prod.mk.inj (Option.some.inj ((hj.1 rfl).1))).2
      subst e0
      have e1 : k1 = l1 := (Prod.mk.inj (Option.some.inj ((hj.1 rfl).2.1))).2
      subst e1
      have e3 : k3 = l3 := (Prod.mk.inj (Option.some.inj ((hj.1 rfl).2.2.1))).2
      subst e3
      have e4 : k4 = l4 := (Prod.mk.inj (Option.some.inj ((hj.1 rfl).2.2.2.1))).2
      subst e4
      cases hb
      exact mG.lle hk (lle_cons (lle_cons (lle_dead (lle_cons (lle_cons (lle_dead (lle_cons (lle_cons (lle_cons lle_nil)))))))))
    exact key _ _ _ _ _ _ _ _ _ σ b r hj hb hk
  · cases hb
set_option maxRecDepth 100000 in
theorem TB_Mo_picture_75 {d : Nat} (hC : ∀ k as σ p, C_Mo_picture k as σ = some p → mEx d k as σ p) {l0 l1 l3 l4 l6 l7 l8 : Int} {σ : mS} {b : ((Int × Int × Int × mS) ⊕ (Int × mS))} {r : Int × mS} (h : B_Mo_picture_75 l0 l1 l3 l4 l6 l7 l8 σ = some b) (hk : (Sum.elim (fun (s : Int × Int × Int × mS) r => mG (d + 1) 127 75 [(3, l0), (1, l1), (0, 0), (1, l3), (1, l4), (0, 0), (1, s.1), (1, s.2.1), (1, s.2.2.1)] [] s.2.2.2 r) (fun b r => r = b)) b r) : mG (d + 1) 127 75 [(3, l0), (1, l1), (0, 0), (1, l3), (1, l4), (0, 0), (1, l6), (1, l7), (1, l8)] [] σ r := by
  refine mblk_ok2 P_Mo_picture (F := F_Mo_picture_75) (Sum.elim (fun (s : Int × Int × Int × mS) r => mG (d + 1) 127 75 [(3, l0), (1, l1), (0, 0), (1, l3), (1, l4), (0, 0), (1, s.1), (1, s.2.1), (1, s.2.2.1)] [] s.2.2.2 r) (fun b r => r = b)) [([(75, 111)], [0, 1, 3, 4])] [(75, 95)] [(3, l0), (1, l1), (0, 0), (1, l3), (1, l4), (0, 0), (1, l6), (1, l7), (1, l8)] (by decide +kernel) rfl hC ?_ (fun v σ b r hb hk => by cases hb; exact hk) _ 75 [(3, l0), (1, l1), (0, 0), (1, l3), (1, l4), (0, 0), (1, l6), (1, l7), (1, l8)] [] σ b r rfl (mJ_self _ _ _) ((E_Mo_picture_75 l0 l1 l3 l4 l6 l7 l8 σ).trans h) hk
  intro i L st σ b r hj hb hk
  unfold F_Mo_picture_75 at hb
  split at hb
  · have key : ∀ (k0 k1 k3 k4 k6 k8 u0 : Int) (k2 k5 k7 : mV) (σ : mS) (b : ((Int × Int × Int × mS) ⊕ (Int × mS))) (r : Int × mS), mJ [(3, l0), (1, l1), (0, 0), (1, l3), (1, l4), (0, 0), (1, l6), (1, l7), (1, l8)] 96 [(3, k0), (1, k1), k2, (1, k3), (1, k4), k5, (1, k6), k7, (1, k8)] [([(75, 111)], [0, 1, 3, 4])] → (M_Mo_picture_96 k0 k1 k3 k4 k6 k8 u0 σ) = some b → (Sum.elim (fun (s : Int × Int × Int × mS) r => mG (d + 1) 127 75 [(3, l0), (1, l1), (0, 0), (1, l3), (1, l4), (0, 0), (1, s.1), (1, s.2.1), (1, s.2.2.1)] [] s.2.2.2 r) (fun b r => r = b)) b r → mG (d + 1) 127 96 [(3, k0), (1, k1), k2, (1, k3), (1, k4), k5, (1, k6), k7, (1, k8)] [(1, u0)] σ r := by
      intro k0 k1 k3 k4 k6 k8 u0 k2 k5 k7 σ b r hj hb hk
      have e0 : k0 = l0 := (Prod.mk.inj (Option.some.inj ((hj.1 rfl).1))).2
      subst e0
      have e1 : k1 = l1 := (Prod.mk.inj (Option.some.inj ((hj.1 rfl).2.1))).2
      subst e1
      have e3 : k3 = l3 := (Prod.mk.inj (Option.some.inj ((hj.1 rfl).2.2.1))).2
      subst e3
      have e4 : k4 = l4 := (Prod.mk.inj (Option.some.inj ((hj.1 rfl).2.2.2.1))).2
      subst e4
      exact (T_Mo_picture_96 hC hb hk).lle (lle_cons (lle_cons (lle_dead (lle_cons (lle_cons (lle_dead (lle_cons (lle_dead (lle_cons lle_nil)))))))))
    exact key _ _ _ _ _ _ _ _ _ _ σ b r hj hb hk
  · have key : ∀ (k0 k3 k4 k6 k7 k8 : Int) (k1 k2 k5 : mV) (σ : mS) (b : ((Int × Int × Int × mS) ⊕ (Int × mS))) (r : Int × mS), mJ [(3, l0), (1, l1), (0, 0), (1, l3), (1, l4), (0, 0), (1, l6), (1, l7), (1, l8)] 112 [(3, k0), k1, k2, (1, k3), (1, k4), k5, (1, k6), (1, k7), (1, k8)] [([(75, 111)], [0, 1, 3, 4])] → ((M_Mo_picture_112 k0 k3 k4 k6 k7 k8 σ).bind fun z => some (.inr z)) = some b → (Sum.elim (fun (s : Int × Int × Int × mS) r => mG (d + 1) 127 75 [(3, l0), (1, l1), (0, 0), (1, l3), (1, l4), (0, 0), (1, s.1), (1, s.2.1), (1, s.2.2.1)] [] s.2.2.2 r) (fun b r => r = b)) b r → mG (d + 1) 127 112 [(3, k0), k1, k2, (1, k3), (1, k4), k5, (1, k6), (1, k7), (1, k8)] [] σ r := by
      intro k0 k3 k4 k6 k7 k8 k1 k2 k5 σ b r hj hb hk
      obtain ⟨z, hz, e⟩ := Option.bind_eq_some_iff.mp hb
      cases e
      exact (T_Mo_picture_112 hC hz hk).lle (lle_cons (lle_dead (lle_dead (lle_cons (lle_cons (lle_dead (lle_cons (lle_cons (lle_cons lle_nil)))))))))
    exact key _ _ _ _ _ _ _ _ _ σ b r hj hb hk
  · cases hb
set_option maxRecDepth 100000 in
theorem T_Mo_picture_75 {d : Nat} (hC : ∀ k as σ p, C_Mo_picture k as σ = some p → mEx d k as σ p) {l0 l1 l3 l4 l6 l7 l8 : Int} {σ : mS} {b : Int × mS} {r : Int × mS} (h : M_Mo_picture_75 l0 l1 l3 l4 l6 l7 l8 σ = some b) (hk : (fun b r => r = b) b r) : mG (d + 1) 127 75 [(3, l0), (1, l1), (0, 0), (1, l3), (1, l4), (0, 0), (1, l6), (1, l7), (1, l8)] [] σ r :=
  miter_ok (G := fun (s : Int × Int × Int × mS) r => mG (d + 1) 127 75 [(3, l0), (1, l1), (0, 0), (1, l3), (1, l4), (0, 0), (1, s.1), (1, s.2.1), (1, s.2.2.1)] [] s.2.2.2 r) (K := (fun b r => r = b)) (fun s x r hs hx => TB_Mo_picture_75 hC hs hx) mN _ b r h hk
set_option maxRecDepth 100000 in
theorem T_Mo_picture_64 {d : Nat} (hC : ∀ k as σ p, C_Mo_picture k as σ = some p → mEx d k as σ p) {l0 l1 l3 l4 : Int} {σ : mS} {b : Int × mS} {r : Int × mS} (h : M_Mo_picture_64 l0 l1 l3 l4 σ = some b) (hk : (fun b r => r = b) b r) : mG (d + 1) 127 64 [(3, l0), (1, l1), (0, 0), (1, l3), (1, l4), (0, 0), (0, 0), (0, 0), (0, 0)] [] σ r := by
  refine mblk_ok1 P_Mo_picture (F := F_Mo_picture_64) (fun b r => r = b) hC ?_ (fun v σ b r hb hk => by cases hb; exact hk) _ 64 [(3, l0), (1, l1), (0, 0), (1, l3), (1, l4), (0, 0), (0, 0), (0, 0), (0, 0)] [] σ b r ((E_Mo_picture_64 l0 l1 l3 l4 σ).trans h) hk
  intro i L st σ b r hb hk
  unfold F_Mo_picture_64 at hb
  split at hb
  · have key : ∀ (k0 k1 k3 k4 k6 k7 k8 : Int) (k2 k5 : mV) (σ : mS) (b : Int × mS) (r : Int × mS), (M_Mo_picture_75 k0 k1 k3 k4 k6 k7 k8 σ) = some b → (fun b r => r = b) b r → mG (d + 1) 127 75 [(3, k0), (1, k1), k2, (1, k3), (1, k4), k5, (1, k6), (1, k7), (1, k8)] [] σ r := by
      intro k0 k1 k3 k4 k6 k7 k8 k2 k5 σ b r hb hk
      exact (T_Mo_picture_75 hC hb hk).lle (lle_cons (lle_cons (lle_dead (lle_cons (lle_cons (lle_dead (lle_cons (lle_cons (lle_cons lle_nil)))))))))
    exact key _ _ _ _ _ _ _ _ _ σ b r hb hk
  · cases hb
set_option maxRecDepth 100000 in
theorem T_Mo_picture_57 {d : Nat} (hC : ∀ k as σ p, C_Mo_picture k as σ = some p → mEx d k as σ p) {l0 l1 l3 l4 s0 : Int} {σ : mS} {b : ((Int × Int × mS) ⊕ (Int × mS))} {r : Int × mS} (h : M_Mo_picture_57 l0 l1 l3 l4 s0 σ = some b) (hk : (Sum.elim (fun (s : Int × Int × mS) r => mG (d + 1) 127 19 [(3, l0), (1, l1), (0, 0), (1, l3), (1, s.1), (1, s.2.1), (0, 0), (0, 0), (0, 0)] [] s.2.2 r) (fun b r => r = b)) b r) : mG (d + 1) 127 57 [(3, l0), (1, l1), (0, 0), (1, l3), (1, l4), (0, 0), (0, 0), (0, 0), (0, 0)] [(1, s0)] σ r := by
  refine mblk_ok2 P_Mo_picture (F := F_Mo_picture_57) (Sum.elim (fun (s : Int × Int × mS) r => mG (d + 1) 127 19 [(3, l0), (1, l1), (0, 0), (1, l3), (1, s.1), (1, s.2.1), (0, 0), (0, 0), (0, 0)] [] s.2.2 r) (fun b r => r = b)) [([(19, 63)], [0, 1, 3])] [(57, 58), (60, 63)] [(3, l0), (1, l1), (0, 0), (1, l3), (1, l4), (0, 0), (0, 0), (0, 0), (0, 0)] (by decide +kernel) rfl hC ?_ (fun v σ b r hb hk => by cases hb; exact hk) _ 57 [(3, l0), (1, l1), (0, 0), (1, l3), (1, l4), (0, 0), (0, 0), (0, 0), (0, 0)] [(1, s0)] σ b r rfl (mJ_self _ _ _) ((E_Mo_picture_57 l0 l1 l3 l4 s0 σ).trans h) hk
  intro i L st σ b r hj hb hk
  unfold F_Mo_picture_57 at hb
  split at hb
  · have key : ∀ (k0 k1 k3 k4 k5 : Int) (k2 k6 k7 k8 : mV) (σ : mS) (b : ((Int × Int × mS) ⊕ (Int × mS))) (r : Int × mS), mJ [(3, l0), (1, l1), (0, 0), (1, l3), (1, l4), (0, 0), (0, 0), (0, 0), (0, 0)] 19 [(3, k0), (1, k1), k2, (1, k3), (1, k4), (1, k5), k6, k7, k8] [([(19, 63)], [0, 1, 3])] → (some (.inl (k4, k5, σ))) = some b → (Sum.elim (fun (s : Int × Int × mS) r => mG (d + 1) 127 19 [(3, l0), (1, l1), (0, 0), (1, l3), (1, s.1), (1, s.2.1), (0, 0), (0, 0), (0, 0)] [] s.2.2 r) (fun b r => r = b)) b r → mG (d + 1) 127 19 [(3, k0), (1, k1), k2, (1, k3), (1, k4), (1, k5), k6, k7, k8] [] σ r := by
      intro k0 k1 k3 k4 k5 k2 k6 k7 k8 σ b r hj hb hk
      have e0 : k0 = l0 := (Prod.mk.inj (Option.some.inj ((hj.1 rfl).1))).2
      subst e0
      have e1 : k1 = l1 := (Prod.mk.inj (Option.some.inj ((hj.1 rfl).2.1))).2
      subst e1
      have e3 : k3 = l3 := (Prod.mk.inj (Option.some.inj ((hj.1 rfl).2.2.1))).2
      subst e3
      cases hb
      exact mG.lle hk (lle_cons (lle_cons (lle_dead (lle_cons (lle_cons (lle_cons (lle_dead (lle_dead (lle_dead lle_nil)))))))))
    exact key _ _ _ _ _ _ _ _ _ σ b r hj hb hk
  · cases hb
set_option maxRecDepth 100000 in
theorem T_Mo_picture_40 {d : Nat} (hC : ∀ k as σ p, C_Mo_picture k as σ = some p → mEx d k as σ p) {l0 l1 l3 l4 l5 : Int} {σ : mS} {b : ((Int × Int × mS) ⊕ (Int × mS))} {r : Int × mS} (h : M_Mo_picture_40 l0 l1 l3 l4 l5 σ = some b) (hk : (Sum.elim (fun (s : Int × Int × mS) r => mG (d + 1) 127 19 [(3, l0), (1, l1), (0, 0), (1, l3), (1, s.1), (1, s.2.1), (0, 0), (0, 0), (0, 0)] [] s.2.2 r) (fun b r => r = b)) b r) : mG (d + 1) 127 40 [(3, l0), (1, l1), (0, 0), (1, l3), (1, l4), (1, l5), (0, 0), (0, 0), (0, 0)] [] σ r := by
  refine mblk_ok2 P_Mo_picture (F := F_Mo_picture_40) (Sum.elim (fun (s : Int × Int × mS) r => mG (d + 1) 127 19 [(3, l0), (1, l1), (0, 0), (1, l3), (1, s.1), (1, s.2.1), (0, 0), (0, 0), (0, 0)] [] s.2.2 r) (fun b r => r = b)) [([(19, 63)], [0, 1, 3])] [(40, 56), (59, 63)] [(3, l0), (1, l1), (0, 0), (1, l3), (1, l4), (1, l5), (0, 0), (0, 0), (0, 0)] (by decide +kernel) rfl hC ?_ (fun v σ b r hb hk => by cases hb; exact hk) _ 40 [(3, l0), (1, l1), (0, 0), (1, l3), (1, l4), (1, l5), (0, 0), (0, 0), (0, 0)] [] σ b r rfl (mJ_self _ _ _) ((E_Mo_picture_40 l0 l1 l3 l4 l5 σ).trans h) hk
  intro i L st σ b r hj hb hk
  unfold F_Mo_picture_40 at hb
  split at hb
  · have key : ∀ (k0 k1 k3 k4 k5 : Int) (k2 k6 k7 k8 : mV) (σ : mS) (b : ((Int × Int × mS) ⊕ (Int × mS))) (r : Int × mS), mJ [(3, l0), (1, l1), (0, 0), (1, l3), (1, l4), (1, l5), (0, 0), (0, 0), (0, 0)] 19 [(3, k0), (1, k1), k2, (1, k3), (1, k4), (1, k5), k6, k7, k8] [([(19, 63)], [0, 1, 3])] → (some (.inl (k4, k5, σ))) = some b → (Sum.elim (fun (s : Int × Int × mS) r => mG (d + 1) 127 19 [(3, l0), (1, l1), (0, 0), (1, l3), (1, s.1), (1, s.2.1), (0, 0), (0, 0), (0, 0)] [] s.2.2 r) (fun b r => r = b)) b r → mG (d + 1) 127 19 [(3, k0), (1, k1), k2, (1, k3), (1, k4), (1, k5), k6, k7, k8] [] σ r := by
      intro k0 k1 k3 k4 k5 k2 k6 k7 k8 σ b r hj hb hk
      have e0 : k0 = l0 := (Prod.mk.inj (Option.some.inj ((hj.1 rfl).1))).2
      subst e0
      have e1 : k1 = l1 := (Prod.mk.inj (Option.some.inj ((hj.1 rfl).2.1))).2
      subst e1
      have e3 : k3 = l3 := (Prod.mk.inj (Option.some.inj ((hj.1 rfl).2.2.1))).2
      subst e3
      cases hb
      exact mG.lle hk (lle_cons (lle_cons (lle_dead (lle_cons (lle_cons (lle_cons (lle_dead (lle_dead (lle_dead lle_nil)))))))))
    exact key _ _ _ _ _ _ _ _ _ σ b r hj hb hk
  · have key : ∀ (k0 k1 k3 k4 u0 : Int) (k2 k5 k6 k7 k8 : mV) (σ : mS) (b : ((Int × Int × mS) ⊕ (Int × mS))) (r : Int × mS), mJ [(3, l0), (1, l1), (0, 0), (1, l3), (1, l4), (1, l5), (0, 0), (0, 0), (0, 0)] 57 [(3, k0), (1, k1), k2, (1, k3), (1, k4), k5, k6, k7, k8] [([(19, 63)], [0, 1, 3])] → (M_Mo_picture_57 k0 k1 k3 k4 u0 σ) = some b → (Sum.elim (fun (s : Int × Int × mS) r => mG (d + 1) 127 19 [(3, l0), (1, l1), (0, 0), (1, l3), (1, s.1), (1, s.2.1), (0, 0), (0, 0), (0, 0)] [] s.2.2 r) (fun b r => r = b)) b r → mG (d + 1) 127 57 [(3, k0), (1, k1), k2, (1, k3), (1, k4), k5, k6, k7, k8] [(1, u0)] σ r := by
      intro k0 k1 k3 k4 u0 k2 k5 k6 k7 k8 σ b r hj hb hk
      have e0 : k0 = l0 := (Prod.mk.inj (Option.some.inj ((hj.1 rfl).1))).2
      subst e0
      have e1 : k1 = l1 := (Prod.mk.inj (Option.some.inj ((hj.1 rfl).2.1))).2
      subst e1
      have e3 : k3 = l3 := (Prod.mk.inj (Option.some.inj ((hj.1 rfl).2.2.1))).2
      subst e3
      exact (T_Mo_picture_57 hC hb hk).lle (lle_cons (lle_cons (lle_dead (lle_cons (lle_cons (lle_dead (lle_dead (lle_dead (lle_dead lle_nil)))))))))
    exact key _ _ _ _ _ _ _ _ _ _ σ b r hj hb hk
  · cases hb
set_option maxRecDepth 100000 in
theorem T_Mo_picture_38 {d : Nat} (hC : ∀ k as σ p, C_Mo_picture k as σ = some p → mEx d k as σ p) {l0 l1 l3 l4 l5 : Int} {σ : mS} {b : ((Int × Int × mS) ⊕ (Int × mS))} {r : Int × mS} (h : M_Mo_picture_38 l0 l1 l3 l4 l5 σ = some b) (hk : (Sum.elim (fun (s : Int × Int × mS) r => mG (d + 1) 127 19 [(3, l0), (1, l1), (0, 0), (1, l3), (1, s.1), (1, s.2.1), (0, 0), (0, 0), (0, 0)] [] s.2.2 r) (fun b r => r = b)) b r) : mG (d + 1) 127 38 [(3, l0), (1, l1), (0, 0), (1, l3), (1, l4), (1, l5), (0, 0), (0, 0), (0, 0)] [] σ r := by
  refine mblk_ok2 P_Mo_picture (F := F_Mo_picture_38) (Sum.elim (fun (s : Int × Int × mS) r => mG (d + 1) 127 19 [(3, l0), (1, l1), (0, 0), (1, l3), (1, s.1), (1, s.2.1), (0, 0), (0, 0), (0, 0)] [] s.2.2 r) (fun b r => r = b)) [([(19, 63)], [0, 1, 3])] [(38, 39)] [(3, l0), (1, l1), (0, 0), (1, l3), (1, l4), (1, l5), (0, 0), (0, 0), (0, 0)] (by decide +kernel) rfl hC ?_ (fun v σ b r hb hk => by cases hb; exact hk) _ 38 [(3, l0), (1, l1), (0, 0), (1, l3), (1, l4), (1, l5), (0, 0), (0, 0), (0, 0)] [] σ b r rfl (mJ_self _ _ _) ((E_Mo_picture_38 l0 l1 l3 l4 l5 σ).trans h) hk
  intro i L st σ b r hj hb hk
  unfold F_Mo_picture_38 at hb
  split at hb
  · have key : ∀ (k0 k1 k3 k4 k5 : Int) (k2 k6 k7 k8 : mV) (σ : mS) (b : ((Int × Int × mS) ⊕ (Int × mS))) (r : Int × mS), mJ [(3, l0), (1, l1), (0, 0), (1, l3), (1, l4), (1, l5), (0, 0), (0, 0), (0, 0)] 40 [(3, k0), (1, k1), k2, (1, k3), (1, k4), (1, k5), k6, k7, k8] [([(19, 63)], [0, 1, 3])] → (M_Mo_picture_40 k0 k1 k3 k4 k5 σ) = some b → (Sum.elim (fun (s : Int × Int × mS) r => mG (d + 1) 127 19 [(3, l0), (1, l1), (0, 0), (1, l3), (1, s.1), (1, s.2.1), (0, 0), (0, 0), (0, 0)] [] s.2.2 r) (fun b r => r = b)) b r → mG (d + 1) 127 40 [(3, k0), (1, k1), k2, (1, k3), (1, k4), (1, k5), k6, k7, k8] [] σ r := by
      intro k0 k1 k3 k4 k5 k2 k6 k7 k8 σ b r hj hb hk
      have e0 : k0 = l0 := (Prod.mk.inj (Option.some.inj ((hj.1 rfl).1))).2
      subst e0
      have e1 : k1 = l1 := (Prod.mk.inj (Option.some.inj ((hj.1 rfl).2.1))).2
      subst e1
      have e3 : k3 = l3 := (Prod.mk.inj (Option.some.inj ((hj.1 rfl).2.2.1))).2
      subst e3
      exact (T_Mo_picture_40 hC hb hk).lle (lle_cons (lle_cons (lle_dead (lle_cons (lle_cons (lle_cons (lle_dead (lle_dead (lle_dead lle_nil)))))))))
    exact key _ _ _ _ _ _ _ _ _ σ b r hj hb hk
  · have key : ∀ (k0 k1 k3 k4 : Int) (k2 k5 k6 k7 k8 : mV) (σ : mS) (b : ((Int × Int × mS) ⊕ (Int × mS))) (r : Int × mS), mJ [(3, l0), (1, l1), (0, 0), (1, l3), (1, l4), (1, l5), (0, 0), (0, 0), (0, 0)] 64 [(3, k0), (1, k1), k2, (1, k3), (1, k4), k5, k6, k7, k8] [([(19, 63)], [0, 1, 3])] → ((M_Mo_picture_64 k0 k1 k3 k4 σ).bind fun z => some (.inr z)) = some b → (Sum.elim (fun (s : Int × Int × mS) r => mG (d + 1) 127 19 [(3, l0), (1, l1), (0, 0), (1, l3), (1, s.1), (1, s.2.1), (0, 0), (0, 0), (0, 0)] [] s.2.2 r) (fun b r => r = b)) b r → mG (d + 1) 127 64 [(3, k0), (1, k1), k2, (1, k3), (1, k4), k5, k6, k7, k8] [] σ r := by
      intro k0 k1 k3 k4 k2 k5 k6 k7 k8 σ b r hj hb hk
      obtain ⟨z, hz, e⟩ := Option.bind_eq_some_iff.mp hb
      cases e
      exact (T_Mo_picture_64 hC hz hk).lle (lle_cons (lle_cons (lle_dead (lle_cons (lle_cons (lle_dead (lle_dead (lle_dead (lle_dead lle_nil)))))))))
    exact key _ _ _ _ _ _ _ _ _ σ b r hj hb hk
  · cases hb
set_option maxRecDepth 100000 in
theorem TB_Mo_picture_19 {d : Nat} (hC : ∀ k as σ p, C_Mo_picture k as σ = some p → mEx d k as σ p) {l0 l1 l3 l4 l5 : Int} {σ : mS} {b : ((Int × Int × mS) ⊕ (Int × mS))} {r : Int × mS} (h : B_Mo_picture_19 l0 l1 l3 l4 l5 σ = some b) (hk : (Sum.elim (fun (s : Int × Int × mS) r => mG (d + 1) 127 19 [(3, l0), (1, l1), (0, 0), (1, l3), (1, s.1), (1, s.2.1), (0, 0), (0, 0), (0, 0)] [] s.2.2 r) (fun b r => r = b)) b r) : mG (d + 1) 127 19 [(3, l0), (1, l1), (0, 0), (1, l3), (1, l4), (1, l5), (0, 0), (0, 0), (0, 0)] [] σ r := by
  refine mblk_ok2 P_Mo_picture (F := F_Mo_picture_19) (Sum.elim (fun (s : Int × Int × mS) r => mG (d + 1) 127 19 [(3, l0), (1, l1), (0, 0), (1, l3), (1, s.1), (1, s.2.1), (0, 0), (0, 0), (0, 0)] [] s.2.2 r) (fun b r => r = b)) [([(19, 63)], [0, 1, 3])] [(19, 37)] [(3, l0), (1, l1), (0, 0), (1, l3), (1, l4), (1, l5), (0, 0), (0, 0), (0, 0)] (by decide +kernel) rfl hC ?_ (fun v σ b r hb hk => by cases hb; exact hk) _ 19 [(3, l0), (1, l1), (0, 0), (1, l3), (1, l4), (1, l5), (0, 0), (0, 0), (0, 0)] [] σ b r rfl (mJ_self _ _ _) ((E_Mo_picture_19 l0 l1 l3 l4 l5 σ).trans h) hk
  intro i L st σ b r hj hb hk
  unfold F_Mo_picture_19 at hb
  split at hb
  · have key : ∀ (k0 k1 k3 k4 k5 : Int) (k2 k6 k7 k8 : mV) (σ : mS) (b : ((Int × Int × mS) ⊕ (Int × mS))) (r : Int × mS), mJ [(3, l0), (1, l1), (0, 0), (1, l3), (1, l4), (1, l5), (0, 0), (0, 0), (0, 0)] 38 [(3, k0), (1, k1), k2, (1, k3), (1, k4), (1, k5), k6, k7, k8] [([(19, 63)], [0, 1, 3])] → (M_Mo_picture_38 k0 k1 k3 k4 k5 σ) = some b → (Sum.elim (fun (s : Int × Int × mS) r => mG (d + 1) 127 19 [(3, l0), (1, l1), (0, 0), (1, l3), (1, s.1), (1, s.2.1), (0, 0), (0, 0), (0, 0)] [] s.2.2 r) (fun b r => r = b)) b r → mG (d + 1) 127 38 [(3, k0), (1, k1), k2, (1, k3), (1, k4), (1, k5), k6, k7, k8] [] σ r := by
      intro k0 k1 k3 k4 k5 k2 k6 k7 k8 σ b r hj hb hk
      have e0 : k0 = l0 := (Prod.mk.inj (Option.some.inj ((hj.1 rfl).1))).2
      subst e0
      have e1 : k1 = l1 := (Prod.mk.inj (Option.some.inj ((hj.1 rfl).2.1))).2
      subst e1
      have e3 : k3 = l3 := (Prod.mk.inj (Option.some.inj ((hj.1 rfl).2.2.1))).2
      subst e3
      exact (T_Mo_picture_38 hC hb hk).lle (lle_cons (lle_cons (lle_dead (lle_cons (lle_cons (lle_cons (lle_dead (lle_dead (lle_dead lle_nil)))))))))
    exact key _ _ _ _ _ _ _ _ _ σ b r hj hb hk
  · have key : ∀ (k0 k1 k3 k4 k5 : Int) (k2 k6 k7 k8 : mV) (σ : mS) (b : ((Int × Int × mS) ⊕ (Int × mS))) (r : Int × mS), mJ [(3, l0), (1, l1), (0, 0), (1, l3), (1, l4), (1, l5), (0, 0), (0, 0), (0, 0)] 40 [(3, k0), (1, k1), k2, (1, k3), (1, k4), (1, k5), k6, k7, k8] [([(19, 63)], [0, 1, 3])] → (M_Mo_picture_40 k0 k1 k3 k4 k5 σ) = some b → (Sum.elim (fun (s : Int × Int × mS) r => mG (d + 1) 127 19 [(3, l0), (1, l1), (0, 0), (1, l3), (1, s.1), (1, s.2.1), (0, 0), (0, 0), (0, 0)] [] s.2.2 r) (fun b r => r = b)) b r → mG (d + 1) 127 40 [(3, k0), (1, k1), k2, (1, k3), (1, k4), (1, k5), k6, k7, k8] [] σ r := by
      intro k0 k1 k3 k4 k5 k2 k6 k7 k8 σ b r hj hb hk
      have e0 : k0 = l0 := (Prod.mk.inj (Option.some.inj ((hj.1 rfl).1))).2
      subst e0
      have e1 : k1 = l1 := (Prod.mk.inj (Option.some.inj ((hj.1 rfl).2.1))).2
      subst e1
      have e3 : k3 = l3 := (Prod.mk.inj (Option.some.inj ((hj.1 rfl).2.2.1))).2
      subst e3
      exact (T_Mo_picture_40 hC hb hk).lle (lle_cons (lle_cons (lle_dead (lle_cons (lle_cons (lle_cons (lle_dead (lle_dead (lle_dead lle_nil)))))))))
    exact key _ _ _ _ _ _ _ _ _ σ b r hj hb hk
  · have key : ∀ (k0 k1 k3 k4 : Int) (k2 k5 k6 k7 k8 : mV) (σ : mS) (b : ((Int × Int × mS) ⊕ (Int × mS))) (r : Int × mS), mJ [(3, l0), (1, l1), (0, 0), (1, l3), (1, l4), (1, l5), (0, 0), (0, 0), (0, 0)] 64 [(3, k0), (1, k1), k2, (1, k3), (1, k4), k5, k6, k7, k8] [([(19, 63)], [0, 1, 3])] → ((M_Mo_picture_64 k0 k1 k3 k4 σ).bind fun z => some (.inr z)) = some b → (Sum.elim (fun (s : Int × Int × mS) r => mG (d + 1) 127 19 [(3, l0), (1, l1), (0, 0), (1, l3), (1, s.1), (1, s.2.1), (0, 0), (0, 0), (0, 0)] [] s.2.2 r) (fun b r => r = b)) b r → mG (d + 1) 127 64 [(3, k0), (1, k1), k2, (1, k3), (1, k4), k5, k6, k7, k8] [] σ r := by
      intro k0 k1 k3 k4 k2 k5 k6 k7 k8 σ b r hj hb hk
      obtain ⟨z, hz, e⟩ := Option.bind_eq_some_iff.mp hb
      cases e
      exact (T_Mo_picture_64 hC hz hk).lle (lle_cons (lle_cons (lle_dead (lle_cons (lle_cons (lle_dead (lle_dead (lle_dead (lle_dead lle_nil)))))))))
    exact key _ _ _ _ _ _ _ _ _ σ b r hj hb hk
  · cases hb
set_option maxRecDepth 100000 in
theorem T_Mo_picture_19 {d : Nat} (hC : ∀ k as σ p, C_Mo_picture k as σ = some p → mEx d k as σ p) {l0 l1 l3 l4 l5 : Int} {σ : mS} {b : Int × mS} {r : Int × mS} (h : M_Mo_picture_19 l0 l1 l3 l4 l5 σ = some b) (hk : (fun b r => r = b) b r) : mG (d + 1) 127 19 [(3, l0), (1, l1), (0, 0), (1, l3), (1, l4), (1, l5), (0, 0), (0, 0), (0, 0)] [] σ r :=
  miter_ok (G := fun (s : Int × Int × mS) r => mG (d + 1) 127 19 [(3, l0), (1, l1), (0, 0), (1, l3), (1, s.1), (1, s.2.1), (0, 0), (0, 0), (0, 0)] [] s.2.2 r) (K := (fun b r => r = b)) (fun s x r hs hx => TB_Mo_picture_19 hC hs hx) mN _ b r h hk
set_option maxRecDepth 100000 in
theorem T_Mo_picture_0 {d : Nat} (hC : ∀ k as σ p, C_Mo_picture k as σ = some p → mEx d k as σ p) {l0 l1 l2 l3 : Int} {σ : mS} {b : Int × mS} {r : Int × mS} (h : M_Mo_picture l0 l1 l2 l3 σ = some b) (hk : (fun b r => r = b) b r) : mG (d + 1) 127 0 (mInit 9 [(3, l0), (1, l1), (1, l2), (1, l3)]) [] σ r := by
  refine mblk_ok1 P_Mo_picture (F := F_Mo_picture_0) (fun b r => r = b) hC ?_ (fun v σ b r hb hk => by cases hb; exact hk) _ 0 (mInit 9 [(3, l0), (1, l1), (1, l2), (1, l3)]) [] σ b r ((E_Mo_picture_0 l0 l1 l2 l3 σ).trans h) hk
  intro i L st σ b r hb hk
  unfold F_Mo_picture_0 at hb
  split at hb
  · have key : ∀ (k0 k1 k3 k4 k5 : Int) (k2 k6 k7 k8 : mV) (σ : mS) (b : Int × mS) (r : Int × mS), (M_Mo_picture_19 k0 k1 k3 k4 k5 σ) = some b → (fun b r => r = b) b r → mG (d + 1) 127 19 [(3, k0), (1, k1), k2, (1, k3), (1, k4), (1, k5), k6, k7, k8] [] σ r := by
      intro k0 k1 k3 k4 k5 k2 k6 k7 k8 σ b r hb hk
      exact (T_Mo_picture_19 hC hb hk).lle (lle_cons (lle_cons (lle_dead (lle_cons (lle_cons (lle_cons (lle_dead (lle_dead (lle_dead lle_nil)))))))))
    exact key _ _ _ _ _ _ _ _ _ σ b r hb hk
  · cases hb
set_option maxRecDepth 100000 in
theorem T_Mo_picture {l0 l1 l2 l3 : Int} {σ : mS} {r : Int × mS} (h : M_Mo_picture l0 l1 l2 l3 σ = some r) : mEx 128 127 [(3, l0), (1, l1), (1, l2), (1, l3)] σ r :=
  ⟨by rw [P_Mo_picture]; exact Nat.le_of_ble_eq_true rfl, by rw [P_Mo_picture]; exact T_Mo_picture_0 TC_Mo_picture h rfl⟩
set_option maxRecDepth 100000 in
theorem P_Mo_hidden : mProg 128 = (c_Mo_hidden, 2) := rfl
set_option maxRecDepth 100000 in
theorem TC_Mo_hidden : ∀ k as σ p, C_Mo_hidden k as σ = some p → mEx 127 k as σ p := by
  intro k as σ p hp
  unfold C_Mo_hidden at hp
  split at hp
  · exact (T_Mo_isThing hp).up (Nat.le_of_ble_eq_true rfl)
  · exact (T_Mo_looksNow hp).up (Nat.le_of_ble_eq_true rfl)
  · exact (T_Mo_hiddenNow hp).up (Nat.le_of_ble_eq_true rfl)
  · cases hp
set_option maxRecDepth 100000 in
theorem T_Mo_hidden_0 {d : Nat} (hC : ∀ k as σ p, C_Mo_hidden k as σ = some p → mEx d k as σ p) {l0 l1 : Int} {σ : mS} {b : Int × mS} {r : Int × mS} (h : M_Mo_hidden l0 l1 σ = some b) (hk : (fun b r => r = b) b r) : mG (d + 1) 128 0 (mInit 2 [(3, l0), (1, l1)]) [] σ r := by
  refine mblk_ok1 P_Mo_hidden (F := F_Mo_hidden_0) (fun b r => r = b) hC ?_ (fun v σ b r hb hk => by cases hb; exact hk) _ 0 (mInit 2 [(3, l0), (1, l1)]) [] σ b r ((E_Mo_hidden_0 l0 l1 σ).trans h) hk
  intro i L st σ b r hb hk
  cases hb
set_option maxRecDepth 100000 in
theorem T_Mo_hidden {l0 l1 : Int} {σ : mS} {r : Int × mS} (h : M_Mo_hidden l0 l1 σ = some r) : mEx 128 128 [(3, l0), (1, l1)] σ r :=
  ⟨by rw [P_Mo_hidden]; exact Nat.le_of_ble_eq_true rfl, by rw [P_Mo_hidden]; exact T_Mo_hidden_0 TC_Mo_hidden h rfl⟩
set_option maxRecDepth 100000 in
theorem P_Mo_water : mProg 129 = (c_Mo_water, 7) := rfl
set_option maxRecDepth 100000 in
theorem TC_Mo_water : ∀ k as σ p, C_Mo_water k as σ = some p → mEx 126 k as σ p := by
  intro k as σ p hp
  unfold C_Mo_water at hp
  split at hp
  · exact (T_Mo_lies hp).up (Nat.le_of_ble_eq_true rfl)
  · exact (T_Mo_goesNow hp).up (Nat.le_of_ble_eq_true rfl)
  · cases hp
set_option maxRecDepth 100000 in
theorem TB_Mo_water_63 {d : Nat} (hC : ∀ k as σ p, C_Mo_water k as σ = some p → mEx d k as σ p) {l0 l5 l6 : Int} {σ : mS} {b : ((Int × Int × mS) ⊕ (Int × mS))} {r : Int × mS} (h : B_Mo_water_63 l0 l5 l6 σ = some b) (hk : (Sum.elim (fun (s : Int × Int × mS) r => mG (d + 1) 129 63 [(3, l0), (0, 0), (0, 0), (0, 0), (0, 0), (1, s.1), (1, s.2.1)] [] s.2.2 r) (fun b r => r = b)) b r) : mG (d + 1) 129 63 [(3, l0), (0, 0), (0, 0), (0, 0), (0, 0), (1, l5), (1, l6)] [] σ r := by
  refine mblk_ok2 P_Mo_water (F := F_Mo_water_63) (Sum.elim (fun (s : Int × Int × mS) r => mG (d + 1) 129 63 [(3, l0), (0, 0), (0, 0), (0, 0), (0, 0), (1, s.1), (1, s.2.1)] [] s.2.2 r) (fun b r => r = b)) [([(63, 79)], [0])] [(63, 81)] [(3, l0), (0, 0), (0, 0), (0, 0), (0, 0), (1, l5), (1, l6)] (by decide +kernel) rfl hC ?_ (fun v σ b r hb hk => by cases hb; exact hk) _ 63 [(3, l0), (0, 0), (0, 0), (0, 0), (0, 0), (1, l5), (1, l6)] [] σ b r rfl (mJ_self _ _ _) ((E_Mo_water_63 l0 l5 l6 σ).trans h) hk
  intro i L st σ b r hj hb hk
  unfold F_Mo_water_63 at hb
  split at hb
  · have key : ∀ (k0 k5 k6 : Int) (k1 k2 k3 k4 : mV) (σ : mS) (b : ((Int × Int × mS) ⊕ (Int × mS))) (r : Int × mS), mJ [(3, l0), (0, 0), (0, 0), (0, 0), (0, 0), (1, l5), (1, l6)] 63 [(3, k0), k1, k2, k3, k4, (1, k5), (1, k6)] [([(63, 79)], [0])] → (some (.inl (k5, k6, σ))) = some b → (Sum.elim (fun (s : Int × Int × mS) r => mG (d + 1) 129 63 [(3, l0), (0, 0), (0, 0), (0, 0), (0, 0), (1, s.1), (1, s.2.1)] [] s.2.2 r) (fun b r => r = b)) b r → mG (d + 1) 129 63 [(3, k0), k1, k2, k3, k4, (1, k5), (1, k6)] [] σ r := by
      intro k0 k5 k6 k1 k2 k3 k4 σ b r hj hb hk
      have e0 : k0 = l0 := (Prod.mk.inj (Option.some.inj ((hj.1 rfl).1))).2
      subst e0
      cases hb
      exact mG.lle hk (lle_cons (lle_dead (lle_dead (lle_dead (lle_dead (lle_cons (lle_cons lle_nil)))))))
    exact key _ _ _ _ _ _ _ σ b r hj hb hk
  · cases hb
set_option maxRecDepth 100000 in
theorem T_Mo_water_63 {d : Nat} (hC : ∀ k as σ p, C_Mo_water k as σ = some p → mEx d k as σ p) {l0 l5 l6 : Int} {σ : mS} {b : Int × mS} {r : Int × mS} (h : M_Mo_water_63 l0 l5 l6 σ = some b) (hk : (fun b r => r = b) b r) : mG (d + 1) 129 63 [(3, l0), (0, 0), (0, 0), (0, 0), (0, 0), (1, l5), (1, l6)] [] σ r :=
  miter_ok (G := fun (s : Int × Int × mS) r => mG (d + 1) 129 63 [(3, l0), (0, 0), (0, 0), (0, 0), (0, 0), (1, s.1), (1, s.2.1)] [] s.2.2 r) (K := (fun b r => r = b)) (fun s x r hs hx => TB_Mo_water_63 hC hs hx) mN _ b r h hk
set_option maxRecDepth 100000 in
theorem T_Mo_water_46 {d : Nat} (hC : ∀ k as σ p, C_Mo_water k as σ = some p → mEx d k as σ p) {l1 l3 l4 : Int} {σ : mS} {b : Int × mS} {r : Int × mS} (h : M_Mo_water_46 l1 l3 l4 σ = some b) (hk : (fun b r => r = b) b r) : mG (d + 1) 129 46 [(0, 0), (1, l1), (0, 0), (1, l3), (1, l4), (0, 0), (0, 0)] [] σ r := by
  refine mblk_ok1 P_Mo_water (F := F_Mo_water_46) (fun b r => r = b) hC ?_ (fun v σ b r hb hk => by cases hb; exact hk) _ 46 [(0, 0), (1, l1), (0, 0), (1, l3), (1, l4), (0, 0), (0, 0)] [] σ b r ((E_Mo_water_46 l1 l3 l4 σ).trans h) hk
  intro i L st σ b r hb hk
  cases hb
set_option maxRecDepth 100000 in
theorem TB_Mo_water_15 {d : Nat} (hC : ∀ k as σ p, C_Mo_water k as σ = some p → mEx d k as σ p) {l0 l1 l2 l3 l4 l5 : Int} {σ : mS} {b : ((Int × Int × Int × Int × mS) ⊕ (Int × mS))} {r : Int × mS} (h : B_Mo_water_15 l0 l1 l2 l3 l4 l5 σ = some b) (hk : (Sum.elim (fun (s : Int × Int × Int × Int × mS) r => mG (d + 1) 129 15 [(3, l0), (1, l1), (1, s.1), (1, s.2.1), (1, s.2.2.1), (1, s.2.2.2.1), (0, 0)] [] s.2.2.2.2 r) (fun b r => r = b)) b r) : mG (d + 1) 129 15 [(3, l0), (1, l1), (1, l2), (1, l3), (1, l4), (1, l5), (0, 0)] [] σ r := by
  refine mblk_ok2 P_Mo_water (F := F_Mo_water_15) (Sum.elim (fun (s : Int × Int × Int × Int × mS) r => mG (d + 1) 129 15 [(3, l0), (1, l1), (1, s.1), (1, s.2.1), (1, s.2.2.1), (1, s.2.2.2.1), (0, 0)] [] s.2.2.2.2 r) (fun b r => r = b)) [([(15, 36)], [0, 1])] [(15, 45), (53, 62)] [(3, l0), (1, l1), (1, l2), (1, l3), (1, l4), (1, l5), (0, 0)] (by decide +kernel) rfl hC ?_ (fun v σ b r hb hk => by cases hb; exact hk) _ 15 [(3, l0), (1, l1), (1, l2), (1, l3), (1, l4), (1, l5), (0, 0)] [] σ b r rfl (mJ_self _ _ _) ((E_Mo_water_15 l0 l1 l2 l3 l4 l5 σ).trans h) hk
  intro i L st σ b r hj hb hk
  unfold F_Mo_water_15 at hb
  split at hb
  · have key : ∀ (k0 k1 k2 k3 k4 k5 : Int) (k6 : mV) (σ : mS) (b : ((Int × Int × Int × Int × mS) ⊕ (Int × mS))) (r : Int × mS), mJ [(3, l0), (1, l1), (1, l2), (1, l3), (1, l4), (1, l5), (0, 0)] 15 [(3, k0), (1, k1), (1, k2), (1, k3), (1, k4), (1, k5), k6] [([(15, 36)], [0, 1])] → (some (.inl (k2, k3, k4, k5, σ))) = some b → (Sum.elim (fun (s : Int × Int × Int × Int × mS) r => mG (d + 1) 129 15 [(3, l0), (1, l1), (1, s.1), (1, s.2.1), (1, s.2.2.1), (1, s.2.2.2.1), (0, 0)] [] s.2.2.2.2 r) (fun b r => r = b)) b r → mG (d + 1) 129 15 [(3, k0), (1, k1), (1, k2), (1, k3), (1, k4), (1, k5), k6] [] σ r := by
      intro k0 k1 k2 k3 k4 k5 k6 σ b r hj hb hk
      have e0 : k0 = l0 := (Prod.mk.inj (Option.some.inj ((hj.1 rfl).1))).2
      subst e0
      have e1 : k1 = l1 := (Prod.mk.inj (Option.some.inj ((hj.1 rfl).2.1))).2
      subst e1
      cases hb
      exact mG.lle hk (lle_cons (lle_cons (lle_cons (lle_cons (lle_cons (lle_cons (lle_dead lle_nil)))))))
    exact key _ _ _ _ _ _ _ σ b r hj hb hk
  · have key : ∀ (k1 k3 k4 : Int) (k0 k2 k5 k6 : mV) (σ : mS) (b : ((Int × Int × Int × Int × mS) ⊕ (Int × mS))) (r : Int × mS), mJ [(3, l0), (1, l1), (1, l2), (1, l3), (1, l4), (1, l5), (0, 0)] 46 [k0, (1, k1), k2, (1, k3), (1, k4), k5, k6] [([(15, 36)], [0, 1])] → ((M_Mo_water_46 k1 k3 k4 σ).bind fun z => some (.inr z)) = some b → (Sum.elim (fun (s : Int × Int × Int × Int × mS) r => mG (d + 1) 129 15 [(3, l0), (1, l1), (1, s.1), (1, s.2.1), (1, s.2.2.1), (1, s.2.2.2.1), (0, 0)] [] s.2.2.2.2 r) (fun b r => r = b)) b r → mG (d + 1) 129 46 [k0, (1, k1), k2, (1, k3), (1, k4), k5, k6] [] σ r := by
      intro k1 k3 k4 k0 k2 k5 k6 σ b r hj hb hk
      obtain ⟨z, hz, e⟩ := Option.bind_eq_some_iff.mp hb
      cases e
      exact (T_Mo_water_46 hC hz hk).lle (lle_dead (lle_cons (lle_dead (lle_cons (lle_cons (lle_dead (lle_dead lle_nil)))))))
    exact key _ _ _ _ _ _ _ σ b r hj hb hk
  · have key : ∀ (k0 k5 k6 : Int) (k1 k2 k3 k4 : mV) (σ : mS) (b : ((Int × Int × Int × Int × mS) ⊕ (Int × mS))) (r : Int × mS), mJ [(3, l0), (1, l1), (1, l2), (1, l3), (1, l4), (1, l5), (0, 0)] 63 [(3, k0), k1, k2, k3, k4, (1, k5), (1, k6)] [([(15, 36)], [0, 1])] → ((M_Mo_water_63 k0 k5 k6 σ).bind fun z => some (.inr z)) = some b → (Sum.elim (fun (s : Int × Int × Int × Int × mS) r => mG (d + 1) 129 15 [(3, l0), (1, l1), (1, s.1), (1, s.2.1), (1, s.2.2.1), (1, s.2.2.2.1), (0, 0)] [] s.2.2.2.2 r) (fun b r => r = b)) b r → mG (d + 1) 129 63 [(3, k0), k1, k2, k3, k4, (1, k5), (1, k6)] [] σ r := by
      intro k0 k5 k6 k1 k2 k3 k4 σ b r hj hb hk
      obtain ⟨z, hz, e⟩ := Option.bind_eq_some_iff.mp hb
      cases e
      exact (T_Mo_water_63 hC hz hk).lle (lle_cons (lle_dead (lle_dead (lle_dead (lle_dead (lle_cons (lle_cons lle_nil)))))))
    exact key _ _ _ _ _ _ _ σ b r hj hb hk
  · cases hb
set_option maxRecDepth 100000 in
theorem T_Mo_water_15 {d : Nat} (hC : ∀ k as σ p, C_Mo_water k as σ = some p → mEx d k as σ p) {l0 l1 l2 l3 l4 l5 : Int} {σ : mS} {b : Int × mS} {r : Int × mS} (h : M_Mo_water_15 l0 l1 l2 l3 l4 l5 σ = some b) (hk : (fun b r => r = b) b r) : mG (d + 1) 129 15 [(3, l0), (1, l1), (1, l2), (1, l3), (1, l4), (1, l5), (0, 0)] [] σ r :=
  miter_ok (G := fun (s : Int × Int × Int × Int × mS) r => mG (d + 1) 129 15 [(3, l0), (1, l1), (1, s.1), (1, s.2.1), (1, s.2.2.1), (1, s.2.2.2.1), (0, 0)] [] s.2.2.2.2 r) (K := (fun b r => r = b)) (fun s x r hs hx => TB_Mo_water_15 hC hs hx) mN _ b r h hk
set_option maxRecDepth 100000 in
theorem T_Mo_water_0 {d : Nat} (hC : ∀ k as σ p, C_Mo_water k as σ = some p → mEx d k as σ p) {l0 l1 : Int} {σ : mS} {b : Int × mS} {r : Int × mS} (h : M_Mo_water l0 l1 σ = some b) (hk : (fun b r => r = b) b r) : mG (d + 1) 129 0 (mInit 7 [(3, l0), (1, l1)]) [] σ r := by
  refine mblk_ok1 P_Mo_water (F := F_Mo_water_0) (fun b r => r = b) hC ?_ (fun v σ b r hb hk => by cases hb; exact hk) _ 0 (mInit 7 [(3, l0), (1, l1)]) [] σ b r ((E_Mo_water_0 l0 l1 σ).trans h) hk
  intro i L st σ b r hb hk
  unfold F_Mo_water_0 at hb
  split at hb
  · have key : ∀ (k0 k1 k2 k3 k4 k5 : Int) (k6 : mV) (σ : mS) (b : Int × mS) (r : Int × mS), (M_Mo_water_15 k0 k1 k2 k3 k4 k5 σ) = some b → (fun b r => r = b) b r → mG (d + 1) 129 15 [(3, k0), (1, k1), (1, k2), (1, k3), (1, k4), (1, k5), k6] [] σ r := by
      intro k0 k1 k2 k3 k4 k5 k6 σ b r hb hk
      exact (T_Mo_water_15 hC hb hk).lle (lle_cons (lle_cons (lle_cons (lle_cons (lle_cons (lle_cons (lle_dead lle_nil)))))))
    exact key _ _ _ _ _ _ _ σ b r hb hk
  · cases hb
set_option maxRecDepth 100000 in
theorem T_Mo_water {l0 l1 : Int} {σ : mS} {r : Int × mS} (h : M_Mo_water l0 l1 σ = some r) : mEx 127 129 [(3, l0), (1, l1)] σ r :=
  ⟨by rw [P_Mo_water]; exact Nat.le_of_ble_eq_true rfl, by rw [P_Mo_water]; exact T_Mo_water_0 TC_Mo_water h rfl⟩
set_option maxRecDepth 100000 in
theorem P_Mo_horizon : mProg 130 = (c_Mo_horizon, 2) := rfl
set_option maxRecDepth 100000 in
theorem TC_Mo_horizon : ∀ k as σ p, C_Mo_horizon k as σ = some p → mEx 126 k as σ p := by
  intro k as σ p hp
  unfold C_Mo_horizon at hp
  split at hp
  · exact (T_Mo_goesNow hp).up (Nat.le_of_ble_eq_true rfl)
  · cases hp
set_option maxRecDepth 100000 in
theorem TB_Mo_horizon_2 {d : Nat} (hC : ∀ k as σ p, C_Mo_horizon k as σ = some p → mEx d k as σ p) {l0 l1 : Int} {σ : mS} {b : ((Int × mS) ⊕ (Int × mS))} {r : Int × mS} (h : B_Mo_horizon_2 l0 l1 σ = some b) (hk : (Sum.elim (fun (s : Int × mS) r => mG (d + 1) 130 2 [(3, l0), (1, s.1)] [] s.2 r) (fun b r => r = b)) b r) : mG (d + 1) 130 2 [(3, l0), (1, l1)] [] σ r := by
  refine mblk_ok2 P_Mo_horizon (F := F_Mo_horizon_2) (Sum.elim (fun (s : Int × mS) r => mG (d + 1) 130 2 [(3, l0), (1, s.1)] [] s.2 r) (fun b r => r = b)) [([(2, 10), (13, 14)], [0])] [(2, 16)] [(3, l0), (1, l1)] (by decide +kernel) rfl hC ?_ (fun v σ b r hb hk => by cases hb; exact hk) _ 2 [(3, l0), (1, l1)] [] σ b r rfl (mJ_self _ _ _) ((E_Mo_horizon_2 l0 l1 σ).trans h) hk
  intro i L st σ b r hj hb hk
  unfold F_Mo_horizon_2 at hb
  split at hb
  · have key : ∀ (k0 k1 : Int) (σ : mS) (b : ((Int × mS) ⊕ (Int × mS))) (r : Int × mS), mJ [(3, l0), (1, l1)] 2 [(3, k0), (1, k1)] [([(2, 10), (13, 14)], [0])] → (some (.inl (k1, σ))) = some b → (Sum.elim (fun (s : Int × mS) r => mG (d + 1) 130 2 [(3, l0), (1, s.1)] [] s.2 r) (fun b r => r = b)) b r → mG (d + 1) 130 2 [(3, k0), (1, k1)] [] σ r := by
      intro k0 k1 σ b r hj hb hk
      have e0 : k0 = l0 := (Prod.mk.inj (Option.some.inj ((hj.1 rfl).1))).2
      subst e0
      cases hb
      exact mG.lle hk (lle_cons (lle_cons lle_nil))
    exact key _ _ σ b r hj hb hk
  · cases hb
set_option maxRecDepth 100000 in
theorem T_Mo_horizon_2 {d : Nat} (hC : ∀ k as σ p, C_Mo_horizon k as σ = some p → mEx d k as σ p) {l0 l1 : Int} {σ : mS} {b : Int × mS} {r : Int × mS} (h : M_Mo_horizon_2 l0 l1 σ = some b) (hk : (fun b r => r = b) b r) : mG (d + 1) 130 2 [(3, l0), (1, l1)] [] σ r :=
  miter_ok (G := fun (s : Int × mS) r => mG (d + 1) 130 2 [(3, l0), (1, s.1)] [] s.2 r) (K := (fun b r => r = b)) (fun s x r hs hx => TB_Mo_horizon_2 hC hs hx) mN _ b r h hk
set_option maxRecDepth 100000 in
theorem T_Mo_horizon_0 {d : Nat} (hC : ∀ k as σ p, C_Mo_horizon k as σ = some p → mEx d k as σ p) {l0 : Int} {σ : mS} {b : Int × mS} {r : Int × mS} (h : M_Mo_horizon l0 σ = some b) (hk : (fun b r => r = b) b r) : mG (d + 1) 130 0 (mInit 2 [(3, l0)]) [] σ r := by
  refine mblk_ok1 P_Mo_horizon (F := F_Mo_horizon_0) (fun b r => r = b) hC ?_ (fun v σ b r hb hk => by cases hb; exact hk) _ 0 (mInit 2 [(3, l0)]) [] σ b r ((E_Mo_horizon_0 l0 σ).trans h) hk
  intro i L st σ b r hb hk
  unfold F_Mo_horizon_0 at hb
  split at hb
  · have key : ∀ (k0 k1 : Int) (σ : mS) (b : Int × mS) (r : Int × mS), (M_Mo_horizon_2 k0 k1 σ) = some b → (fun b r => r = b) b r → mG (d + 1) 130 2 [(3, k0), (1, k1)] [] σ r := by
      intro k0 k1 σ b r hb hk
      exact (T_Mo_horizon_2 hC hb hk).lle (lle_cons (lle_cons lle_nil))
    exact key _ _ σ b r hb hk
  · cases hb
set_option maxRecDepth 100000 in
theorem T_Mo_horizon {l0 : Int} {σ : mS} {r : Int × mS} (h : M_Mo_horizon l0 σ = some r) : mEx 127 130 [(3, l0)] σ r :=
  ⟨by rw [P_Mo_horizon]; exact Nat.le_of_ble_eq_true rfl, by rw [P_Mo_horizon]; exact T_Mo_horizon_0 TC_Mo_horizon h rfl⟩
set_option maxRecDepth 100000 in
theorem P_Mo_aimAt : mProg 131 = (c_Mo_aimAt, 5) := rfl
set_option maxRecDepth 100000 in
theorem TC_Mo_aimAt : ∀ k as σ p, C_Mo_aimAt k as σ = some p → mEx 125 k as σ p := by
  intro k as σ p hp
  unfold C_Mo_aimAt at hp
  split at hp
  · exact (T_Mo_goes hp).up (Nat.le_of_ble_eq_true rfl)
  · cases hp
set_option maxRecDepth 100000 in
theorem TB_Mo_aimAt_2 {d : Nat} (hC : ∀ k as σ p, C_Mo_aimAt k as σ = some p → mEx d k as σ p) {l0 l1 l2 l3 l4 : Int} {σ : mS} {b : ((Int × mS) ⊕ (Int × mS))} {r : Int × mS} (h : B_Mo_aimAt_2 l0 l1 l2 l3 l4 σ = some b) (hk : (Sum.elim (fun (s : Int × mS) r => mG (d + 1) 131 2 [(3, l0), (1, l1), (1, l2), (1, l3), (1, s.1)] [] s.2 r) (fun b r => r = b)) b r) : mG (d + 1) 131 2 [(3, l0), (1, l1), (1, l2), (1, l3), (1, l4)] [] σ r := by
  refine mblk_ok2 P_Mo_aimAt (F := F_Mo_aimAt_2) (Sum.elim (fun (s : Int × mS) r => mG (d + 1) 131 2 [(3, l0), (1, l1), (1, l2), (1, l3), (1, s.1)] [] s.2 r) (fun b r => r = b)) [([(2, 26), (29, 30)], [0, 1, 2, 3])] [(2, 32)] [(3, l0), (1, l1), (1, l2), (1, l3), (1, l4)] (by decide +kernel) rfl hC ?_ (fun v σ b r hb hk => by cases hb; exact hk) _ 2 [(3, l0), (1, l1), (1, l2), (1, l3), (1, l4)] [] σ b r rfl (mJ_self _ _ _) ((E_Mo_aimAt_2 l0 l1 l2 l3 l4 σ).trans h) hk
  intro i L st σ b r hj hb hk
  unfold F_Mo_aimAt_2 at hb
  split at hb
  · have key : ∀ (k0 k1 k2 k3 k4 : Int) (σ : mS) (b : ((Int × mS) ⊕ (Int × mS))) (r : Int × mS), mJ [(3, l0), (1, l1), (1, l2), (1, l3), (1, l4)] 2 [(3, k0), (1, k1), (1, k2), (1, k3), (1, k4)] [([(2, 26), (29, 30)], [0, 1, 2, 3])] → (some (.inl (k4, σ))) = some b → (Sum.elim (fun (s : Int × mS) r => mG (d + 1) 131 2 [(3, l0), (1, l1), (1, l2), (1, l3), (1, s.1)] [] s.2 r) (fun b r => r = b)) b r → mG (d + 1) 131 2 [(3, k0), (1, k1), (1, k2), (1, k3), (1, k4)] [] σ r := by
      intro k0 k1 k2 k3 k4 σ b r hj hb hk
      have e0 : k0 = l0 := (Prod.mk.inj (Option.some.inj ((hj.1 rfl).1))).2
      subst e0
      have e1 : k1 = l1 := (Prod.mk.inj (Option.some.inj ((hj.1 rfl).2.1))).2
      subst e1
      have e2 : k2 = l2 := (Prod.mk.inj (Option.some.inj ((hj.1 rfl).2.2.1))).2
      subst e2
      have e3 : k3 = l3 := (Prod.mk.inj (Option.some.inj ((hj.1 rfl).2.2.2.1))).2
      subst e3
      cases hb
      exact mG.lle hk (lle_cons (lle_cons (lle_cons (lle_cons (lle_cons lle_nil)))))
    exact key _ _ _ _ _ σ b r hj hb hk
  · cases hb
set_option maxRecDepth 100000 in
theorem T_Mo_aimAt_2 {d : Nat} (hC : ∀ k as σ p, C_Mo_aimAt k as σ = some p → mEx d k as σ p) {l0 l1 l2 l3 l4 : Int} {σ : mS} {b : Int × mS} {r : Int × mS} (h : M_Mo_aimAt_2 l0 l1 l2 l3 l4 σ = some b) (hk : (fun b r => r = b) b r) : mG (d + 1) 131 2 [(3, l0), (1, l1), (1, l2), (1, l3), (1, l4)] [] σ r :=
  miter_ok (G := fun (s : Int × mS) r => mG (d + 1) 131 2 [(3, l0), (1, l1), (1, l2), (1, l3), (1, s.1)] [] s.2 r) (K := (fun b r => r = b)) (fun s x r hs hx => TB_Mo_aimAt_2 hC hs hx) mN _ b r h hk
set_option maxRecDepth 100000 in
theorem T_Mo_aimAt_0 {d : Nat} (hC : ∀ k as σ p, C_Mo_aimAt k as σ = some p → mEx d k as σ p) {l0 l1 l2 l3 : Int} {σ : mS} {b : Int × mS} {r : Int × mS} (h : M_Mo_aimAt l0 l1 l2 l3 σ = some b) (hk : (fun b r => r = b) b r) : mG (d + 1) 131 0 (mInit 5 [(3, l0), (1, l1), (1, l2), (1, l3)]) [] σ r := by
  refine mblk_ok1 P_Mo_aimAt (F := F_Mo_aimAt_0) (fun b r => r = b) hC ?_ (fun v σ b r hb hk => by cases hb; exact hk) _ 0 (mInit 5 [(3, l0), (1, l1), (1, l2), (1, l3)]) [] σ b r ((E_Mo_aimAt_0 l0 l1 l2 l3 σ).trans h) hk
  intro i L st σ b r hb hk
  unfold F_Mo_aimAt_0 at hb
  split at hb
  · have key : ∀ (k0 k1 k2 k3 k4 : Int) (σ : mS) (b : Int × mS) (r : Int × mS), (M_Mo_aimAt_2 k0 k1 k2 k3 k4 σ) = some b → (fun b r => r = b) b r → mG (d + 1) 131 2 [(3, k0), (1, k1), (1, k2), (1, k3), (1, k4)] [] σ r := by
      intro k0 k1 k2 k3 k4 σ b r hb hk
      exact (T_Mo_aimAt_2 hC hb hk).lle (lle_cons (lle_cons (lle_cons (lle_cons (lle_cons lle_nil)))))
    exact key _ _ _ _ _ σ b r hb hk
  · cases hb
set_option maxRecDepth 100000 in
theorem T_Mo_aimAt {l0 l1 l2 l3 : Int} {σ : mS} {r : Int × mS} (h : M_Mo_aimAt l0 l1 l2 l3 σ = some r) : mEx 126 131 [(3, l0), (1, l1), (1, l2), (1, l3)] σ r :=
  ⟨by rw [P_Mo_aimAt]; exact Nat.le_of_ble_eq_true rfl, by rw [P_Mo_aimAt]; exact T_Mo_aimAt_0 TC_Mo_aimAt h rfl⟩
set_option maxRecDepth 100000 in
theorem P_Mo_aim : mProg 132 = (c_Mo_aim, 3) := rfl
set_option maxRecDepth 100000 in
theorem TC_Mo_aim : ∀ k as σ p, C_Mo_aim k as σ = some p → mEx 126 k as σ p := by
  intro k as σ p hp
  unfold C_Mo_aim at hp
  split at hp
  · exact (T_Mo_isInch hp).up (Nat.le_of_ble_eq_true rfl)
  · exact (T_Mo_isThing hp).up (Nat.le_of_ble_eq_true rfl)
  · exact (T_Mo_aimAt hp).up (Nat.le_of_ble_eq_true rfl)
  · cases hp
set_option maxRecDepth 100000 in
theorem T_Mo_aim_0 {d : Nat} (hC : ∀ k as σ p, C_Mo_aim k as σ = some p → mEx d k as σ p) {l0 l1 l2 : Int} {σ : mS} {b : Int × mS} {r : Int × mS} (h : M_Mo_aim l0 l1 l2 σ = some b) (hk : (fun b r => r = b) b r) : mG (d + 1) 132 0 (mInit 3 [(3, l0), (1, l1), (1, l2)]) [] σ r := by
  refine mblk_ok1 P_Mo_aim (F := F_Mo_aim_0) (fun b r => r = b) hC ?_ (fun v σ b r hb hk => by cases hb; exact hk) _ 0 (mInit 3 [(3, l0), (1, l1), (1, l2)]) [] σ b r ((E_Mo_aim_0 l0 l1 l2 σ).trans h) hk
  intro i L st σ b r hb hk
  cases hb
set_option maxRecDepth 100000 in
theorem T_Mo_aim {l0 l1 l2 : Int} {σ : mS} {r : Int × mS} (h : M_Mo_aim l0 l1 l2 σ = some r) : mEx 127 132 [(3, l0), (1, l1), (1, l2)] σ r :=
  ⟨by rw [P_Mo_aim]; exact Nat.le_of_ble_eq_true rfl, by rw [P_Mo_aim]; exact T_Mo_aim_0 TC_Mo_aim h rfl⟩
set_option maxRecDepth 100000 in
theorem P_Mo_loom : mProg 133 = (c_Mo_loom, 5) := rfl
set_option maxRecDepth 100000 in
theorem TC_Mo_loom : ∀ k as σ p, C_Mo_loom k as σ = some p → mEx 127 k as σ p := by
  intro k as σ p hp
  unfold C_Mo_loom at hp
  split at hp
  · exact (T_Mo_aimAt hp).up (Nat.le_of_ble_eq_true rfl)
  · exact (T_Mo_aim hp).up (Nat.le_of_ble_eq_true rfl)
  · cases hp
set_option maxRecDepth 100000 in
theorem T_Mo_loom_15 {d : Nat} (hC : ∀ k as σ p, C_Mo_loom k as σ = some p → mEx d k as σ p) {l3 s0 : Int} {σ : mS} {b : Int × mS} {r : Int × mS} (h : M_Mo_loom_15 l3 s0 σ = some b) (hk : (fun b r => r = b) b r) : mG (d + 1) 133 15 [(0, 0), (0, 0), (0, 0), (1, l3), (0, 0)] [(1, s0)] σ r := by
  refine mblk_ok1 P_Mo_loom (F := F_Mo_loom_15) (fun b r => r = b) hC ?_ (fun v σ b r hb hk => by cases hb; exact hk) _ 15 [(0, 0), (0, 0), (0, 0), (1, l3), (0, 0)] [(1, s0)] σ b r ((E_Mo_loom_15 l3 s0 σ).trans h) hk
  intro i L st σ b r hb hk
  cases hb
set_option maxRecDepth 100000 in
theorem T_Mo_loom_0 {d : Nat} (hC : ∀ k as σ p, C_Mo_loom k as σ = some p → mEx d k as σ p) {l0 l1 l2 : Int} {σ : mS} {b : Int × mS} {r : Int × mS} (h : M_Mo_loom l0 l1 l2 σ = some b) (hk : (fun b r => r = b) b r) : mG (d + 1) 133 0 (mInit 5 [(3, l0), (1, l1), (1, l2)]) [] σ r := by
  refine mblk_ok1 P_Mo_loom (F := F_Mo_loom_0) (fun b r => r = b) hC ?_ (fun v σ b r hb hk => by cases hb; exact hk) _ 0 (mInit 5 [(3, l0), (1, l1), (1, l2)]) [] σ b r ((E_Mo_loom_0 l0 l1 l2 σ).trans h) hk
  intro i L st σ b r hb hk
  unfold F_Mo_loom_0 at hb
  split at hb
  · have key : ∀ (k3 u0 : Int) (k0 k1 k2 k4 : mV) (σ : mS) (b : Int × mS) (r : Int × mS), (M_Mo_loom_15 k3 u0 σ) = some b → (fun b r => r = b) b r → mG (d + 1) 133 15 [k0, k1, k2, (1, k3), k4] [(1, u0)] σ r := by
      intro k3 u0 k0 k1 k2 k4 σ b r hb hk
      exact (T_Mo_loom_15 hC hb hk).lle (lle_dead (lle_dead (lle_dead (lle_cons (lle_dead lle_nil)))))
    exact key _ _ _ _ _ _ σ b r hb hk
  · cases hb
set_option maxRecDepth 100000 in
theorem T_Mo_loom {l0 l1 l2 : Int} {σ : mS} {r : Int × mS} (h : M_Mo_loom l0 l1 l2 σ = some r) : mEx 128 133 [(3, l0), (1, l1), (1, l2)] σ r :=
  ⟨by rw [P_Mo_loom]; exact Nat.le_of_ble_eq_true rfl, by rw [P_Mo_loom]; exact T_Mo_loom_0 TC_Mo_loom h rfl⟩
set_option maxRecDepth 100000 in
theorem P_Mo_shade : mProg 134 = (c_Mo_shade, 4) := rfl
set_option maxRecDepth 100000 in
theorem TC_Mo_shade : ∀ k as σ p, C_Mo_shade k as σ = some p → mEx 126 k as σ p := by
  intro k as σ p hp
  unfold C_Mo_shade at hp
  split at hp
  · exact (T_Mo_lies hp).up (Nat.le_of_ble_eq_true rfl)
  · exact (T_Mo_isPlace hp).up (Nat.le_of_ble_eq_true rfl)
  · exact (T_Mo_riseOf hp).up (Nat.le_of_ble_eq_true rfl)
  · exact (T_Mo_goesNow hp).up (Nat.le_of_ble_eq_true rfl)
  · cases hp
set_option maxRecDepth 100000 in
theorem T_Mo_shade_44 {d : Nat} (hC : ∀ k as σ p, C_Mo_shade k as σ = some p → mEx d k as σ p) {l0 l1 l3 : Int} {σ : mS} {b : ((Int × Int × mS) ⊕ (Int × mS))} {r : Int × mS} (h : M_Mo_shade_44 l0 l1 l3 σ = some b) (hk : (Sum.elim (fun (s : Int × Int × mS) r => mG (d + 1) 134 9 [(3, l0), (1, l1), (1, s.1), (1, s.2.1)] [] s.2.2 r) (fun b r => r = b)) b r) : mG (d + 1) 134 44 [(3, l0), (1, l1), (0, 0), (1, l3)] [] σ r := by
  refine mblk_ok2 P_Mo_shade (F := F_Mo_shade_44) (Sum.elim (fun (s : Int × Int × mS) r => mG (d + 1) 134 9 [(3, l0), (1, l1), (1, s.1), (1, s.2.1)] [] s.2.2 r) (fun b r => r = b)) [([(9, 52)], [0, 1])] [(44, 48), (50, 52)] [(3, l0), (1, l1), (0, 0), (1, l3)] (by decide +kernel) rfl hC ?_ (fun v σ b r hb hk => by cases hb; exact hk) _ 44 [(3, l0), (1, l1), (0, 0), (1, l3)] [] σ b r rfl (mJ_self _ _ _) ((E_Mo_shade_44 l0 l1 l3 σ).trans h) hk
  intro i L st σ b r hj hb hk
  unfold F_Mo_shade_44 at hb
  split at hb
  · have key : ∀ (k0 k1 k2 k3 : Int) (σ : mS) (b : ((Int × Int × mS) ⊕ (Int × mS))) (r : Int × mS), mJ [(3, l0), (1, l1), (0, 0), (1, l3)] 9 [(3, k0), (1, k1), (1, k2), (1, k3)] [([(9, 52)], [0, 1])] → (some (.inl (k2, k3, σ))) = some b → (Sum.elim (fun (s : Int × Int × mS) r => mG (d + 1) 134 9 [(3, l0), (1, l1), (1, s.1), (1, s.2.1)] [] s.2.2 r) (fun b r => r = b)) b r → mG (d + 1) 134 9 [(3, k0), (1, k1), (1, k2), (1, k3)] [] σ r := by
      intro k0 k1 k2 k3 σ b r hj hb hk
      have e0 : k0 = l0 := (Prod.mk.inj (Option.some.inj ((hj.1 rfl).1))).2
      subst e0
      have e1 : k1 = l1 := (Prod.mk.inj (Option.some.inj ((hj.1 rfl).2.1))).2
      subst e1
      cases hb
      exact mG.lle hk (lle_cons (lle_cons (lle_cons (lle_cons lle_nil))))
    exact key _ _ _ _ σ b r hj hb hk
  · cases hb
set_option maxRecDepth 100000 in
theorem TB_Mo_shade_9 {d : Nat} (hC : ∀ k as σ p, C_Mo_shade k as σ = some p → mEx d k as σ p) {l0 l1 l2 l3 : Int} {σ : mS} {b : ((Int × Int × mS) ⊕ (Int × mS))} {r : Int × mS} (h : B_Mo_shade_9 l0 l1 l2 l3 σ = some b) (hk : (Sum.elim (fun (s : Int × Int × mS) r => mG (d + 1) 134 9 [(3, l0), (1, l1), (1, s.1), (1, s.2.1)] [] s.2.2 r) (fun b r => r = b)) b r) : mG (d + 1) 134 9 [(3, l0), (1, l1), (1, l2), (1, l3)] [] σ r := by
  refine mblk_ok2 P_Mo_shade (F := F_Mo_shade_9) (Sum.elim (fun (s : Int × Int × mS) r => mG (d + 1) 134 9 [(3, l0), (1, l1), (1, s.1), (1, s.2.1)] [] s.2.2 r) (fun b r => r = b)) [([(9, 52)], [0, 1])] [(9, 43), (49, 54)] [(3, l0), (1, l1), (1, l2), (1, l3)] (by decide +kernel) rfl hC ?_ (fun v σ b r hb hk => by cases hb; exact hk) _ 9 [(3, l0), (1, l1), (1, l2), (1, l3)] [] σ b r rfl (mJ_self _ _ _) ((E_Mo_shade_9 l0 l1 l2 l3 σ).trans h) hk
  intro i L st σ b r hj hb hk
  unfold F_Mo_shade_9 at hb
  split at hb
  · have key : ∀ (k0 k1 k2 k3 : Int) (σ : mS) (b : ((Int × Int × mS) ⊕ (Int × mS))) (r : Int × mS), mJ [(3, l0), (1, l1), (1, l2), (1, l3)] 9 [(3, k0), (1, k1), (1, k2), (1, k3)] [([(9, 52)], [0, 1])] → (some (.inl (k2, k3, σ))) = some b → (Sum.elim (fun (s : Int × Int × mS) r => mG (d + 1) 134 9 [(3, l0), (1, l1), (1, s.1), (1, s.2.1)] [] s.2.2 r) (fun b r => r = b)) b r → mG (d + 1) 134 9 [(3, k0), (1, k1), (1, k2), (1, k3)] [] σ r := by
      intro k0 k1 k2 k3 σ b r hj hb hk
      have e0 : k0 = l0 := (Prod.mk.inj (Option.some.inj ((hj.1 rfl).1))).2
      subst e0
      have e1 : k1 = l1 := (Prod.mk.inj (Option.some.inj ((hj.1 rfl).2.1))).2
      subst e1
      cases hb
      exact mG.lle hk (lle_cons (lle_cons (lle_cons (lle_cons lle_nil))))
    exact key _ _ _ _ σ b r hj hb hk
  · have key : ∀ (k0 k1 k3 : Int) (k2 : mV) (σ : mS) (b : ((Int × Int × mS) ⊕ (Int × mS))) (r : Int × mS), mJ [(3, l0), (1, l1), (1, l2), (1, l3)] 44 [(3, k0), (1, k1), k2, (1, k3)] [([(9, 52)], [0, 1])] → (M_Mo_shade_44 k0 k1 k3 σ) = some b → (Sum.elim (fun (s : Int × Int × mS) r => mG (d + 1) 134 9 [(3, l0), (1, l1), (1, s.1), (1, s.2.1)] [] s.2.2 r) (fun b r => r = b)) b r → mG (d + 1) 134 44 [(3, k0), (1, k1), k2, (1, k3)] [] σ r := by
      intro k0 k1 k3 k2 σ b r hj hb hk
      have e0 : k0 = l0 := (Prod.mk.inj (Option.some.inj ((hj.1 rfl).1))).2
      subst e0
      have e1 : k1 = l1 := (Prod.mk.inj (Option.some.inj ((hj.1 rfl).2.1))).2
      subst e1
      exact (T_Mo_shade_44 hC hb hk).lle (lle_cons (lle_cons (lle_dead (lle_cons lle_nil))))
    exact key _ _ _ _ σ b r hj hb hk
  · cases hb
set_option maxRecDepth 100000 in
theorem T_Mo_shade_9 {d : Nat} (hC : ∀ k as σ p, C_Mo_shade k as σ = some p → mEx d k as σ p) {l0 l1 l2 l3 : Int} {σ : mS} {b : Int × mS} {r : Int × mS} (h : M_Mo_shade_9 l0 l1 l2 l3 σ = some b) (hk : (fun b r => r = b) b r) : mG (d + 1) 134 9 [(3, l0), (1, l1), (1, l2), (1, l3)] [] σ r :=
  miter_ok (G := fun (s : Int × Int × mS) r => mG (d + 1) 134 9 [(3, l0), (1, l1), (1, s.1), (1, s.2.1)] [] s.2.2 r) (K := (fun b r => r = b)) (fun s x r hs hx => TB_Mo_shade_9 hC hs hx) mN _ b r h hk
set_option maxRecDepth 100000 in
theorem T_Mo_shade_0 {d : Nat} (hC : ∀ k as σ p, C_Mo_shade k as σ = some p → mEx d k as σ p) {l0 l1 : Int} {σ : mS} {b : Int × mS} {r : Int × mS} (h : M_Mo_shade l0 l1 σ = some b) (hk : (fun b r => r = b) b r) : mG (d + 1) 134 0 (mInit 4 [(3, l0), (1, l1)]) [] σ r := by
  refine mblk_ok1 P_Mo_shade (F := F_Mo_shade_0) (fun b r => r = b) hC ?_ (fun v σ b r hb hk => by cases hb; exact hk) _ 0 (mInit 4 [(3, l0), (1, l1)]) [] σ b r ((E_Mo_shade_0 l0 l1 σ).trans h) hk
  intro i L st σ b r hb hk
  unfold F_Mo_shade_0 at hb
  split at hb
  · have key : ∀ (k0 k1 k2 k3 : Int) (σ : mS) (b : Int × mS) (r : Int × mS), (M_Mo_shade_9 k0 k1 k2 k3 σ) = some b → (fun b r => r = b) b r → mG (d + 1) 134 9 [(3, k0), (1, k1), (1, k2), (1, k3)] [] σ r := by
      intro k0 k1 k2 k3 σ b r hb hk
      exact (T_Mo_shade_9 hC hb hk).lle (lle_cons (lle_cons (lle_cons (lle_cons lle_nil))))
    exact key _ _ _ _ σ b r hb hk
  · cases hb
set_option maxRecDepth 100000 in
theorem T_Mo_shade {l0 l1 : Int} {σ : mS} {r : Int × mS} (h : M_Mo_shade l0 l1 σ = some r) : mEx 127 134 [(3, l0), (1, l1)] σ r :=
  ⟨by rw [P_Mo_shade]; exact Nat.le_of_ble_eq_true rfl, by rw [P_Mo_shade]; exact T_Mo_shade_0 TC_Mo_shade h rfl⟩
set_option maxRecDepth 100000 in
theorem P_Mo_cross : mProg 135 = (c_Mo_cross, 5) := rfl
set_option maxRecDepth 100000 in
theorem TC_Mo_cross : ∀ k as σ p, C_Mo_cross k as σ = some p → mEx 126 k as σ p := by
  intro k as σ p hp
  unfold C_Mo_cross at hp
  split at hp
  · exact (T_Mo_isAngle hp).up (Nat.le_of_ble_eq_true rfl)
  · exact (T_Mo_goesNow hp).up (Nat.le_of_ble_eq_true rfl)
  · cases hp
set_option maxRecDepth 100000 in
theorem TB_Mo_cross_52 {d : Nat} (hC : ∀ k as σ p, C_Mo_cross k as σ = some p → mEx d k as σ p) {l0 l3 l4 : Int} {σ : mS} {b : ((Int × mS) ⊕ (Int × mS))} {r : Int × mS} (h : B_Mo_cross_52 l0 l3 l4 σ = some b) (hk : (Sum.elim (fun (s : Int × mS) r => mG (d + 1) 135 52 [(3, l0), (0, 0), (0, 0), (1, l3), (1, s.1)] [] s.2 r) (fun b r => r = b)) b r) : mG (d + 1) 135 52 [(3, l0), (0, 0), (0, 0), (1, l3), (1, l4)] [] σ r := by
  refine mblk_ok2 P_Mo_cross (F := F_Mo_cross_52) (Sum.elim (fun (s : Int × mS) r => mG (d + 1) 135 52 [(3, l0), (0, 0), (0, 0), (1, l3), (1, s.1)] [] s.2 r) (fun b r => r = b)) [([(52, 67), (70, 71)], [0, 3])] [(52, 73)] [(3, l0), (0, 0), (0, 0), (1, l3), (1, l4)] (by decide +kernel) rfl hC ?_ (fun v σ b r hb hk => by cases hb; exact hk) _ 52 [(3, l0), (0, 0), (0, 0), (1, l3), (1, l4)] [] σ b r rfl (mJ_self _ _ _) ((E_Mo_cross_52 l0 l3 l4 σ).trans h) hk
  intro i L st σ b r hj hb hk
  unfold F_Mo_cross_52 at hb
  split at hb
  · have key : ∀ (k0 k3 k4 : Int) (k1 k2 : mV) (σ : mS) (b : ((Int × mS) ⊕ (Int × mS))) (r : Int × mS), mJ [(3, l0), (0, 0), (0, 0), (1, l3), (1, l4)] 52 [(3, k0), k1, k2, (1, k3), (1, k4)] [([(52, 67), (70, 71)], [0, 3])] → (some (.inl (k4, σ))) = some b → (Sum.elim (fun (s : Int × mS) r => mG (d + 1) 135 52 [(3, l0), (0, 0), (0, 0), (1, l3), (1, s.1)] [] s.2 r) (fun b r => r = b)) b r → mG (d + 1) 135 52 [(3, k0), k1, k2, (1, k3), (1, k4)] [] σ r := by
      intro k0 k3 k4 k1 k2 σ b r hj hb hk
      have e0 : k0 = l0 := (Prod.mk.inj (Option.some.inj ((hj.1 rfl).1))).2
      subst e0
      have e3 : k3 = l3 := (Prod.mk.inj (Option.some.inj ((hj.1 rfl).2.1))).2
      subst e3
      cases hb
      exact mG.lle hk (lle_cons (lle_dead (lle_dead (lle_cons (lle_cons lle_nil)))))
    exact key _ _ _ _ _ σ b r hj hb hk
  · cases hb
set_option maxRecDepth 100000 in
theorem T_Mo_cross_52 {d : Nat} (hC : ∀ k as σ p, C_Mo_cross k as σ = some p → mEx d k as σ p) {l0 l3 l4 : Int} {σ : mS} {b : Int × mS} {r : Int × mS} (h : M_Mo_cross_52 l0 l3 l4 σ = some b) (hk : (fun b r => r = b) b r) : mG (d + 1) 135 52 [(3, l0), (0, 0), (0, 0), (1, l3), (1, l4)] [] σ r :=
  miter_ok (G := fun (s : Int × mS) r => mG (d + 1) 135 52 [(3, l0), (0, 0), (0, 0), (1, l3), (1, s.1)] [] s.2 r) (K := (fun b r => r = b)) (fun s x r hs hx => TB_Mo_cross_52 hC hs hx) mN _ b r h hk
set_option maxRecDepth 100000 in
theorem T_Mo_cross_44 {d : Nat} (hC : ∀ k as σ p, C_Mo_cross k as σ = some p → mEx d k as σ p) {l0 l3 s1 s0 : Int} {σ : mS} {b : Int × mS} {r : Int × mS} (h : M_Mo_cross_44 l0 l3 s1 s0 σ = some b) (hk : (fun b r => r = b) b r) : mG (d + 1) 135 44 [(3, l0), (0, 0), (0, 0), (1, l3), (0, 0)] [(1, s1), (3, s0)] σ r := by
  refine mblk_ok1 P_Mo_cross (F := F_Mo_cross_44) (fun b r => r = b) hC ?_ (fun v σ b r hb hk => by cases hb; exact hk) _ 44 [(3, l0), (0, 0), (0, 0), (1, l3), (0, 0)] [(1, s1), (3, s0)] σ b r ((E_Mo_cross_44 l0 l3 s1 s0 σ).trans h) hk
  intro i L st σ b r hb hk
  unfold F_Mo_cross_44 at hb
  split at hb
  · have key : ∀ (k0 k3 k4 : Int) (k1 k2 : mV) (σ : mS) (b : Int × mS) (r : Int × mS), (M_Mo_cross_52 k0 k3 k4 σ) = some b → (fun b r => r = b) b r → mG (d + 1) 135 52 [(3, k0), k1, k2, (1, k3), (1, k4)] [] σ r := by
      intro k0 k3 k4 k1 k2 σ b r hb hk
      exact (T_Mo_cross_52 hC hb hk).lle (lle_cons (lle_dead (lle_dead (lle_cons (lle_cons lle_nil)))))
    exact key _ _ _ _ _ σ b r hb hk
  · cases hb
set_option maxRecDepth 100000 in
theorem TB_Mo_cross_24 {d : Nat} (hC : ∀ k as σ p, C_Mo_cross k as σ = some p → mEx d k as σ p) {l0 l1 l2 l3 l4 : Int} {σ : mS} {b : ((Int × mS) ⊕ (Int × mS))} {r : Int × mS} (h : B_Mo_cross_24 l0 l1 l2 l3 l4 σ = some b) (hk : (Sum.elim (fun (s : Int × mS) r => mG (d + 1) 135 24 [(3, l0), (1, l1), (1, l2), (1, l3), (1, s.1)] [] s.2 r) (fun b r => r = b)) b r) : mG (d + 1) 135 24 [(3, l0), (1, l1), (1, l2), (1, l3), (1, l4)] [] σ r := by
  refine mblk_ok2 P_Mo_cross (F := F_Mo_cross_24) (Sum.elim (fun (s : Int × mS) r => mG (d + 1) 135 24 [(3, l0), (1, l1), (1, l2), (1, l3), (1, s.1)] [] s.2 r) (fun b r => r = b)) [([(24, 36)], [0, 1, 2, 3])] [(24, 43)] [(3, l0), (1, l1), (1, l2), (1, l3), (1, l4)] (by decide +kernel) rfl hC ?_ (fun v σ b r hb hk => by cases hb; exact hk) _ 24 [(3, l0), (1, l1), (1, l2), (1, l3), (1, l4)] [] σ b r rfl (mJ_self _ _ _) ((E_Mo_cross_24 l0 l1 l2 l3 l4 σ).trans h) hk
  intro i L st σ b r hj hb hk
  unfold F_Mo_cross_24 at hb
  split at hb
  · have key : ∀ (k0 k1 k2 k3 k4 : Int) (σ : mS) (b : ((Int × mS) ⊕ (Int × mS))) (r : Int × mS), mJ [(3, l0), (1, l1), (1, l2), (1, l3), (1, l4)] 24 [(3, k0), (1, k1), (1, k2), (1, k3), (1, k4)] [([(24, 36)], [0, 1, 2, 3])] → (some (.inl (k4, σ))) = some b → (Sum.elim (fun (s : Int × mS) r => mG (d + 1) 135 24 [(3, l0), (1, l1), (1, l2), (1, l3), (1, s.1)] [] s.2 r) (fun b r => r = b)) b r → mG (d + 1) 135 24 [(3, k0), (1, k1), (1, k2), (1, k3), (1, k4)] [] σ r := by
      intro k0 k1 k2 k3 k4 σ b r hj hb hk
      have e0 : k0 = l0 := (Prod.mk.inj (Option.some.inj ((hj.1 rfl).1))).2
      subst e0
      have e1 : k1 = l1 := (Prod.mk.inj (Option.some.inj ((hj.1 rfl).2.1))).2
      subst e1
      have e2 : k2 = l2 := (Prod.mk.inj (Option.some.inj ((hj.1 rfl).2.2.1))).2
      subst e2
      have e3 : k3 = l3 := (Prod.mk.inj (Option.some.inj ((hj.1 rfl).2.2.2.1))).2
      subst e3
      cases hb
      exact mG.lle hk (lle_cons (lle_cons (lle_cons (lle_cons (lle_cons lle_nil)))))
    exact key _ _ _ _ _ σ b r hj hb hk
  · have key : ∀ (k0 k3 u1 u0 : Int) (k1 k2 k4 : mV) (σ : mS) (b : ((Int × mS) ⊕ (Int × mS))) (r : Int × mS), mJ [(3, l0), (1, l1), (1, l2), (1, l3), (1, l4)] 44 [(3, k0), k1, k2, (1, k3), k4] [([(24, 36)], [0, 1, 2, 3])] → ((M_Mo_cross_44 k0 k3 u1 u0 σ).bind fun z => some (.inr z)) = some b → (Sum.elim (fun (s : Int × mS) r => mG (d + 1) 135 24 [(3, l0), (1, l1), (1, l2), (1, l3), (1, s.1)] [] s.2 r) (fun b r => r = b)) b r → mG (d + 1) 135 44 [(3, k0), k1, k2, (1, k3), k4] [(1, u1), (3, u0)] σ r := by
      intro k0 k3 u1 u0 k1 k2 k4 σ b r hj hb hk
      obtain ⟨z, hz, e⟩ := Option.bind_eq_some_iff.mp hb
      cases e
      exact (T_Mo_cross_44 hC hz hk).lle (lle_cons (lle_dead (lle_dead (lle_cons (lle_dead lle_nil)))))
    exact key _ _ _ _ _ _ _ σ b r hj hb hk
  · cases hb
set_option maxRecDepth 100000 in
theorem T_Mo_cross_24 {d : Nat} (hC : ∀ k as σ p, C_Mo_cross k as σ = some p → mEx d k as σ p) {l0 l1 l2 l3 l4 : Int} {σ : mS} {b : Int × mS} {r : Int × mS} (h : M_Mo_cross_24 l0 l1 l2 l3 l4 σ = some b) (hk : (fun b r => r = b) b r) : mG (d + 1) 135 24 [(3, l0), (1, l1), (1, l2), (1, l3), (1, l4)] [] σ r :=
  miter_ok (G := fun (s : Int × mS) r => mG (d + 1) 135 24 [(3, l0), (1, l1), (1, l2), (1, l3), (1, s.1)] [] s.2 r) (K := (fun b r => r = b)) (fun s x r hs hx => TB_Mo_cross_24 hC hs hx) mN _ b r h hk
set_option maxRecDepth 100000 in
theorem T_Mo_cross_18 {d : Nat} (hC : ∀ k as σ p, C_Mo_cross k as σ = some p → mEx d k as σ p) {l0 l1 l2 s1 s0 : Int} {σ : mS} {b : Int × mS} {r : Int × mS} (h : M_Mo_cross_18 l0 l1 l2 s1 s0 σ = some b) (hk : (fun b r => r = b) b r) : mG (d + 1) 135 18 [(3, l0), (1, l1), (1, l2), (0, 0), (0, 0)] [(1, s1), (3, s0)] σ r := by
  refine mblk_ok1 P_Mo_cross (F := F_Mo_cross_18) (fun b r => r = b) hC ?_ (fun v σ b r hb hk => by cases hb; exact hk) _ 18 [(3, l0), (1, l1), (1, l2), (0, 0), (0, 0)] [(1, s1), (3, s0)] σ b r ((E_Mo_cross_18 l0 l1 l2 s1 s0 σ).trans h) hk
  intro i L st σ b r hb hk
  unfold F_Mo_cross_18 at hb
  split at hb
  · have key : ∀ (k0 k1 k2 k3 k4 : Int) (σ : mS) (b : Int × mS) (r : Int × mS), (M_Mo_cross_24 k0 k1 k2 k3 k4 σ) = some b → (fun b r => r = b) b r → mG (d + 1) 135 24 [(3, k0), (1, k1), (1, k2), (1, k3), (1, k4)] [] σ r := by
      intro k0 k1 k2 k3 k4 σ b r hb hk
      exact (T_Mo_cross_24 hC hb hk).lle (lle_cons (lle_cons (lle_cons (lle_cons (lle_cons lle_nil)))))
    exact key _ _ _ _ _ σ b r hb hk
  · cases hb
set_option maxRecDepth 100000 in
theorem T_Mo_cross_0 {d : Nat} (hC : ∀ k as σ p, C_Mo_cross k as σ = some p → mEx d k as σ p) {l0 l1 l2 : Int} {σ : mS} {b : Int × mS} {r : Int × mS} (h : M_Mo_cross l0 l1 l2 σ = some b) (hk : (fun b r => r = b) b r) : mG (d + 1) 135 0 (mInit 5 [(3, l0), (1, l1), (1, l2)]) [] σ r := by
  refine mblk_ok1 P_Mo_cross (F := F_Mo_cross_0) (fun b r => r = b) hC ?_ (fun v σ b r hb hk => by cases hb; exact hk) _ 0 (mInit 5 [(3, l0), (1, l1), (1, l2)]) [] σ b r ((E_Mo_cross_0 l0 l1 l2 σ).trans h) hk
  intro i L st σ b r hb hk
  unfold F_Mo_cross_0 at hb
  split at hb
  · have key : ∀ (k0 k1 k2 u1 u0 : Int) (k3 k4 : mV) (σ : mS) (b : Int × mS) (r : Int × mS), (M_Mo_cross_18 k0 k1 k2 u1 u0 σ) = some b → (fun b r => r = b) b r → mG (d + 1) 135 18 [(3, k0), (1, k1), (1, k2), k3, k4] [(1, u1), (3, u0)] σ r := by
      intro k0 k1 k2 u1 u0 k3 k4 σ b r hb hk
      exact (T_Mo_cross_18 hC hb hk).lle (lle_cons (lle_cons (lle_cons (lle_dead (lle_dead lle_nil)))))
    exact key _ _ _ _ _ _ _ σ b r hb hk
  · cases hb
set_option maxRecDepth 100000 in
theorem T_Mo_cross {l0 l1 l2 : Int} {σ : mS} {r : Int × mS} (h : M_Mo_cross l0 l1 l2 σ = some r) : mEx 127 135 [(3, l0), (1, l1), (1, l2)] σ r :=
  ⟨by rw [P_Mo_cross]; exact Nat.le_of_ble_eq_true rfl, by rw [P_Mo_cross]; exact T_Mo_cross_0 TC_Mo_cross h rfl⟩
set_option maxRecDepth 100000 in
theorem P_Mo_hours : mProg 136 = (c_Mo_hours, 4) := rfl
set_option maxRecDepth 100000 in
theorem TC_Mo_hours : ∀ k as σ p, C_Mo_hours k as σ = some p → mEx 126 k as σ p := by
  intro k as σ p hp
  unfold C_Mo_hours at hp
  split at hp
  · exact (T_Mo_isThing hp).up (Nat.le_of_ble_eq_true rfl)
  · exact (T_Mo_looks hp).up (Nat.le_of_ble_eq_true rfl)
  · exact (T_Mo_seenNow hp).up (Nat.le_of_ble_eq_true rfl)
  · cases hp
set_option maxRecDepth 100000 in
theorem TB_Mo_hours_10 {d : Nat} (hC : ∀ k as σ p, C_Mo_hours k as σ = some p → mEx d k as σ p) {l0 l1 l2 l3 : Int} {σ : mS} {b : ((Int × Int × mS) ⊕ (Int × mS))} {r : Int × mS} (h : B_Mo_hours_10 l0 l1 l2 l3 σ = some b) (hk : (Sum.elim (fun (s : Int × Int × mS) r => mG (d + 1) 136 10 [(3, l0), (1, l1), (1, s.1), (1, s.2.1)] [] s.2.2 r) (fun b r => r = b)) b r) : mG (d + 1) 136 10 [(3, l0), (1, l1), (1, l2), (1, l3)] [] σ r := by
  refine mblk_ok2 P_Mo_hours (F := F_Mo_hours_10) (Sum.elim (fun (s : Int × Int × mS) r => mG (d + 1) 136 10 [(3, l0), (1, l1), (1, s.1), (1, s.2.1)] [] s.2.2 r) (fun b r => r = b)) [([(10, 37)], [0, 1])] [(10, 39)] [(3, l0), (1, l1), (1, l2), (1, l3)] (by decide +kernel) rfl hC ?_ (fun v σ b r hb hk => by cases hb; exact hk) _ 10 [(3, l0), (1, l1), (1, l2), (1, l3)] [] σ b r rfl (mJ_self _ _ _) ((E_Mo_hours_10 l0 l1 l2 l3 σ).trans h) hk
  intro i L st σ b r hj hb hk
  unfold F_Mo_hours_10 at hb
  split at hb
  · have key : ∀ (k0 k1 k2 k3 : Int) (σ : mS) (b : ((Int × Int × mS) ⊕ (Int × mS))) (r : Int × mS), mJ [(3, l0), (1, l1), (1, l2), (1, l3)] 10 [(3, k0), (1, k1), (1, k2), (1, k3)] [([(10, 37)], [0, 1])] → (some (.inl (k2, k3, σ))) = some b → (Sum.elim (fun (s : Int × Int × mS) r => mG (d + 1) 136 10 [(3, l0), (1, l1), (1, s.1), (1, s.2.1)] [] s.2.2 r) (fun b r => r = b)) b r → mG (d + 1) 136 10 [(3, k0), (1, k1), (1, k2), (1, k3)] [] σ r := by
      intro k0 k1 k2 k3 σ b r hj hb hk
      have e0 : k0 = l0 := (Prod.mk.inj (Option.some.inj ((hj.1 rfl).1))).2
      subst e0
      have e1 : k1 = l1 := (Prod.mk.inj (Option.some.inj ((hj.1 rfl).2.1))).2
      subst e1
      cases hb
      exact mG.lle hk (lle_cons (lle_cons (lle_cons (lle_cons lle_nil))))
    exact key _ _ _ _ σ b r hj hb hk
  · cases hb
set_option maxRecDepth 100000 in
theorem T_Mo_hours_10 {d : Nat} (hC : ∀ k as σ p, C_Mo_hours k as σ = some p → mEx d k as σ p) {l0 l1 l2 l3 : Int} {σ : mS} {b : Int × mS} {r : Int × mS} (h : M_Mo_hours_10 l0 l1 l2 l3 σ = some b) (hk : (fun b r => r = b) b r) : mG (d + 1) 136 10 [(3, l0), (1, l1), (1, l2), (1, l3)] [] σ r :=
  miter_ok (G := fun (s : Int × Int × mS) r => mG (d + 1) 136 10 [(3, l0), (1, l1), (1, s.1), (1, s.2.1)] [] s.2.2 r) (K := (fun b r => r = b)) (fun s x r hs hx => TB_Mo_hours_10 hC hs hx) mN _ b r h hk
set_option maxRecDepth 100000 in
theorem T_Mo_hours_0 {d : Nat} (hC : ∀ k as σ p, C_Mo_hours k as σ = some p → mEx d k as σ p) {l0 l1 : Int} {σ : mS} {b : Int × mS} {r : Int × mS} (h : M_Mo_hours l0 l1 σ = some b) (hk : (fun b r => r = b) b r) : mG (d + 1) 136 0 (mInit 4 [(3, l0), (1, l1)]) [] σ r := by
  refine mblk_ok1 P_Mo_hours (F := F_Mo_hours_0) (fun b r => r = b) hC ?_ (fun v σ b r hb hk => by cases hb; exact hk) _ 0 (mInit 4 [(3, l0), (1, l1)]) [] σ b r ((E_Mo_hours_0 l0 l1 σ).trans h) hk
  intro i L st σ b r hb hk
  unfold F_Mo_hours_0 at hb
  split at hb
  · have key : ∀ (k0 k1 k2 k3 : Int) (σ : mS) (b : Int × mS) (r : Int × mS), (M_Mo_hours_10 k0 k1 k2 k3 σ) = some b → (fun b r => r = b) b r → mG (d + 1) 136 10 [(3, k0), (1, k1), (1, k2), (1, k3)] [] σ r := by
      intro k0 k1 k2 k3 σ b r hb hk
      exact (T_Mo_hours_10 hC hb hk).lle (lle_cons (lle_cons (lle_cons (lle_cons lle_nil))))
    exact key _ _ _ _ σ b r hb hk
  · cases hb
set_option maxRecDepth 100000 in
theorem T_Mo_hours {l0 l1 : Int} {σ : mS} {r : Int × mS} (h : M_Mo_hours l0 l1 σ = some r) : mEx 127 136 [(3, l0), (1, l1)] σ r :=
  ⟨by rw [P_Mo_hours]; exact Nat.le_of_ble_eq_true rfl, by rw [P_Mo_hours]; exact T_Mo_hours_0 TC_Mo_hours h rfl⟩
set_option maxRecDepth 100000 in
theorem P_Mo_wouldSee : mProg 137 = (c_Mo_wouldSee, 3) := rfl
set_option maxRecDepth 100000 in
theorem TC_Mo_wouldSee : ∀ k as σ p, C_Mo_wouldSee k as σ = some p → mEx 1 k as σ p := by
  intro k as σ p hp
  unfold C_Mo_wouldSee at hp
  split at hp
  · exact (T_Mo_lies hp).up (Nat.le_of_ble_eq_true rfl)
  · exact (T_Mo_riseOf hp).up (Nat.le_of_ble_eq_true rfl)
  · cases hp
set_option maxRecDepth 100000 in
theorem T_Mo_wouldSee_0 {d : Nat} (hC : ∀ k as σ p, C_Mo_wouldSee k as σ = some p → mEx d k as σ p) {l0 l1 l2 : Int} {σ : mS} {b : Int × mS} {r : Int × mS} (h : M_Mo_wouldSee l0 l1 l2 σ = some b) (hk : (fun b r => r = b) b r) : mG (d + 1) 137 0 (mInit 3 [(3, l0), (1, l1), (1, l2)]) [] σ r := by
  refine mblk_ok1 P_Mo_wouldSee (F := F_Mo_wouldSee_0) (fun b r => r = b) hC ?_ (fun v σ b r hb hk => by cases hb; exact hk) _ 0 (mInit 3 [(3, l0), (1, l1), (1, l2)]) [] σ b r ((E_Mo_wouldSee_0 l0 l1 l2 σ).trans h) hk
  intro i L st σ b r hb hk
  cases hb
set_option maxRecDepth 100000 in
theorem T_Mo_wouldSee {l0 l1 l2 : Int} {σ : mS} {r : Int × mS} (h : M_Mo_wouldSee l0 l1 l2 σ = some r) : mEx 2 137 [(3, l0), (1, l1), (1, l2)] σ r :=
  ⟨by rw [P_Mo_wouldSee]; exact Nat.le_of_ble_eq_true rfl, by rw [P_Mo_wouldSee]; exact T_Mo_wouldSee_0 TC_Mo_wouldSee h rfl⟩
set_option maxRecDepth 100000 in
theorem P_Mo_ones : mProg 139 = (c_Mo_ones, 3) := rfl
set_option maxRecDepth 100000 in
theorem TC_Mo_ones : ∀ k as σ p, C_Mo_ones k as σ = some p → mEx 0 k as σ p := by
  intro k as σ p hp
  cases hp
set_option maxRecDepth 100000 in
theorem TB_Mo_ones_4 {d : Nat} (hC : ∀ k as σ p, C_Mo_ones k as σ = some p → mEx d k as σ p) {l0 l1 l2 : Int} {σ : mS} {b : ((Int × Int × mS) ⊕ (Int × mS))} {r : Int × mS} (h : B_Mo_ones_4 l0 l1 l2 σ = some b) (hk : (Sum.elim (fun (s : Int × Int × mS) r => mG (d + 1) 139 4 [(1, l0), (1, s.1), (1, s.2.1)] [] s.2.2 r) (fun b r => r = b)) b r) : mG (d + 1) 139 4 [(1, l0), (1, l1), (1, l2)] [] σ r := by
  refine mblk_ok2 P_Mo_ones (F := F_Mo_ones_4) (Sum.elim (fun (s : Int × Int × mS) r => mG (d + 1) 139 4 [(1, l0), (1, s.1), (1, s.2.1)] [] s.2.2 r) (fun b r => r = b)) [([(4, 16)], [0])] [(4, 18)] [(1, l0), (1, l1), (1, l2)] (by decide +kernel) rfl hC ?_ (fun v σ b r hb hk => by cases hb; exact hk) _ 4 [(1, l0), (1, l1), (1, l2)] [] σ b r rfl (mJ_self _ _ _) ((E_Mo_ones_4 l0 l1 l2 σ).trans h) hk
  intro i L st σ b r hj hb hk
  unfold F_Mo_ones_4 at hb
  split at hb
  · have key : ∀ (k0 k1 k2 : Int) (σ : mS) (b : ((Int × Int × mS) ⊕ (Int × mS))) (r : Int × mS), mJ [(1, l0), (1, l1), (1, l2)] 4 [(1, k0), (1, k1), (1, k2)] [([(4, 16)], [0])] → (some (.inl (k1, k2, σ))) = some b → (Sum.elim (fun (s : Int × Int × mS) r => mG (d + 1) 139 4 [(1, l0), (1, s.1), (1, s.2.1)] [] s.2.2 r) (fun b r => r = b)) b r → mG (d + 1) 139 4 [(1, k0), (1, k1), (1, k2)] [] σ r := by
      intro k0 k1 k2 σ b r hj hb hk
      have e0 : k0 = l0 := (Prod.mk.inj (Option.some.inj ((hj.1 rfl).1))).2
      subst e0
      cases hb
      exact mG.lle hk (lle_cons (lle_cons (lle_cons lle_nil)))
    exact key _ _ _ σ b r hj hb hk
  · cases hb
set_option maxRecDepth 100000 in
theorem T_Mo_ones_4 {d : Nat} (hC : ∀ k as σ p, C_Mo_ones k as σ = some p → mEx d k as σ p) {l0 l1 l2 : Int} {σ : mS} {b : Int × mS} {r : Int × mS} (h : M_Mo_ones_4 l0 l1 l2 σ = some b) (hk : (fun b r => r = b) b r) : mG (d + 1) 139 4 [(1, l0), (1, l1), (1, l2)] [] σ r :=
  miter_ok (G := fun (s : Int × Int × mS) r => mG (d + 1) 139 4 [(1, l0), (1, s.1), (1, s.2.1)] [] s.2.2 r) (K := (fun b r => r = b)) (fun s x r hs hx => TB_Mo_ones_4 hC hs hx) mN _ b r h hk
set_option maxRecDepth 100000 in
theorem T_Mo_ones_0 {d : Nat} (hC : ∀ k as σ p, C_Mo_ones k as σ = some p → mEx d k as σ p) {l0 : Int} {σ : mS} {b : Int × mS} {r : Int × mS} (h : M_Mo_ones l0 σ = some b) (hk : (fun b r => r = b) b r) : mG (d + 1) 139 0 (mInit 3 [(1, l0)]) [] σ r := by
  refine mblk_ok1 P_Mo_ones (F := F_Mo_ones_0) (fun b r => r = b) hC ?_ (fun v σ b r hb hk => by cases hb; exact hk) _ 0 (mInit 3 [(1, l0)]) [] σ b r ((E_Mo_ones_0 l0 σ).trans h) hk
  intro i L st σ b r hb hk
  unfold F_Mo_ones_0 at hb
  split at hb
  · have key : ∀ (k0 k1 k2 : Int) (σ : mS) (b : Int × mS) (r : Int × mS), (M_Mo_ones_4 k0 k1 k2 σ) = some b → (fun b r => r = b) b r → mG (d + 1) 139 4 [(1, k0), (1, k1), (1, k2)] [] σ r := by
      intro k0 k1 k2 σ b r hb hk
      exact (T_Mo_ones_4 hC hb hk).lle (lle_cons (lle_cons (lle_cons lle_nil)))
    exact key _ _ _ σ b r hb hk
  · cases hb
set_option maxRecDepth 100000 in
theorem T_Mo_ones {l0 : Int} {σ : mS} {r : Int × mS} (h : M_Mo_ones l0 σ = some r) : mEx 1 139 [(1, l0)] σ r :=
  ⟨by rw [P_Mo_ones]; exact Nat.le_of_ble_eq_true rfl, by rw [P_Mo_ones]; exact T_Mo_ones_0 TC_Mo_ones h rfl⟩
set_option maxRecDepth 100000 in
theorem P_Mo_mark : mProg 138 = (c_Mo_mark, 6) := rfl
set_option maxRecDepth 100000 in
theorem TC_Mo_mark : ∀ k as σ p, C_Mo_mark k as σ = some p → mEx 125 k as σ p := by
  intro k as σ p hp
  unfold C_Mo_mark at hp
  split at hp
  · exact (T_Mo_lies hp).up (Nat.le_of_ble_eq_true rfl)
  · exact (T_Mo_thingAt hp).up (Nat.le_of_ble_eq_true rfl)
  · exact (T_Mo_goes hp).up (Nat.le_of_ble_eq_true rfl)
  · exact (T_Mo_wouldSee hp).up (Nat.le_of_ble_eq_true rfl)
  · exact (T_Mo_ones hp).up (Nat.le_of_ble_eq_true rfl)
  · cases hp
set_option maxRecDepth 100000 in
theorem TB_Mo_mark_89 {d : Nat} (hC : ∀ k as σ p, C_Mo_mark k as σ = some p → mEx d k as σ p) {l0 l2 l3 l4 : Int} {σ : mS} {b : ((Int × Int × mS) ⊕ (Int × mS))} {r : Int × mS} (h : B_Mo_mark_89 l0 l2 l3 l4 σ = some b) (hk : (Sum.elim (fun (s : Int × Int × mS) r => mG (d + 1) 138 89 [(3, l0), (0, 0), (1, l2), (1, s.1), (1, s.2.1), (0, 0)] [] s.2.2 r) (fun b r => r = b)) b r) : mG (d + 1) 138 89 [(3, l0), (0, 0), (1, l2), (1, l3), (1, l4), (0, 0)] [] σ r := by
  refine mblk_ok2 P_Mo_mark (F := F_Mo_mark_89) (Sum.elim (fun (s : Int × Int × mS) r => mG (d + 1) 138 89 [(3, l0), (0, 0), (1, l2), (1, s.1), (1, s.2.1), (0, 0)] [] s.2.2 r) (fun b r => r = b)) [([(89, 114)], [0, 2])] [(89, 127)] [(3, l0), (0, 0), (1, l2), (1, l3), (1, l4), (0, 0)] (by decide +kernel) rfl hC ?_ (fun v σ b r hb hk => by cases hb; exact hk) _ 89 [(3, l0), (0, 0), (1, l2), (1, l3), (1, l4), (0, 0)] [] σ b r rfl (mJ_self _ _ _) ((E_Mo_mark_89 l0 l2 l3 l4 σ).trans h) hk
  intro i L st σ b r hj hb hk
  unfold F_Mo_mark_89 at hb
  split at hb
  · have key : ∀ (k0 k2 k3 k4 : Int) (k1 k5 : mV) (σ : mS) (b : ((Int × Int × mS) ⊕ (Int × mS))) (r : Int × mS), mJ [(3, l0), (0, 0), (1, l2), (1, l3), (1, l4), (0, 0)] 89 [(3, k0), k1, (1, k2), (1, k3), (1, k4), k5] [([(89, 114)], [0, 2])] → (some (.inl (k3, k4, σ))) = some b → (Sum.elim (fun (s : Int × Int × mS) r => mG (d + 1) 138 89 [(3, l0), (0, 0), (1, l2), (1, s.1), (1, s.2.1), (0, 0)] [] s.2.2 r) (fun b r => r = b)) b r → mG (d + 1) 138 89 [(3, k0), k1, (1, k2), (1, k3), (1, k4), k5] [] σ r := by
      intro k0 k2 k3 k4 k1 k5 σ b r hj hb hk
      have e0 : k0 = l0 := (Prod.mk.inj (Option.some.inj ((hj.1 rfl).1))).2
      subst e0
      have e2 : k2 = l2 := (Prod.mk.inj (Option.some.inj ((hj.1 rfl).2.1))).2
      subst e2
      cases hb
      exact mG.lle hk (lle_cons (lle_dead (lle_cons (lle_cons (lle_cons (lle_dead lle_nil))))))
    exact key _ _ _ _ _ _ σ b r hj hb hk
  · cases hb
set_option maxRecDepth 100000 in
theorem T_Mo_mark_89 {d : Nat} (hC : ∀ k as σ p, C_Mo_mark k as σ = some p → mEx d k as σ p) {l0 l2 l3 l4 : Int} {σ : mS} {b : Int × mS} {r : Int × mS} (h : M_Mo_mark_89 l0 l2 l3 l4 σ = some b) (hk : (fun b r => r = b) b r) : mG (d + 1) 138 89 [(3, l0), (0, 0), (1, l2), (1, l3), (1, l4), (0, 0)] [] σ r :=
  miter_ok (G := fun (s : Int × Int × mS) r => mG (d + 1) 138 89 [(3, l0), (0, 0), (1, l2), (1, s.1), (1, s.2.1), (0, 0)] [] s.2.2 r) (K := (fun b r => r = b)) (fun s x r hs hx => TB_Mo_mark_89 hC hs hx) mN _ b r h hk
set_option maxRecDepth 100000 in
theorem TB_Mo_mark_55 {d : Nat} (hC : ∀ k as σ p, C_Mo_mark k as σ = some p → mEx d k as σ p) {l0 l1 l2 l3 l4 l5 : Int} {σ : mS} {b : ((Int × mS) ⊕ ((Int × mS) ⊕ ((Int × mS) ⊕ (Int × mS))))} {r : Int × mS} (h : B_Mo_mark_55 l0 l1 l2 l3 l4 l5 σ = some b) (hk : (Sum.elim (fun (s : Int × mS) r => mG (d + 1) 138 55 [(3, l0), (1, l1), (1, l2), (1, l3), (1, l4), (1, s.1)] [] s.2 r) (Sum.elim (fun (s : Int × mS) r => mG (d + 1) 138 31 [(3, l0), (1, l1), (1, l2), (1, l3), (1, s.1), (0, 0)] [] s.2 r) (Sum.elim (fun (s : Int × mS) r => mG (d + 1) 138 26 [(3, l0), (1, l1), (1, l2), (1, s.1), (0, 0), (0, 0)] [] s.2 r) (fun b r => r = b)))) b r) : mG (d + 1) 138 55 [(3, l0), (1, l1), (1, l2), (1, l3), (1, l4), (1, l5)] [] σ r := by
  refine mblk_ok2 P_Mo_mark (F := F_Mo_mark_55) (Sum.elim (fun (s : Int × mS) r => mG (d + 1) 138 55 [(3, l0), (1, l1), (1, l2), (1, l3), (1, l4), (1, s.1)] [] s.2 r) (Sum.elim (fun (s : Int × mS) r => mG (d + 1) 138 31 [(3, l0), (1, l1), (1, l2), (1, l3), (1, s.1), (0, 0)] [] s.2 r) (Sum.elim (fun (s : Int × mS) r => mG (d + 1) 138 26 [(3, l0), (1, l1), (1, l2), (1, s.1), (0, 0), (0, 0)] [] s.2 r) (fun b r => r = b)))) [([(55, 75)], [0, 1, 2, 3, 4]), ([(31, 77)], [0, 1, 2, 3]), ([(26, 79)], [0, 1, 2])] [(55, 77)] [(3, l0), (1, l1), (1, l2), (1, l3), (1, l4), (1, l5)] (by decide +kernel) rfl hC ?_ (fun v σ b r hb hk => by cases hb; exact hk) _ 55 [(3, l0), (1, l1), (1, l2), (1, l3), (1, l4), (1, l5)] [] σ b r rfl (mJ_self _ _ _) ((E_Mo_mark_55 l0 l1 l2 l3 l4 l5 σ).trans h) hk
  intro i L st σ b r hj hb hk
  unfold F_Mo_mark_55 at hb
  split at hb
  · have key : ∀ (k0 k1 k2 k3 k4 : Int) (k5 : mV) (σ : mS) (b : ((Int × mS) ⊕ ((Int × mS) ⊕ ((Int × mS) ⊕ (Int × mS))))) (r : Int × mS), mJ [(3, l0), (1, l1), (1, l2), (1, l3), (1, l4), (1, l5)] 31 [(3, k0), (1, k1), (1, k2), (1, k3), (1, k4), k5] [([(55, 75)], [0, 1, 2, 3, 4]), ([(31, 77)], [0, 1, 2, 3]), ([(26, 79)], [0, 1, 2])] → (some (.inr (.inl (k4, σ)))) = some b → (Sum.elim (fun (s : Int × mS) r => mG (d + 1) 138 55 [(3, l0), (1, l1), (1, l2), (1, l3), (1, l4), (1, s.1)] [] s.2 r) (Sum.elim (fun (s : Int × mS) r => mG (d + 1) 138 31 [(3, l0), (1, l1), (1, l2), (1, l3), (1, s.1), (0, 0)] [] s.2 r) (Sum.elim (fun (s : Int × mS) r => mG (d + 1) 138 26 [(3, l0), (1, l1), (1, l2), (1, s.1), (0, 0), (0, 0)] [] s.2 r) (fun b r => r = b)))) b r → mG (d + 1) 138 31 [(3, k0), (1, k1), (1, k2), (1, k3), (1, k4), k5] [] σ r := by
      intro k0 k1 k2 k3 k4 k5 σ b r hj hb hk
      have e0 : k0 = l0 := (Prod.mk.inj (Option.some.inj ((hj.2.1 rfl).1))).2
      subst e0
      have e1 : k1 = l1 := (Prod.mk.inj (Option.some.inj ((hj.2.1 rfl).2.1))).2
      subst e1
      have e2 : k2 = l2 := (Prod.mk.inj (Option.some.inj ((hj.2.1 rfl).2.2.1))).2
      subst e2
      have e3 : k3 = l3 := (Prod.mk.inj (Option.some.inj ((hj.2.1 rfl).2.2.2.1))).2
      subst e3
      cases hb
      exact mG.lle hk (lle_cons (lle_cons (lle_cons (lle_cons (lle_cons (lle_dead lle_nil))))))
    exact key _ _ _ _ _ _ σ b r hj hb hk
  · have key : ∀ (k0 k1 k2 k3 k4 k5 : Int) (σ : mS) (b : ((Int × mS) ⊕ ((Int × mS) ⊕ ((Int × mS) ⊕ (Int × mS))))) (r : Int × mS), mJ [(3, l0), (1, l1), (1, l2), (1, l3), (1, l4), (1, l5)] 55 [(3, k0), (1, k1), (1, k2), (1, k3), (1, k4), (1, k5)] [([(55, 75)], [0, 1, 2, 3, 4]), ([(31, 77)], [0, 1, 2, 3]), ([(26, 79)], [0, 1, 2])] → (some (.inl (k5, σ))) = some b → (Sum.elim (fun (s : Int × mS) r => mG (d + 1) 138 55 [(3, l0), (1, l1), (1, l2), (1, l3), (1, l4), (1, s.1)] [] s.2 r) (Sum.elim (fun (s : Int × mS) r => mG (d + 1) 138 31 [(3, l0), (1, l1), (1, l2), (1, l3), (1, s.1), (0, 0)] [] s.2 r) (Sum.elim (fun (s : Int × mS) r => mG (d + 1) 138 26 [(3, l0), (1, l1), (1, l2), (1, s.1), (0, 0), (0, 0)] [] s.2 r) (fun b r => r = b)))) b r → mG (d + 1) 138 55 [(3, k0), (1, k1), (1, k2), (1, k3), (1, k4), (1, k5)] [] σ r := by
      intro k0 k1 k2 k3 k4 k5 σ b r hj hb hk
      have e0 : k0 = l0 := (Prod.mk.inj (Option.some.inj ((hj.1 rfl).1))).2
      subst e0
      have e1 : k1 = l1 := (Prod.mk.inj (Option.some.inj ((hj.1 rfl).2.1))).2
      subst e1
      have e2 : k2 = l2 := (Prod.mk.inj (Option.some.inj ((hj.1 rfl).2.2.1))).2
      subst e2
      have e3 : k3 = l3 := (Prod.mk.inj (Option.some.inj ((hj.1 rfl).2.2.2.1))).2
      subst e3
      have e4 : k4 = l4 := (Prod.mk.inj (Option.some.inj ((hj.1 rfl).2.2.2.2.1))).2
      subst e4
      cases hb
      exact mG.lle hk (lle_cons (lle_cons (lle_cons (lle_cons (lle_cons (lle_cons lle_nil))))))
    exact key _ _ _ _ _ _ σ b r hj hb hk
  · cases hb
set_option maxRecDepth 100000 in
theorem T_Mo_mark_55 {d : Nat} (hC : ∀ k as σ p, C_Mo_mark k as σ = some p → mEx d k as σ p) {l0 l1 l2 l3 l4 l5 : Int} {σ : mS} {b : ((Int × mS) ⊕ ((Int × mS) ⊕ (Int × mS)))} {r : Int × mS} (h : M_Mo_mark_55 l0 l1 l2 l3 l4 l5 σ = some b) (hk : (Sum.elim (fun (s : Int × mS) r => mG (d + 1) 138 31 [(3, l0), (1, l1), (1, l2), (1, l3), (1, s.1), (0, 0)] [] s.2 r) (Sum.elim (fun (s : Int × mS) r => mG (d + 1) 138 26 [(3, l0), (1, l1), (1, l2), (1, s.1), (0, 0), (0, 0)] [] s.2 r) (fun b r => r = b))) b r) : mG (d + 1) 138 55 [(3, l0), (1, l1), (1, l2), (1, l3), (1, l4), (1, l5)] [] σ r :=
  miter_ok (G := fun (s : Int × mS) r => mG (d + 1) 138 55 [(3, l0), (1, l1), (1, l2), (1, l3), (1, l4), (1, s.1)] [] s.2 r) (K := (Sum.elim (fun (s : Int × mS) r => mG (d + 1) 138 31 [(3, l0), (1, l1), (1, l2), (1, l3), (1, s.1), (0, 0)] [] s.2 r) (Sum.elim (fun (s : Int × mS) r => mG (d + 1) 138 26 [(3, l0), (1, l1), (1, l2), (1, s.1), (0, 0), (0, 0)] [] s.2 r) (fun b r => r = b)))) (fun s x r hs hx => TB_Mo_mark_55 hC hs hx) mN _ b r h hk
set_option maxRecDepth 100000 in
theorem TB_Mo_mark_31 {d : Nat} (hC : ∀ k as σ p, C_Mo_mark k as σ = some p → mEx d k as σ p) {l0 l1 l2 l3 l4 : Int} {σ : mS} {b : ((Int × mS) ⊕ ((Int × mS) ⊕ (Int × mS)))} {r : Int × mS} (h : B_Mo_mark_31 l0 l1 l2 l3 l4 σ = some b) (hk : (Sum.elim (fun (s : Int × mS) r => mG (d + 1) 138 31 [(3, l0), (1, l1), (1, l2), (1, l3), (1, s.1), (0, 0)] [] s.2 r) (Sum.elim (fun (s : Int × mS) r => mG (d + 1) 138 26 [(3, l0), (1, l1), (1, l2), (1, s.1), (0, 0), (0, 0)] [] s.2 r) (fun b r => r = b))) b r) : mG (d + 1) 138 31 [(3, l0), (1, l1), (1, l2), (1, l3), (1, l4), (0, 0)] [] σ r := by
  refine mblk_ok2 P_Mo_mark (F := F_Mo_mark_31) (Sum.elim (fun (s : Int × mS) r => mG (d + 1) 138 31 [(3, l0), (1, l1), (1, l2), (1, l3), (1, s.1), (0, 0)] [] s.2 r) (Sum.elim (fun (s : Int × mS) r => mG (d + 1) 138 26 [(3, l0), (1, l1), (1, l2), (1, s.1), (0, 0), (0, 0)] [] s.2 r) (fun b r => r = b))) [([(31, 77)], [0, 1, 2, 3]), ([(26, 79)], [0, 1, 2])] [(31, 54), (78, 79)] [(3, l0), (1, l1), (1, l2), (1, l3), (1, l4), (0, 0)] (by decide +kernel) rfl hC ?_ (fun v σ b r hb hk => by cases hb; exact hk) _ 31 [(3, l0), (1, l1), (1, l2), (1, l3), (1, l4), (0, 0)] [] σ b r rfl (mJ_self _ _ _) ((E_Mo_mark_31 l0 l1 l2 l3 l4 σ).trans h) hk
  intro i L st σ b r hj hb hk
  unfold F_Mo_mark_31 at hb
  split at hb
  · have key : ∀ (k0 k1 k2 k3 : Int) (k4 k5 : mV) (σ : mS) (b : ((Int × mS) ⊕ ((Int × mS) ⊕ (Int × mS)))) (r : Int × mS), mJ [(3, l0), (1, l1), (1, l2), (1, l3), (1, l4), (0, 0)] 26 [(3, k0), (1, k1), (1, k2), (1, k3), k4, k5] [([(31, 77)], [0, 1, 2, 3]), ([(26, 79)], [0, 1, 2])] → (some (.inr (.inl (k3, σ)))) = some b → (Sum.elim (fun (s : Int × mS) r => mG (d + 1) 138 31 [(3, l0), (1, l1), (1, l2), (1, l3), (1, s.1), (0, 0)] [] s.2 r) (Sum.elim (fun (s : Int × mS) r => mG (d + 1) 138 26 [(3, l0), (1, l1), (1, l2), (1, s.1), (0, 0), (0, 0)] [] s.2 r) (fun b r => r = b))) b r → mG (d + 1) 138 26 [(3, k0), (1, k1), (1, k2), (1, k3), k4, k5] [] σ r := by
      intro k0 k1 k2 k3 k4 k5 σ b r hj hb hk
      have e0 : k0 = l0 := (Prod.mk.inj (Option.some.inj ((hj.2.1 rfl).1))).2
      subst e0
      have e1 : k1 = l1 := (Prod.mk.inj (Option.some.inj ((hj.2.1 rfl).2.1))).2
      subst e1
      have e2 : k2 = l2 := (Prod.mk.inj (Option.some.inj ((hj.2.1 rfl).2.2.1))).2
      subst e2
      cases hb
      exact mG.lle hk (lle_cons (lle_cons (lle_cons (lle_cons (lle_dead (lle_dead lle_nil))))))
    exact key _ _ _ _ _ _ σ b r hj hb hk
  · have key : ∀ (k0 k1 k2 k3 k4 k5 : Int) (σ : mS) (b : ((Int × mS) ⊕ ((Int × mS) ⊕ (Int × mS)))) (r : Int × mS), mJ [(3, l0), (1, l1), (1, l2), (1, l3), (1, l4), (0, 0)] 55 [(3, k0), (1, k1), (1, k2), (1, k3), (1, k4), (1, k5)] [([(31, 77)], [0, 1, 2, 3]), ([(26, 79)], [0, 1, 2])] → (M_Mo_mark_55 k0 k1 k2 k3 k4 k5 σ) = some b → (Sum.elim (fun (s : Int × mS) r => mG (d + 1) 138 31 [(3, l0), (1, l1), (1, l2), (1, l3), (1, s.1), (0, 0)] [] s.2 r) (Sum.elim (fun (s : Int × mS) r => mG (d + 1) 138 26 [(3, l0), (1, l1), (1, l2), (1, s.1), (0, 0), (0, 0)] [] s.2 r) (fun b r => r = b))) b r → mG (d + 1) 138 55 [(3, k0), (1, k1), (1, k2), (1, k3), (1, k4), (1, k5)] [] σ r := by
      intro k0 k1 k2 k3 k4 k5 σ b r hj hb hk
      have e0 : k0 = l0 := (Prod.mk.inj (Option.some.inj ((hj.1 rfl).1))).2
      subst e0
      have e1 : k1 = l1 := (Prod.mk.inj (Option.some.inj ((hj.1 rfl).2.1))).2
      subst e1
      have e2 : k2 = l2 := (Prod.mk.inj (Option.some.inj ((hj.1 rfl).2.2.1))).2
      subst e2
      have e3 : k3 = l3 := (Prod.mk.inj (Option.some.inj ((hj.1 rfl).2.2.2.1))).2
      subst e3
      exact (T_Mo_mark_55 hC hb hk).lle (lle_cons (lle_cons (lle_cons (lle_cons (lle_cons (lle_cons lle_nil))))))
    exact key _ _ _ _ _ _ σ b r hj hb hk
  · cases hb
set_option maxRecDepth 100000 in
theorem T_Mo_mark_31 {d : Nat} (hC : ∀ k as σ p, C_Mo_mark k as σ = some p → mEx d k as σ p) {l0 l1 l2 l3 l4 : Int} {σ : mS} {b : ((Int × mS) ⊕ (Int × mS))} {r : Int × mS} (h : M_Mo_mark_31 l0 l1 l2 l3 l4 σ = some b) (hk : (Sum.elim (fun (s : Int × mS) r => mG (d + 1) 138 26 [(3, l0), (1, l1), (1, l2), (1, s.1), (0, 0), (0, 0)] [] s.2 r) (fun b r => r = b)) b r) : mG (d + 1) 138 31 [(3, l0), (1, l1), (1, l2), (1, l3), (1, l4), (0, 0)] [] σ r :=
  miter_ok (G := fun (s : Int × mS) r => mG (d + 1) 138 31 [(3, l0), (1, l1), (1, l2), (1, l3), (1, s.1), (0, 0)] [] s.2 r) (K := (Sum.elim (fun (s : Int × mS) r => mG (d + 1) 138 26 [(3, l0), (1, l1), (1, l2), (1, s.1), (0, 0), (0, 0)] [] s.2 r) (fun b r => r = b))) (fun s x r hs hx => TB_Mo_mark_31 hC hs hx) mN _ b r h hk
set_option maxRecDepth 100000 in
theorem TB_Mo_mark_26 {d : Nat} (hC : ∀ k as σ p, C_Mo_mark k as σ = some p → mEx d k as σ p) {l0 l1 l2 l3 : Int} {σ : mS} {b : ((Int × mS) ⊕ (Int × mS))} {r : Int × mS} (h : B_Mo_mark_26 l0 l1 l2 l3 σ = some b) (hk : (Sum.elim (fun (s : Int × mS) r => mG (d + 1) 138 26 [(3, l0), (1, l1), (1, l2), (1, s.1), (0, 0), (0, 0)] [] s.2 r) (fun b r => r = b)) b r) : mG (d + 1) 138 26 [(3, l0), (1, l1), (1, l2), (1, l3), (0, 0), (0, 0)] [] σ r := by
  refine mblk_ok2 P_Mo_mark (F := F_Mo_mark_26) (Sum.elim (fun (s : Int × mS) r => mG (d + 1) 138 26 [(3, l0), (1, l1), (1, l2), (1, s.1), (0, 0), (0, 0)] [] s.2 r) (fun b r => r = b)) [([(26, 79)], [0, 1, 2])] [(26, 30), (80, 88)] [(3, l0), (1, l1), (1, l2), (1, l3), (0, 0), (0, 0)] (by decide +kernel) rfl hC ?_ (fun v σ b r hb hk => by cases hb; exact hk) _ 26 [(3, l0), (1, l1), (1, l2), (1, l3), (0, 0), (0, 0)] [] σ b r rfl (mJ_self _ _ _) ((E_Mo_mark_26 l0 l1 l2 l3 σ).trans h) hk
  intro i L st σ b r hj hb hk
  unfold F_Mo_mark_26 at hb
  split at hb
  · have key : ∀ (k0 k1 k2 k3 k4 : Int) (k5 : mV) (σ : mS) (b : ((Int × mS) ⊕ (Int × mS))) (r : Int × mS), mJ [(3, l0), (1, l1), (1, l2), (1, l3), (0, 0), (0, 0)] 31 [(3, k0), (1, k1), (1, k2), (1, k3), (1, k4), k5] [([(26, 79)], [0, 1, 2])] → (M_Mo_mark_31 k0 k1 k2 k3 k4 σ) = some b → (Sum.elim (fun (s : Int × mS) r => mG (d + 1) 138 26 [(3, l0), (1, l1), (1, l2), (1, s.1), (0, 0), (0, 0)] [] s.2 r) (fun b r => r = b)) b r → mG (d + 1) 138 31 [(3, k0), (1, k1), (1, k2), (1, k3), (1, k4), k5] [] σ r := by
      intro k0 k1 k2 k3 k4 k5 σ b r hj hb hk
      have e0 : k0 = l0 := (Prod.mk.inj (Option.some.inj ((hj.1 rfl).1))).2
      subst e0
      have e1 : k1 = l1 := (Prod.mk.inj (Option.some.inj ((hj.1 rfl).2.1))).2
      subst e1
      have e2 : k2 = l2 := (Prod.mk.inj (Option.some.inj ((hj.1 rfl).2.2.1))).2
      subst e2
      exact (T_Mo_mark_31 hC hb hk).lle (lle_cons (lle_cons (lle_cons (lle_cons (lle_cons (lle_dead lle_nil))))))
    exact key _ _ _ _ _ _ σ b r hj hb hk
  · have key : ∀ (k0 k2 k3 k4 : Int) (k1 k5 : mV) (σ : mS) (b : ((Int × mS) ⊕ (Int × mS))) (r : Int × mS), mJ [(3, l0), (1, l1), (1, l2), (1, l3), (0, 0), (0, 0)] 89 [(3, k0), k1, (1, k2), (1, k3), (1, k4), k5] [([(26, 79)], [0, 1, 2])] → ((M_Mo_mark_89 k0 k2 k3 k4 σ).bind fun z => some (.inr z)) = some b → (Sum.elim (fun (s : Int × mS) r => mG (d + 1) 138 26 [(3, l0), (1, l1), (1, l2), (1, s.1), (0, 0), (0, 0)] [] s.2 r) (fun b r => r = b)) b r → mG (d + 1) 138 89 [(3, k0), k1, (1, k2), (1, k3), (1, k4), k5] [] σ r := by
      intro k0 k2 k3 k4 k1 k5 σ b r hj hb hk
      obtain ⟨z, hz, e⟩ := Option.bind_eq_some_iff.mp hb
      cases e
      exact (T_Mo_mark_89 hC hz hk).lle (lle_cons (lle_dead (lle_cons (lle_cons (lle_cons (lle_dead lle_nil))))))
    exact key _ _ _ _ _ _ σ b r hj hb hk
  · cases hb
set_option maxRecDepth 100000 in
theorem T_Mo_mark_26 {d : Nat} (hC : ∀ k as σ p, C_Mo_mark k as σ = some p → mEx d k as σ p) {l0 l1 l2 l3 : Int} {σ : mS} {b : Int × mS} {r : Int × mS} (h : M_Mo_mark_26 l0 l1 l2 l3 σ = some b) (hk : (fun b r => r = b) b r) : mG (d + 1) 138 26 [(3, l0), (1, l1), (1, l2), (1, l3), (0, 0), (0, 0)] [] σ r :=
  miter_ok (G := fun (s : Int × mS) r => mG (d + 1) 138 26 [(3, l0), (1, l1), (1, l2), (1, s.1), (0, 0), (0, 0)] [] s.2 r) (K := (fun b r => r = b)) (fun s x r hs hx => TB_Mo_mark_26 hC hs hx) mN _ b r h hk
set_option maxRecDepth 100000 in
theorem TB_Mo_mark_14 {d : Nat} (hC : ∀ k as σ p, C_Mo_mark k as σ = some p → mEx d k as σ p) {l0 l1 l2 l3 : Int} {σ : mS} {b : ((Int × mS) ⊕ (Int × mS))} {r : Int × mS} (h : B_Mo_mark_14 l0 l1 l2 l3 σ = some b) (hk : (Sum.elim (fun (s : Int × mS) r => mG (d + 1) 138 14 [(3, l0), (1, l1), (1, l2), (1, s.1), (0, 0), (0, 0)] [] s.2 r) (fun b r => r = b)) b r) : mG (d + 1) 138 14 [(3, l0), (1, l1), (1, l2), (1, l3), (0, 0), (0, 0)] [] σ r := by
  refine mblk_ok2 P_Mo_mark (F := F_Mo_mark_14) (Sum.elim (fun (s : Int × mS) r => mG (d + 1) 138 14 [(3, l0), (1, l1), (1, l2), (1, s.1), (0, 0), (0, 0)] [] s.2 r) (fun b r => r = b)) [([(14, 23)], [0, 1, 2])] [(14, 25)] [(3, l0), (1, l1), (1, l2), (1, l3), (0, 0), (0, 0)] (by decide +kernel) rfl hC ?_ (fun v σ b r hb hk => by cases hb; exact hk) _ 14 [(3, l0), (1, l1), (1, l2), (1, l3), (0, 0), (0, 0)] [] σ b r rfl (mJ_self _ _ _) ((E_Mo_mark_14 l0 l1 l2 l3 σ).trans h) hk
  intro i L st σ b r hj hb hk
  unfold F_Mo_mark_14 at hb
  split at hb
  · have key : ∀ (k0 k1 k2 k3 : Int) (k4 k5 : mV) (σ : mS) (b : ((Int × mS) ⊕ (Int × mS))) (r : Int × mS), mJ [(3, l0), (1, l1), (1, l2), (1, l3), (0, 0), (0, 0)] 14 [(3, k0), (1, k1), (1, k2), (1, k3), k4, k5] [([(14, 23)], [0, 1, 2])] → (some (.inl (k3, σ))) = some b → (Sum.elim (fun (s : Int × mS) r => mG (d + 1) 138 14 [(3, l0), (1, l1), (1, l2), (1, s.1), (0, 0), (0, 0)] [] s.2 r) (fun b r => r = b)) b r → mG (d + 1) 138 14 [(3, k0), (1, k1), (1, k2), (1, k3), k4, k5] [] σ r := by
      intro k0 k1 k2 k3 k4 k5 σ b r hj hb hk
      have e0 : k0 = l0 := (Prod.mk.inj (Option.some.inj ((hj.1 rfl).1))).2
      subst e0
      have e1 : k1 = l1 := (Prod.mk.inj (Option.some.inj ((hj.1 rfl).2.1))).2
      subst e1
      have e2 : k2 = l2 := (Prod.mk.inj (Option.some.inj ((hj.1 rfl).2.2.1))).2
      subst e2
      cases hb
      exact mG.lle hk (lle_cons (lle_cons (lle_cons (lle_cons (lle_dead (lle_dead lle_nil))))))
    exact key _ _ _ _ _ _ σ b r hj hb hk
  · have key : ∀ (k0 k1 k2 k3 : Int) (k4 k5 : mV) (σ : mS) (b : ((Int × mS) ⊕ (Int × mS))) (r : Int × mS), mJ [(3, l0), (1, l1), (1, l2), (1, l3), (0, 0), (0, 0)] 26 [(3, k0), (1, k1), (1, k2), (1, k3), k4, k5] [([(14, 23)], [0, 1, 2])] → ((M_Mo_mark_26 k0 k1 k2 k3 σ).bind fun z => some (.inr z)) = some b → (Sum.elim (fun (s : Int × mS) r => mG (d + 1) 138 14 [(3, l0), (1, l1), (1, l2), (1, s.1), (0, 0), (0, 0)] [] s.2 r) (fun b r => r = b)) b r → mG (d + 1) 138 26 [(3, k0), (1, k1), (1, k2), (1, k3), k4, k5] [] σ r := by
      intro k0 k1 k2 k3 k4 k5 σ b r hj hb hk
      obtain ⟨z, hz, e⟩ := Option.bind_eq_some_iff.mp hb
      cases e
      exact (T_Mo_mark_26 hC hz hk).lle (lle_cons (lle_cons (lle_cons (lle_cons (lle_dead (lle_dead lle_nil))))))
    exact key _ _ _ _ _ _ σ b r hj hb hk
  · cases hb
set_option maxRecDepth 100000 in
theorem T_Mo_mark_14 {d : Nat} (hC : ∀ k as σ p, C_Mo_mark k as σ = some p → mEx d k as σ p) {l0 l1 l2 l3 : Int} {σ : mS} {b : Int × mS} {r : Int × mS} (h : M_Mo_mark_14 l0 l1 l2 l3 σ = some b) (hk : (fun b r => r = b) b r) : mG (d + 1) 138 14 [(3, l0), (1, l1), (1, l2), (1, l3), (0, 0), (0, 0)] [] σ r :=
  miter_ok (G := fun (s : Int × mS) r => mG (d + 1) 138 14 [(3, l0), (1, l1), (1, l2), (1, s.1), (0, 0), (0, 0)] [] s.2 r) (K := (fun b r => r = b)) (fun s x r hs hx => TB_Mo_mark_14 hC hs hx) mN _ b r h hk
set_option maxRecDepth 100000 in
theorem T_Mo_mark_0 {d : Nat} (hC : ∀ k as σ p, C_Mo_mark k as σ = some p → mEx d k as σ p) {l0 l1 l2 : Int} {σ : mS} {b : Int × mS} {r : Int × mS} (h : M_Mo_mark l0 l1 l2 σ = some b) (hk : (fun b r => r = b) b r) : mG (d + 1) 138 0 (mInit 6 [(3, l0), (1, l1), (1, l2)]) [] σ r := by
  refine mblk_ok1 P_Mo_mark (F := F_Mo_mark_0) (fun b r => r = b) hC ?_ (fun v σ b r hb hk => by cases hb; exact hk) _ 0 (mInit 6 [(3, l0), (1, l1), (1, l2)]) [] σ b r ((E_Mo_mark_0 l0 l1 l2 σ).trans h) hk
  intro i L st σ b r hb hk
  unfold F_Mo_mark_0 at hb
  split at hb
  · have key : ∀ (k0 k1 k2 k3 : Int) (k4 k5 : mV) (σ : mS) (b : Int × mS) (r : Int × mS), (M_Mo_mark_14 k0 k1 k2 k3 σ) = some b → (fun b r => r = b) b r → mG (d + 1) 138 14 [(3, k0), (1, k1), (1, k2), (1, k3), k4, k5] [] σ r := by
      intro k0 k1 k2 k3 k4 k5 σ b r hb hk
      exact (T_Mo_mark_14 hC hb hk).lle (lle_cons (lle_cons (lle_cons (lle_cons (lle_dead (lle_dead lle_nil))))))
    exact key _ _ _ _ _ _ σ b r hb hk
  · cases hb
set_option maxRecDepth 100000 in
theorem T_Mo_mark {l0 l1 l2 : Int} {σ : mS} {r : Int × mS} (h : M_Mo_mark l0 l1 l2 σ = some r) : mEx 126 138 [(3, l0), (1, l1), (1, l2)] σ r :=
  ⟨by rw [P_Mo_mark]; exact Nat.le_of_ble_eq_true rfl, by rw [P_Mo_mark]; exact T_Mo_mark_0 TC_Mo_mark h rfl⟩
set_option maxRecDepth 100000 in
theorem P_Mo_errorIn : mProg 140 = (c_Mo_errorIn, 3) := rfl
set_option maxRecDepth 100000 in
theorem TC_Mo_errorIn : ∀ k as σ p, C_Mo_errorIn k as σ = some p → mEx 125 k as σ p := by
  intro k as σ p hp
  unfold C_Mo_errorIn at hp
  split at hp
  · exact (T_Mo_goes hp).up (Nat.le_of_ble_eq_true rfl)
  · cases hp
set_option maxRecDepth 100000 in
theorem T_Mo_errorIn_0 {d : Nat} (hC : ∀ k as σ p, C_Mo_errorIn k as σ = some p → mEx d k as σ p) {l0 l1 l2 : Int} {σ : mS} {b : Int × mS} {r : Int × mS} (h : M_Mo_errorIn l0 l1 l2 σ = some b) (hk : (fun b r => r = b) b r) : mG (d + 1) 140 0 (mInit 3 [(3, l0), (1, l1), (1, l2)]) [] σ r := by
  refine mblk_ok1 P_Mo_errorIn (F := F_Mo_errorIn_0) (fun b r => r = b) hC ?_ (fun v σ b r hb hk => by cases hb; exact hk) _ 0 (mInit 3 [(3, l0), (1, l1), (1, l2)]) [] σ b r ((E_Mo_errorIn_0 l0 l1 l2 σ).trans h) hk
  intro i L st σ b r hb hk
  cases hb
set_option maxRecDepth 100000 in
theorem T_Mo_errorIn {l0 l1 l2 : Int} {σ : mS} {r : Int × mS} (h : M_Mo_errorIn l0 l1 l2 σ = some r) : mEx 126 140 [(3, l0), (1, l1), (1, l2)] σ r :=
  ⟨by rw [P_Mo_errorIn]; exact Nat.le_of_ble_eq_true rfl, by rw [P_Mo_errorIn]; exact T_Mo_errorIn_0 TC_Mo_errorIn h rfl⟩
set_option maxRecDepth 100000 in
theorem P_Mo_level : mProg 141 = (c_Mo_level, 2) := rfl
set_option maxRecDepth 100000 in
theorem TC_Mo_level : ∀ k as σ p, C_Mo_level k as σ = some p → mEx 126 k as σ p := by
  intro k as σ p hp
  unfold C_Mo_level at hp
  split at hp
  · exact (T_Mo_isPlace hp).up (Nat.le_of_ble_eq_true rfl)
  · exact (T_Mo_errorIn hp).up (Nat.le_of_ble_eq_true rfl)
  · cases hp
set_option maxRecDepth 100000 in
theorem T_Mo_level_0 {d : Nat} (hC : ∀ k as σ p, C_Mo_level k as σ = some p → mEx d k as σ p) {l0 l1 : Int} {σ : mS} {b : Int × mS} {r : Int × mS} (h : M_Mo_level l0 l1 σ = some b) (hk : (fun b r => r = b) b r) : mG (d + 1) 141 0 (mInit 2 [(3, l0), (1, l1)]) [] σ r := by
  refine mblk_ok1 P_Mo_level (F := F_Mo_level_0) (fun b r => r = b) hC ?_ (fun v σ b r hb hk => by cases hb; exact hk) _ 0 (mInit 2 [(3, l0), (1, l1)]) [] σ b r ((E_Mo_level_0 l0 l1 σ).trans h) hk
  intro i L st σ b r hb hk
  cases hb
set_option maxRecDepth 100000 in
theorem T_Mo_level {l0 l1 : Int} {σ : mS} {r : Int × mS} (h : M_Mo_level l0 l1 σ = some r) : mEx 127 141 [(3, l0), (1, l1)] σ r :=
  ⟨by rw [P_Mo_level]; exact Nat.le_of_ble_eq_true rfl, by rw [P_Mo_level]; exact T_Mo_level_0 TC_Mo_level h rfl⟩
set_option maxRecDepth 100000 in
theorem P_Mo_best : mProg 142 = (c_Mo_best, 6) := rfl
set_option maxRecDepth 100000 in
theorem TC_Mo_best : ∀ k as σ p, C_Mo_best k as σ = some p → mEx 126 k as σ p := by
  intro k as σ p hp
  unfold C_Mo_best at hp
  split at hp
  · exact (T_Mo_far hp).up (Nat.le_of_ble_eq_true rfl)
  · exact (T_Mo_isPlace hp).up (Nat.le_of_ble_eq_true rfl)
  · exact (T_Mo_errorIn hp).up (Nat.le_of_ble_eq_true rfl)
  · cases hp
set_option maxRecDepth 100000 in
theorem T_Mo_best_30 {d : Nat} (hC : ∀ k as σ p, C_Mo_best k as σ = some p → mEx d k as σ p) {l0 l1 l4 l5 : Int} {σ : mS} {b : ((Int × Int × Int × mS) ⊕ (Int × mS))} {r : Int × mS} (h : M_Mo_best_30 l0 l1 l4 l5 σ = some b) (hk : (Sum.elim (fun (s : Int × Int × Int × mS) r => mG (d + 1) 142 11 [(3, l0), (1, l1), (1, s.1), (1, s.2.1), (1, s.2.2.1), (0, 0)] [] s.2.2.2 r) (fun b r => r = b)) b r) : mG (d + 1) 142 30 [(3, l0), (1, l1), (0, 0), (0, 0), (1, l4), (1, l5)] [] σ r := by
  refine mblk_ok2 P_Mo_best (F := F_Mo_best_30) (Sum.elim (fun (s : Int × Int × Int × mS) r => mG (d + 1) 142 11 [(3, l0), (1, l1), (1, s.1), (1, s.2.1), (1, s.2.2.1), (0, 0)] [] s.2.2.2 r) (fun b r => r = b)) [([(11, 36)], [0, 1])] [(30, 36)] [(3, l0), (1, l1), (0, 0), (0, 0), (1, l4), (1, l5)] (by decide +kernel) rfl hC ?_ (fun v σ b r hb hk => by cases hb; exact hk) _ 30 [(3, l0), (1, l1), (0, 0), (0, 0), (1, l4), (1, l5)] [] σ b r rfl (mJ_self _ _ _) ((E_Mo_best_30 l0 l1 l4 l5 σ).trans h) hk
  intro i L st σ b r hj hb hk
  unfold F_Mo_best_30 at hb
  split at hb
  · have key : ∀ (k0 k1 k2 k3 k4 : Int) (k5 : mV) (σ : mS) (b : ((Int × Int × Int × mS) ⊕ (Int × mS))) (r : Int × mS), mJ [(3, l0), (1, l1), (0, 0), (0, 0), (1, l4), (1, l5)] 11 [(3, k0), (1, k1), (1, k2), (1, k3), (1, k4), k5] [([(11, 36)], [0, 1])] → (some (.inl (k2, k3, k4, σ))) = some b → (Sum.elim (fun (s : Int × Int × Int × mS) r => mG (d + 1) 142 11 [(3, l0), (1, l1), (1, s.1), (1, s.2.1), (1, s.2.2.1), (0, 0)] [] s.2.2.2 r) (fun b r => r = b)) b r → mG (d + 1) 142 11 [(3, k0), (1, k1), (1, k2), (1, k3), (1, k4), k5] [] σ r := by
      intro k0 k1 k2 k3 k4 k5 σ b r hj hb hk
      have e0 : k0 = l0 := (Prod.mk.inj (Option.some.inj ((hj.1 rfl).1))).2
      subst e0
      have e1 : k1 = l1 := (Prod.mk.inj (Option.some.inj ((hj.1 rfl).2.1))).2
      subst e1
      cases hb
      exact mG.lle hk (lle_cons (lle_cons (lle_cons (lle_cons (lle_cons (lle_dead lle_nil))))))
    exact key _ _ _ _ _ _ σ b r hj hb hk
  · cases hb
set_option maxRecDepth 100000 in
theorem TB_Mo_best_11 {d : Nat} (hC : ∀ k as σ p, C_Mo_best k as σ = some p → mEx d k as σ p) {l0 l1 l2 l3 l4 : Int} {σ : mS} {b : ((Int × Int × Int × mS) ⊕ (Int × mS))} {r : Int × mS} (h : B_Mo_best_11 l0 l1 l2 l3 l4 σ = some b) (hk : (Sum.elim (fun (s : Int × Int × Int × mS) r => mG (d + 1) 142 11 [(3, l0), (1, l1), (1, s.1), (1, s.2.1), (1, s.2.2.1), (0, 0)] [] s.2.2.2 r) (fun b r => r = b)) b r) : mG (d + 1) 142 11 [(3, l0), (1, l1), (1, l2), (1, l3), (1, l4), (0, 0)] [] σ r := by
  refine mblk_ok2 P_Mo_best (F := F_Mo_best_11) (Sum.elim (fun (s : Int × Int × Int × mS) r => mG (d + 1) 142 11 [(3, l0), (1, l1), (1, s.1), (1, s.2.1), (1, s.2.2.1), (0, 0)] [] s.2.2.2 r) (fun b r => r = b)) [([(11, 36)], [0, 1])] [(11, 29), (35, 38)] [(3, l0), (1, l1), (1, l2), (1, l3), (1, l4), (0, 0)] (by decide +kernel) rfl hC ?_ (fun v σ b r hb hk => by cases hb; exact hk) _ 11 [(3, l0), (1, l1), (1, l2), (1, l3), (1, l4), (0, 0)] [] σ b r rfl (mJ_self _ _ _) ((E_Mo_best_11 l0 l1 l2 l3 l4 σ).trans h) hk
  intro i L st σ b r hj hb hk
  unfold F_Mo_best_11 at hb
  split at hb
  · have key : ∀ (k0 k1 k2 k3 k4 : Int) (k5 : mV) (σ : mS) (b : ((Int × Int × Int × mS) ⊕ (Int × mS))) (r : Int × mS), mJ [(3, l0), (1, l1), (1, l2), (1, l3), (1, l4), (0, 0)] 11 [(3, k0), (1, k1), (1, k2), (1, k3), (1, k4), k5] [([(11, 36)], [0, 1])] → (some (.inl (k2, k3, k4, σ))) = some b → (Sum.elim (fun (s : Int × Int × Int × mS) r => mG (d + 1) 142 11 [(3, l0), (1, l1), (1, s.1), (1, s.2.1), (1, s.2.2.1), (0, 0)] [] s.2.2.2 r) (fun b r => r = b)) b r → mG (d + 1) 142 11 [(3, k0), (1, k1), (1, k2), (1, k3), (1, k4), k5] [] σ r := by
      intro k0 k1 k2 k3 k4 k5 σ b r hj hb hk
      have e0 : k0 = l0 := (Prod.mk.inj (Option.some.inj ((hj.1 rfl).1))).2
      subst e0
      have e1 : k1 = l1 := (Prod.mk.inj (Option.some.inj ((hj.1 rfl).2.1))).2
      subst e1
      cases hb
      exact mG.lle hk (lle_cons (lle_cons (lle_cons (lle_cons (lle_cons (lle_dead lle_nil))))))
    exact key _ _ _ _ _ _ σ b r hj hb hk
  · have key : ∀ (k0 k1 k4 k5 : Int) (k2 k3 : mV) (σ : mS) (b : ((Int × Int × Int × mS) ⊕ (Int × mS))) (r : Int × mS), mJ [(3, l0), (1, l1), (1, l2), (1, l3), (1, l4), (0, 0)] 30 [(3, k0), (1, k1), k2, k3, (1, k4), (1, k5)] [([(11, 36)], [0, 1])] → (M_Mo_best_30 k0 k1 k4 k5 σ) = some b → (Sum.elim (fun (s : Int × Int × Int × mS) r => mG (d + 1) 142 11 [(3, l0), (1, l1), (1, s.1), (1, s.2.1), (1, s.2.2.1), (0, 0)] [] s.2.2.2 r) (fun b r => r = b)) b r → mG (d + 1) 142 30 [(3, k0), (1, k1), k2, k3, (1, k4), (1, k5)] [] σ r := by
      intro k0 k1 k4 k5 k2 k3 σ b r hj hb hk
      have e0 : k0 = l0 := (Prod.mk.inj (Option.some.inj ((hj.1 rfl).1))).2
      subst e0
      have e1 : k1 = l1 := (Prod.mk.inj (Option.some.inj ((hj.1 rfl).2.1))).2
      subst e1
      exact (T_Mo_best_30 hC hb hk).lle (lle_cons (lle_cons (lle_dead (lle_dead (lle_cons (lle_cons lle_nil))))))
    exact key _ _ _ _ _ _ σ b r hj hb hk
  · cases hb
set_option maxRecDepth 100000 in
theorem T_Mo_best_11 {d : Nat} (hC : ∀ k as σ p, C_Mo_best k as σ = some p → mEx d k as σ p) {l0 l1 l2 l3 l4 : Int} {σ : mS} {b : Int × mS} {r : Int × mS} (h : M_Mo_best_11 l0 l1 l2 l3 l4 σ = some b) (hk : (fun b r => r = b) b r) : mG (d + 1) 142 11 [(3, l0), (1, l1), (1, l2), (1, l3), (1, l4), (0, 0)] [] σ r :=
  miter_ok (G := fun (s : Int × Int × Int × mS) r => mG (d + 1) 142 11 [(3, l0), (1, l1), (1, s.1), (1, s.2.1), (1, s.2.2.1), (0, 0)] [] s.2.2.2 r) (K := (fun b r => r = b)) (fun s x r hs hx => TB_Mo_best_11 hC hs hx) mN _ b r h hk
set_option maxRecDepth 100000 in
theorem T_Mo_best_0 {d : Nat} (hC : ∀ k as σ p, C_Mo_best k as σ = some p → mEx d k as σ p) {l0 l1 : Int} {σ : mS} {b : Int × mS} {r : Int × mS} (h : M_Mo_best l0 l1 σ = some b) (hk : (fun b r => r = b) b r) : mG (d + 1) 142 0 (mInit 6 [(3, l0), (1, l1)]) [] σ r := by
  refine mblk_ok1 P_Mo_best (F := F_Mo_best_0) (fun b r => r = b) hC ?_ (fun v σ b r hb hk => by cases hb; exact hk) _ 0 (mInit 6 [(3, l0), (1, l1)]) [] σ b r ((E_Mo_best_0 l0 l1 σ).trans h) hk
  intro i L st σ b r hb hk
  unfold F_Mo_best_0 at hb
  split at hb
  · have key : ∀ (k0 k1 k2 k3 k4 : Int) (k5 : mV) (σ : mS) (b : Int × mS) (r : Int × mS), (M_Mo_best_11 k0 k1 k2 k3 k4 σ) = some b → (fun b r => r = b) b r → mG (d + 1) 142 11 [(3, k0), (1, k1), (1, k2), (1, k3), (1, k4), k5] [] σ r := by
      intro k0 k1 k2 k3 k4 k5 σ b r hb hk
      exact (T_Mo_best_11 hC hb hk).lle (lle_cons (lle_cons (lle_cons (lle_cons (lle_cons (lle_dead lle_nil))))))
    exact key _ _ _ _ _ _ σ b r hb hk
  · cases hb
set_option maxRecDepth 100000 in
theorem T_Mo_best {l0 l1 : Int} {σ : mS} {r : Int × mS} (h : M_Mo_best l0 l1 σ = some r) : mEx 127 142 [(3, l0), (1, l1)] σ r :=
  ⟨by rw [P_Mo_best]; exact Nat.le_of_ble_eq_true rfl, by rw [P_Mo_best]; exact T_Mo_best_0 TC_Mo_best h rfl⟩
set_option maxRecDepth 100000 in
theorem P_Mo_eyes : mProg 143 = (c_Mo_eyes, 5) := rfl
set_option maxRecDepth 100000 in
theorem TC_Mo_eyes : ∀ k as σ p, C_Mo_eyes k as σ = some p → mEx 126 k as σ p := by
  intro k as σ p hp
  unfold C_Mo_eyes at hp
  split at hp
  · exact (T_Mo_lies hp).up (Nat.le_of_ble_eq_true rfl)
  · exact (T_Mo_isThing hp).up (Nat.le_of_ble_eq_true rfl)
  · exact (T_Mo_looks hp).up (Nat.le_of_ble_eq_true rfl)
  · exact (T_Mo_seenNow hp).up (Nat.le_of_ble_eq_true rfl)
  · exact (T_Mo_picturesNow hp).up (Nat.le_of_ble_eq_true rfl)
  · exact (T_Mo_hiddenNow hp).up (Nat.le_of_ble_eq_true rfl)
  · cases hp
set_option maxRecDepth 100000 in
theorem T_Mo_eyes_50 {d : Nat} (hC : ∀ k as σ p, C_Mo_eyes k as σ = some p → mEx d k as σ p) {l0 l1 l2 l4 s0 : Int} {σ : mS} {b : ((Int × Int × mS) ⊕ (Int × mS))} {r : Int × mS} (h : M_Mo_eyes_50 l0 l1 l2 l4 s0 σ = some b) (hk : (Sum.elim (fun (s : Int × Int × mS) r => mG (d + 1) 143 15 [(3, l0), (1, l1), (1, l2), (1, s.1), (1, s.2.1)] [] s.2.2 r) (fun b r => r = b)) b r) : mG (d + 1) 143 50 [(3, l0), (1, l1), (1, l2), (0, 0), (1, l4)] [(1, s0)] σ r := by
  refine mblk_ok2 P_Mo_eyes (F := F_Mo_eyes_50) (Sum.elim (fun (s : Int × Int × mS) r => mG (d + 1) 143 15 [(3, l0), (1, l1), (1, l2), (1, s.1), (1, s.2.1)] [] s.2.2 r) (fun b r => r = b)) [([(15, 56)], [0, 1, 2])] [(50, 51), (53, 56)] [(3, l0), (1, l1), (1, l2), (0, 0), (1, l4)] (by decide +kernel) rfl hC ?_ (fun v σ b r hb hk => by cases hb; exact hk) _ 50 [(3, l0), (1, l1), (1, l2), (0, 0), (1, l4)] [(1, s0)] σ b r rfl (mJ_self _ _ _) ((E_Mo_eyes_50 l0 l1 l2 l4 s0 σ).trans h) hk
  intro i L st σ b r hj hb hk
  unfold F_Mo_eyes_50 at hb
  split at hb
  · have key : ∀ (k0 k1 k2 k3 k4 : Int) (σ : mS) (b : ((Int × Int × mS) ⊕ (Int × mS))) (r : Int × mS), mJ [(3, l0), (1, l1), (1, l2), (0, 0), (1, l4)] 15 [(3, k0), (1, k1), (1, k2), (1, k3), (1, k4)] [([(15, 56)], [0, 1, 2])] → (some (.inl (k3, k4, σ))) = some b → (Sum.elim (fun (s : Int × Int × mS) r => mG (d + 1) 143 15 [(3, l0), (1, l1), (1, l2), (1, s.1), (1, s.2.1)] [] s.2.2 r) (fun b r => r = b)) b r → mG (d + 1) 143 15 [(3, k0), (1, k1), (1, k2), (1, k3), (1, k4)] [] σ r := by
      intro k0 k1 k2 k3 k4 σ b r hj hb hk
      have e0 : k0 = l0 := (Prod.mk.inj (Option.some.inj ((hj.1 rfl).1))).2
      subst e0
      have e1 : k1 = l1 := (Prod.mk.inj (Option.some.inj ((hj.1 rfl).2.1))).2
      subst e1
      have e2 : k2 = l2 := (Prod.mk.inj (Option.some.inj ((hj.1 rfl).2.2.1))).2
      subst e2
      cases hb
      exact mG.lle hk (lle_cons (lle_cons (lle_cons (lle_cons (lle_cons lle_nil)))))
    exact key _ _ _ _ _ σ b r hj hb hk
  · cases hb
set_option maxRecDepth 100000 in
theorem TB_Mo_eyes_15 {d : Nat} (hC : ∀ k as σ p, C_Mo_eyes k as σ = some p → mEx d k as σ p) {l0 l1 l2 l3 l4 : Int} {σ : mS} {b : ((Int × Int × mS) ⊕ (Int × mS))} {r : Int × mS} (h : B_Mo_eyes_15 l0 l1 l2 l3 l4 σ = some b) (hk : (Sum.elim (fun (s : Int × Int × mS) r => mG (d + 1) 143 15 [(3, l0), (1, l1), (1, l2), (1, s.1), (1, s.2.1)] [] s.2.2 r) (fun b r => r = b)) b r) : mG (d + 1) 143 15 [(3, l0), (1, l1), (1, l2), (1, l3), (1, l4)] [] σ r := by
  refine mblk_ok2 P_Mo_eyes (F := F_Mo_eyes_15) (Sum.elim (fun (s : Int × Int × mS) r => mG (d + 1) 143 15 [(3, l0), (1, l1), (1, l2), (1, s.1), (1, s.2.1)] [] s.2.2 r) (fun b r => r = b)) [([(15, 56)], [0, 1, 2])] [(15, 49), (52, 58)] [(3, l0), (1, l1), (1, l2), (1, l3), (1, l4)] (by decide +kernel) rfl hC ?_ (fun v σ b r hb hk => by cases hb; exact hk) _ 15 [(3, l0), (1, l1), (1, l2), (1, l3), (1, l4)] [] σ b r rfl (mJ_self _ _ _) ((E_Mo_eyes_15 l0 l1 l2 l3 l4 σ).trans h) hk
  intro i L st σ b r hj hb hk
  unfold F_Mo_eyes_15 at hb
  split at hb
  · have key : ∀ (k0 k1 k2 k3 k4 : Int) (σ : mS) (b : ((Int × Int × mS) ⊕ (Int × mS))) (r : Int × mS), mJ [(3, l0), (1, l1), (1, l2), (1, l3), (1, l4)] 15 [(3, k0), (1, k1), (1, k2), (1, k3), (1, k4)] [([(15, 56)], [0, 1, 2])] → (some (.inl (k3, k4, σ))) = some b → (Sum.elim (fun (s : Int × Int × mS) r => mG (d + 1) 143 15 [(3, l0), (1, l1), (1, l2), (1, s.1), (1, s.2.1)] [] s.2.2 r) (fun b r => r = b)) b r → mG (d + 1) 143 15 [(3, k0), (1, k1), (1, k2), (1, k3), (1, k4)] [] σ r := by
      intro k0 k1 k2 k3 k4 σ b r hj hb hk
      have e0 : k0 = l0 := (Prod.mk.inj (Option.some.inj ((hj.1 rfl).1))).2
      subst e0
      have e1 : k1 = l1 := (Prod.mk.inj (Option.some.inj ((hj.1 rfl).2.1))).2
      subst e1
      have e2 : k2 = l2 := (Prod.mk.inj (Option.some.inj ((hj.1 rfl).2.2.1))).2
      subst e2
      cases hb
      exact mG.lle hk (lle_cons (lle_cons (lle_cons (lle_cons (lle_cons lle_nil)))))
    exact key _ _ _ _ _ σ b r hj hb hk
  · have key : ∀ (k0 k1 k2 k4 u0 : Int) (k3 : mV) (σ : mS) (b : ((Int × Int × mS) ⊕ (Int × mS))) (r : Int × mS), mJ [(3, l0), (1, l1), (1, l2), (1, l3), (1, l4)] 50 [(3, k0), (1, k1), (1, k2), k3, (1, k4)] [([(15, 56)], [0, 1, 2])] → (M_Mo_eyes_50 k0 k1 k2 k4 u0 σ) = some b → (Sum.elim (fun (s : Int × Int × mS) r => mG (d + 1) 143 15 [(3, l0), (1, l1), (1, l2), (1, s.1), (1, s.2.1)] [] s.2.2 r) (fun b r => r = b)) b r → mG (d + 1) 143 50 [(3, k0), (1, k1), (1, k2), k3, (1, k4)] [(1, u0)] σ r := by
      intro k0 k1 k2 k4 u0 k3 σ b r hj hb hk
      have e0 : k0 = l0 := (Prod.mk.inj (Option.some.inj ((hj.1 rfl).1))).2
      subst e0
      have e1 : k1 = l1 := (Prod.mk.inj (Option.some.inj ((hj.1 rfl).2.1))).2
      subst e1
      have e2 : k2 = l2 := (Prod.mk.inj (Option.some.inj ((hj.1 rfl).2.2.1))).2
      subst e2
      exact (T_Mo_eyes_50 hC hb hk).lle (lle_cons (lle_cons (lle_cons (lle_dead (lle_cons lle_nil)))))
    exact key _ _ _ _ _ _ σ b r hj hb hk
  · cases hb
set_option maxRecDepth 100000 in
theorem T_Mo_eyes_15 {d : Nat} (hC : ∀ k as σ p, C_Mo_eyes k as σ = some p → mEx d k as σ p) {l0 l1 l2 l3 l4 : Int} {σ : mS} {b : Int × mS} {r : Int × mS} (h : M_Mo_eyes_15 l0 l1 l2 l3 l4 σ = some b) (hk : (fun b r => r = b) b r) : mG (d + 1) 143 15 [(3, l0), (1, l1), (1, l2), (1, l3), (1, l4)] [] σ r :=
  miter_ok (G := fun (s : Int × Int × mS) r => mG (d + 1) 143 15 [(3, l0), (1, l1), (1, l2), (1, s.1), (1, s.2.1)] [] s.2.2 r) (K := (fun b r => r = b)) (fun s x r hs hx => TB_Mo_eyes_15 hC hs hx) mN _ b r h hk
set_option maxRecDepth 100000 in
theorem T_Mo_eyes_0 {d : Nat} (hC : ∀ k as σ p, C_Mo_eyes k as σ = some p → mEx d k as σ p) {l0 l1 l2 : Int} {σ : mS} {b : Int × mS} {r : Int × mS} (h : M_Mo_eyes l0 l1 l2 σ = some b) (hk : (fun b r => r = b) b r) : mG (d + 1) 143 0 (mInit 5 [(3, l0), (1, l1), (1, l2)]) [] σ r := by
  refine mblk_ok1 P_Mo_eyes (F := F_Mo_eyes_0) (fun b r => r = b) hC ?_ (fun v σ b r hb hk => by cases hb; exact hk) _ 0 (mInit 5 [(3, l0), (1, l1), (1, l2)]) [] σ b r ((E_Mo_eyes_0 l0 l1 l2 σ).trans h) hk
  intro i L st σ b r hb hk
  unfold F_Mo_eyes_0 at hb
  split at hb
  · have key : ∀ (k0 k1 k2 k3 k4 : Int) (σ : mS) (b : Int × mS) (r : Int × mS), (M_Mo_eyes_15 k0 k1 k2 k3 k4 σ) = some b → (fun b r => r = b) b r → mG (d + 1) 143 15 [(3, k0), (1, k1), (1, k2), (1, k3), (1, k4)] [] σ r := by
      intro k0 k1 k2 k3 k4 σ b r hb hk
      exact (T_Mo_eyes_15 hC hb hk).lle (lle_cons (lle_cons (lle_cons (lle_cons (lle_cons lle_nil)))))
    exact key _ _ _ _ _ σ b r hb hk
  · cases hb
set_option maxRecDepth 100000 in
theorem T_Mo_eyes {l0 l1 l2 : Int} {σ : mS} {r : Int × mS} (h : M_Mo_eyes l0 l1 l2 σ = some r) : mEx 127 143 [(3, l0), (1, l1), (1, l2)] σ r :=
  ⟨by rw [P_Mo_eyes]; exact Nat.le_of_ble_eq_true rfl, by rw [P_Mo_eyes]; exact T_Mo_eyes_0 TC_Mo_eyes h rfl⟩
set_option maxRecDepth 100000 in
theorem P_Mo_where : mProg 144 = (c_Mo_where, 6) := rfl
set_option maxRecDepth 100000 in
theorem TC_Mo_where : ∀ k as σ p, C_Mo_where k as σ = some p → mEx 125 k as σ p := by
  intro k as σ p hp
  unfold C_Mo_where at hp
  split at hp
  · exact (T_Mo_lies hp).up (Nat.le_of_ble_eq_true rfl)
  · exact (T_Mo_thingAt hp).up (Nat.le_of_ble_eq_true rfl)
  · exact (T_Mo_goes hp).up (Nat.le_of_ble_eq_true rfl)
  · exact (T_Mo_wouldSee hp).up (Nat.le_of_ble_eq_true rfl)
  · cases hp
set_option maxRecDepth 100000 in
theorem TB_Mo_where_99 {d : Nat} (hC : ∀ k as σ p, C_Mo_where k as σ = some p → mEx d k as σ p) {l0 l2 l3 : Int} {σ : mS} {b : ((Int × mS) ⊕ (Int × mS))} {r : Int × mS} (h : B_Mo_where_99 l0 l2 l3 σ = some b) (hk : (Sum.elim (fun (s : Int × mS) r => mG (d + 1) 144 99 [(3, l0), (0, 0), (1, l2), (1, s.1), (0, 0), (0, 0)] [] s.2 r) (fun b r => r = b)) b r) : mG (d + 1) 144 99 [(3, l0), (0, 0), (1, l2), (1, l3), (0, 0), (0, 0)] [] σ r := by
  refine mblk_ok2 P_Mo_where (F := F_Mo_where_99) (Sum.elim (fun (s : Int × mS) r => mG (d + 1) 144 99 [(3, l0), (0, 0), (1, l2), (1, s.1), (0, 0), (0, 0)] [] s.2 r) (fun b r => r = b)) [([(99, 112), (115, 116)], [0, 2])] [(99, 118)] [(3, l0), (0, 0), (1, l2), (1, l3), (0, 0), (0, 0)] (by decide +kernel) rfl hC ?_ (fun v σ b r hb hk => by cases hb; exact hk) _ 99 [(3, l0), (0, 0), (1, l2), (1, l3), (0, 0), (0, 0)] [] σ b r rfl (mJ_self _ _ _) ((E_Mo_where_99 l0 l2 l3 σ).trans h) hk
  intro i L st σ b r hj hb hk
  unfold F_Mo_where_99 at hb
  split at hb
  · have key : ∀ (k0 k2 k3 : Int) (k1 k4 k5 : mV) (σ : mS) (b : ((Int × mS) ⊕ (Int × mS))) (r : Int × mS), mJ [(3, l0), (0, 0), (1, l2), (1, l3), (0, 0), (0, 0)] 99 [(3, k0), k1, (1, k2), (1, k3), k4, k5] [([(99, 112), (115, 116)], [0, 2])] → (some (.inl (k3, σ))) = some b → (Sum.elim (fun (s : Int × mS) r => mG (d + 1) 144 99 [(3, l0), (0, 0), (1, l2), (1, s.1), (0, 0), (0, 0)] [] s.2 r) (fun b r => r = b)) b r → mG (d + 1) 144 99 [(3, k0), k1, (1, k2), (1, k3), k4, k5] [] σ r := by
      intro k0 k2 k3 k1 k4 k5 σ b r hj hb hk
      have e0 : k0 = l0 := (Prod.mk.inj (Option.some.inj ((hj.1 rfl).1))).2
      subst e0
      have e2 : k2 = l2 := (Prod.mk.inj (Option.some.inj ((hj.1 rfl).2.1))).2
      subst e2
      cases hb
      exact mG.lle hk (lle_cons (lle_dead (lle_cons (lle_cons (lle_dead (lle_dead lle_nil))))))
    exact key _ _ _ _ _ _ σ b r hj hb hk
  · cases hb
set_option maxRecDepth 100000 in
theorem T_Mo_where_99 {d : Nat} (hC : ∀ k as σ p, C_Mo_where k as σ = some p → mEx d k as σ p) {l0 l2 l3 : Int} {σ : mS} {b : Int × mS} {r : Int × mS} (h : M_Mo_where_99 l0 l2 l3 σ = some b) (hk : (fun b r => r = b) b r) : mG (d + 1) 144 99 [(3, l0), (0, 0), (1, l2), (1, l3), (0, 0), (0, 0)] [] σ r :=
  miter_ok (G := fun (s : Int × mS) r => mG (d + 1) 144 99 [(3, l0), (0, 0), (1, l2), (1, s.1), (0, 0), (0, 0)] [] s.2 r) (K := (fun b r => r = b)) (fun s x r hs hx => TB_Mo_where_99 hC hs hx) mN _ b r h hk
set_option maxRecDepth 100000 in
theorem T_Mo_where_81 {d : Nat} (hC : ∀ k as σ p, C_Mo_where k as σ = some p → mEx d k as σ p) {l0 l1 l2 l3 l4 l5 s3 s2 s1 s0 : Int} {σ : mS} {b : ((Int × mS) ⊕ ((Int × mS) ⊕ (Int × mS)))} {r : Int × mS} (h : M_Mo_where_81 l0 l1 l2 l3 l4 l5 s3 s2 s1 s0 σ = some b) (hk : (Sum.elim (fun (s : Int × mS) r => mG (d + 1) 144 58 [(3, l0), (1, l1), (1, l2), (1, l3), (1, s.1), (0, 0)] [] s.2 r) (Sum.elim (fun (s : Int × mS) r => mG (d + 1) 144 31 [(3, l0), (1, l1), (1, l2), (1, s.1), (0, 0), (0, 0)] [] s.2 r) (fun b r => r = b))) b r) : mG (d + 1) 144 81 [(3, l0), (1, l1), (1, l2), (1, l3), (1, l4), (1, l5)] [(1, s3), (1, s2), (1, s1), (3, s0)] σ r := by
  refine mblk_ok2 P_Mo_where (F := F_Mo_where_81) (Sum.elim (fun (s : Int × mS) r => mG (d + 1) 144 58 [(3, l0), (1, l1), (1, l2), (1, l3), (1, s.1), (0, 0)] [] s.2 r) (Sum.elim (fun (s : Int × mS) r => mG (d + 1) 144 31 [(3, l0), (1, l1), (1, l2), (1, s.1), (0, 0), (0, 0)] [] s.2 r) (fun b r => r = b))) [([(58, 89)], [0, 1, 2, 3]), ([(31, 91)], [0, 1, 2])] [(81, 89)] [(3, l0), (1, l1), (1, l2), (1, l3), (1, l4), (1, l5)] (by decide +kernel) rfl hC ?_ (fun v σ b r hb hk => by cases hb; exact hk) _ 81 [(3, l0), (1, l1), (1, l2), (1, l3), (1, l4), (1, l5)] [(1, s3), (1, s2), (1, s1), (3, s0)] σ b r rfl (mJ_self _ _ _) ((E_Mo_where_81 l0 l1 l2 l3 l4 l5 s3 s2 s1 s0 σ).trans h) hk
  intro i L st σ b r hj hb hk
  unfold F_Mo_where_81 at hb
  split at hb
  · have key : ∀ (k0 k1 k2 k3 k4 : Int) (k5 : mV) (σ : mS) (b : ((Int × mS) ⊕ ((Int × mS) ⊕ (Int × mS)))) (r : Int × mS), mJ [(3, l0), (1, l1), (1, l2), (1, l3), (1, l4), (1, l5)] 58 [(3, k0), (1, k1), (1, k2), (1, k3), (1, k4), k5] [([(58, 89)], [0, 1, 2, 3]), ([(31, 91)], [0, 1, 2])] → (some (.inl (k4, σ))) = some b → (Sum.elim (fun (s : Int × mS) r => mG (d + 1) 144 58 [(3, l0), (1, l1), (1, l2), (1, l3), (1, s.1), (0, 0)] [] s.2 r) (Sum.elim (fun (s : Int × mS) r => mG (d + 1) 144 31 [(3, l0), (1, l1), (1, l2), (1, s.1), (0, 0), (0, 0)] [] s.2 r) (fun b r => r = b))) b r → mG (d + 1) 144 58 [(3, k0), (1, k1), (1, k2), (1, k3), (1, k4), k5] [] σ r := by
      intro k0 k1 k2 k3 k4 k5 σ b r hj hb hk
      have e0 : k0 = l0 := (Prod.mk.inj (Option.some.inj ((hj.1 rfl).1))).2
      subst e0
      have e1 : k1 = l1 := (Prod.mk.inj (Option.some.inj ((hj.1 rfl).2.1))).2
      subst e1
      have e2 : k2 = l2 := (Prod.mk.inj (Option.some.inj ((hj.1 rfl).2.2.1))).2
      subst e2
      have e3 : k3 = l3 := (Prod.mk.inj (Option.some.inj ((hj.1 rfl).2.2.2.1))).2
      subst e3
      cases hb
      exact mG.lle hk (lle_cons (lle_cons (lle_cons (lle_cons (lle_cons (lle_dead lle_nil))))))
    exact key _ _ _ _ _ _ σ b r hj hb hk
  · cases hb
set_option maxRecDepth 100000 in
theorem T_Mo_where_80 {d : Nat} (hC : ∀ k as σ p, C_Mo_where k as σ = some p → mEx d k as σ p) {l0 l1 l2 l3 l4 l5 s2 s1 s0 : Int} {σ : mS} {b : ((Int × mS) ⊕ ((Int × mS) ⊕ (Int × mS)))} {r : Int × mS} (h : M_Mo_where_80 l0 l1 l2 l3 l4 l5 s2 s1 s0 σ = some b) (hk : (Sum.elim (fun (s : Int × mS) r => mG (d + 1) 144 58 [(3, l0), (1, l1), (1, l2), (1, l3), (1, s.1), (0, 0)] [] s.2 r) (Sum.elim (fun (s : Int × mS) r => mG (d + 1) 144 31 [(3, l0), (1, l1), (1, l2), (1, s.1), (0, 0), (0, 0)] [] s.2 r) (fun b r => r = b))) b r) : mG (d + 1) 144 80 [(3, l0), (1, l1), (1, l2), (1, l3), (1, l4), (1, l5)] [(1, s2), (1, s1), (3, s0)] σ r := by
  refine mblk_ok2 P_Mo_where (F := F_Mo_where_80) (Sum.elim (fun (s : Int × mS) r => mG (d + 1) 144 58 [(3, l0), (1, l1), (1, l2), (1, l3), (1, s.1), (0, 0)] [] s.2 r) (Sum.elim (fun (s : Int × mS) r => mG (d + 1) 144 31 [(3, l0), (1, l1), (1, l2), (1, s.1), (0, 0), (0, 0)] [] s.2 r) (fun b r => r = b))) [([(58, 89)], [0, 1, 2, 3]), ([(31, 91)], [0, 1, 2])] [(80, 80)] [(3, l0), (1, l1), (1, l2), (1, l3), (1, l4), (1, l5)] (by decide +kernel) rfl hC ?_ (fun v σ b r hb hk => by cases hb; exact hk) _ 80 [(3, l0), (1, l1), (1, l2), (1, l3), (1, l4), (1, l5)] [(1, s2), (1, s1), (3, s0)] σ b r rfl (mJ_self _ _ _) ((E_Mo_where_80 l0 l1 l2 l3 l4 l5 s2 s1 s0 σ).trans h) hk
  intro i L st σ b r hj hb hk
  unfold F_Mo_where_80 at hb
  split at hb
  · have key : ∀ (k0 k1 k2 k3 k4 k5 u3 u2 u1 u0 : Int) (σ : mS) (b : ((Int × mS) ⊕ ((Int × mS) ⊕ (Int × mS)))) (r : Int × mS), mJ [(3, l0), (1, l1), (1, l2), (1, l3), (1, l4), (1, l5)] 81 [(3, k0), (1, k1), (1, k2), (1, k3), (1, k4), (1, k5)] [([(58, 89)], [0, 1, 2, 3]), ([(31, 91)], [0, 1, 2])] → (M_Mo_where_81 k0 k1 k2 k3 k4 k5 u3 u2 u1 u0 σ) = some b → (Sum.elim (fun (s : Int × mS) r => mG (d + 1) 144 58 [(3, l0), (1, l1), (1, l2), (1, l3), (1, s.1), (0, 0)] [] s.2 r) (Sum.elim (fun (s : Int × mS) r => mG (d + 1) 144 31 [(3, l0), (1, l1), (1, l2), (1, s.1), (0, 0), (0, 0)] [] s.2 r) (fun b r => r = b))) b r → mG (d + 1) 144 81 [(3, k0), (1, k1), (1, k2), (1, k3), (1, k4), (1, k5)] [(1, u3), (1, u2), (1, u1), (3, u0)] σ r := by
      intro k0 k1 k2 k3 k4 k5 u3 u2 u1 u0 σ b r hj hb hk
      have e0 : k0 = l0 := (Prod.mk.inj (Option.some.inj ((hj.1 rfl).1))).2
      subst e0
      have e1 : k1 = l1 := (Prod.mk.inj (Option.some.inj ((hj.1 rfl).2.1))).2
      subst e1
      have e2 : k2 = l2 := (Prod.mk.inj (Option.some.inj ((hj.1 rfl).2.2.1))).2
      subst e2
      have e3 : k3 = l3 := (Prod.mk.inj (Option.some.inj ((hj.1 rfl).2.2.2.1))).2
      subst e3
      exact (T_Mo_where_81 hC hb hk).lle (lle_cons (lle_cons (lle_cons (lle_cons (lle_cons (lle_cons lle_nil))))))
    exact key _ _ _ _ _ _ _ _ _ _ σ b r hj hb hk
  · cases hb
set_option maxRecDepth 100000 in
theorem TB_Mo_where_58 {d : Nat} (hC : ∀ k as σ p, C_Mo_where k as σ = some p → mEx d k as σ p) {l0 l1 l2 l3 l4 : Int} {σ : mS} {b : ((Int × mS) ⊕ ((Int × mS) ⊕ (Int × mS)))} {r : Int × mS} (h : B_Mo_where_58 l0 l1 l2 l3 l4 σ = some b) (hk : (Sum.elim (fun (s : Int × mS) r => mG (d + 1) 144 58 [(3, l0), (1, l1), (1, l2), (1, l3), (1, s.1), (0, 0)] [] s.2 r) (Sum.elim (fun (s : Int × mS) r => mG (d + 1) 144 31 [(3, l0), (1, l1), (1, l2), (1, s.1), (0, 0), (0, 0)] [] s.2 r) (fun b r => r = b))) b r) : mG (d + 1) 144 58 [(3, l0), (1, l1), (1, l2), (1, l3), (1, l4), (0, 0)] [] σ r := by
  refine mblk_ok2 P_Mo_where (F := F_Mo_where_58) (Sum.elim (fun (s : Int × mS) r => mG (d + 1) 144 58 [(3, l0), (1, l1), (1, l2), (1, l3), (1, s.1), (0, 0)] [] s.2 r) (Sum.elim (fun (s : Int × mS) r => mG (d + 1) 144 31 [(3, l0), (1, l1), (1, l2), (1, s.1), (0, 0), (0, 0)] [] s.2 r) (fun b r => r = b))) [([(58, 89)], [0, 1, 2, 3]), ([(31, 91)], [0, 1, 2])] [(58, 79), (90, 91)] [(3, l0), (1, l1), (1, l2), (1, l3), (1, l4), (0, 0)] (by decide +kernel) rfl hC ?_ (fun v σ b r hb hk => by cases hb; exact hk) _ 58 [(3, l0), (1, l1), (1, l2), (1, l3), (1, l4), (0, 0)] [] σ b r rfl (mJ_self _ _ _) ((E_Mo_where_58 l0 l1 l2 l3 l4 σ).trans h) hk
  intro i L st σ b r hj hb hk
  unfold F_Mo_where_58 at hb
  split at hb
  · have key : ∀ (k0 k1 k2 k3 : Int) (k4 k5 : mV) (σ : mS) (b : ((Int × mS) ⊕ ((Int × mS) ⊕ (Int × mS)))) (r : Int × mS), mJ [(3, l0), (1, l1), (1, l2), (1, l3), (1, l4), (0, 0)] 31 [(3, k0), (1, k1), (1, k2), (1, k3), k4, k5] [([(58, 89)], [0, 1, 2, 3]), ([(31, 91)], [0, 1, 2])] → (some (.inr (.inl (k3, σ)))) = some b → (Sum.elim (fun (s : Int × mS) r => mG (d + 1) 144 58 [(3, l0), (1, l1), (1, l2), (1, l3), (1, s.1), (0, 0)] [] s.2 r) (Sum.elim (fun (s : Int × mS) r => mG (d + 1) 144 31 [(3, l0), (1, l1), (1, l2), (1, s.1), (0, 0), (0, 0)] [] s.2 r) (fun b r => r = b))) b r → mG (d + 1) 144 31 [(3, k0), (1, k1), (1, k2), (1, k3), k4, k5] [] σ r := by
      intro k0 k1 k2 k3 k4 k5 σ b r hj hb hk
      have e0 : k0 = l0 := (Prod.mk.inj (Option.some.inj ((hj.2.1 rfl).1))).2
      subst e0
      have e1 : k1 = l1 := (Prod.mk.inj (Option.some.inj ((hj.2.1 rfl).2.1))).2
      subst e1
      have e2 : k2 = l2 := (Prod.mk.inj (Option.some.inj ((hj.2.1 rfl).2.2.1))).2
      subst e2
      cases hb
      exact mG.lle hk (lle_cons (lle_cons (lle_cons (lle_cons (lle_dead (lle_dead lle_nil))))))
    exact key _ _ _ _ _ _ σ b r hj hb hk
  · have key : ∀ (k0 k1 k2 k3 k4 k5 u2 u1 u0 : Int) (σ : mS) (b : ((Int × mS) ⊕ ((Int × mS) ⊕ (Int × mS)))) (r : Int × mS), mJ [(3, l0), (1, l1), (1, l2), (1, l3), (1, l4), (0, 0)] 80 [(3, k0), (1, k1), (1, k2), (1, k3), (1, k4), (1, k5)] [([(58, 89)], [0, 1, 2, 3]), ([(31, 91)], [0, 1, 2])] → (M_Mo_where_80 k0 k1 k2 k3 k4 k5 u2 u1 u0 σ) = some b → (Sum.elim (fun (s : Int × mS) r => mG (d + 1) 144 58 [(3, l0), (1, l1), (1, l2), (1, l3), (1, s.1), (0, 0)] [] s.2 r) (Sum.elim (fun (s : Int × mS) r => mG (d + 1) 144 31 [(3, l0), (1, l1), (1, l2), (1, s.1), (0, 0), (0, 0)] [] s.2 r) (fun b r => r = b))) b r → mG (d + 1) 144 80 [(3, k0), (1, k1), (1, k2), (1, k3), (1, k4), (1, k5)] [(1, u2), (1, u1), (3, u0)] σ r := by
      intro k0 k1 k2 k3 k4 k5 u2 u1 u0 σ b r hj hb hk
      have e0 : k0 = l0 := (Prod.mk.inj (Option.some.inj ((hj.1 rfl).1))).2
      subst e0
      have e1 : k1 = l1 := (Prod.mk.inj (Option.some.inj ((hj.1 rfl).2.1))).2
      subst e1
      have e2 : k2 = l2 := (Prod.mk.inj (Option.some.inj ((hj.1 rfl).2.2.1))).2
      subst e2
      have e3 : k3 = l3 := (Prod.mk.inj (Option.some.inj ((hj.1 rfl).2.2.2.1))).2
      subst e3
      exact (T_Mo_where_80 hC hb hk).lle (lle_cons (lle_cons (lle_cons (lle_cons (lle_cons (lle_cons lle_nil))))))
    exact key _ _ _ _ _ _ _ _ _ σ b r hj hb hk
  · have key : ∀ (k0 k1 k2 k3 k4 k5 u3 u2 u1 u0 : Int) (σ : mS) (b : ((Int × mS) ⊕ ((Int × mS) ⊕ (Int × mS)))) (r : Int × mS), mJ [(3, l0), (1, l1), (1, l2), (1, l3), (1, l4), (0, 0)] 81 [(3, k0), (1, k1), (1, k2), (1, k3), (1, k4), (1, k5)] [([(58, 89)], [0, 1, 2, 3]), ([(31, 91)], [0, 1, 2])] → (M_Mo_where_81 k0 k1 k2 k3 k4 k5 u3 u2 u1 u0 σ) = some b → (Sum.elim (fun (s : Int × mS) r => mG (d + 1) 144 58 [(3, l0), (1, l1), (1, l2), (1, l3), (1, s.1), (0, 0)] [] s.2 r) (Sum.elim (fun (s : Int × mS) r => mG (d + 1) 144 31 [(3, l0), (1, l1), (1, l2), (1, s.1), (0, 0), (0, 0)] [] s.2 r) (fun b r => r = b))) b r → mG (d + 1) 144 81 [(3, k0), (1, k1), (1, k2), (1, k3), (1, k4), (1, k5)] [(1, u3), (1, u2), (1, u1), (3, u0)] σ r := by
      intro k0 k1 k2 k3 k4 k5 u3 u2 u1 u0 σ b r hj hb hk
      have e0 : k0 = l0 := (Prod.mk.inj (Option.some.inj ((hj.1 rfl).1))).2
      subst e0
      have e1 : k1 = l1 := (Prod.mk.inj (Option.some.inj ((hj.1 rfl).2.1))).2
      subst e1
      have e2 : k2 = l2 := (Prod.mk.inj (Option.some.inj ((hj.1 rfl).2.2.1))).2
      subst e2
      have e3 : k3 = l3 := (Prod.mk.inj (Option.some.inj ((hj.1 rfl).2.2.2.1))).2
      subst e3
      exact (T_Mo_where_81 hC hb hk).lle (lle_cons (lle_cons (lle_cons (lle_cons (lle_cons (lle_cons lle_nil))))))
    exact key _ _ _ _ _ _ _ _ _ _ σ b r hj hb hk
  · cases hb
set_option maxRecDepth 100000 in
theorem T_Mo_where_58 {d : Nat} (hC : ∀ k as σ p, C_Mo_where k as σ = some p → mEx d k as σ p) {l0 l1 l2 l3 l4 : Int} {σ : mS} {b : ((Int × mS) ⊕ (Int × mS))} {r : Int × mS} (h : M_Mo_where_58 l0 l1 l2 l3 l4 σ = some b) (hk : (Sum.elim (fun (s : Int × mS) r => mG (d + 1) 144 31 [(3, l0), (1, l1), (1, l2), (1, s.1), (0, 0), (0, 0)] [] s.2 r) (fun b r => r = b)) b r) : mG (d + 1) 144 58 [(3, l0), (1, l1), (1, l2), (1, l3), (1, l4), (0, 0)] [] σ r :=
  miter_ok (G := fun (s : Int × mS) r => mG (d + 1) 144 58 [(3, l0), (1, l1), (1, l2), (1, l3), (1, s.1), (0, 0)] [] s.2 r) (K := (Sum.elim (fun (s : Int × mS) r => mG (d + 1) 144 31 [(3, l0), (1, l1), (1, l2), (1, s.1), (0, 0), (0, 0)] [] s.2 r) (fun b r => r = b))) (fun s x r hs hx => TB_Mo_where_58 hC hs hx) mN _ b r h hk
set_option maxRecDepth 100000 in
theorem TB_Mo_where_31 {d : Nat} (hC : ∀ k as σ p, C_Mo_where k as σ = some p → mEx d k as σ p) {l0 l1 l2 l3 : Int} {σ : mS} {b : ((Int × mS) ⊕ (Int × mS))} {r : Int × mS} (h : B_Mo_where_31 l0 l1 l2 l3 σ = some b) (hk : (Sum.elim (fun (s : Int × mS) r => mG (d + 1) 144 31 [(3, l0), (1, l1), (1, l2), (1, s.1), (0, 0), (0, 0)] [] s.2 r) (fun b r => r = b)) b r) : mG (d + 1) 144 31 [(3, l0), (1, l1), (1, l2), (1, l3), (0, 0), (0, 0)] [] σ r := by
  refine mblk_ok2 P_Mo_where (F := F_Mo_where_31) (Sum.elim (fun (s : Int × mS) r => mG (d + 1) 144 31 [(3, l0), (1, l1), (1, l2), (1, s.1), (0, 0), (0, 0)] [] s.2 r) (fun b r => r = b)) [([(31, 91)], [0, 1, 2])] [(31, 57), (92, 98)] [(3, l0), (1, l1), (1, l2), (1, l3), (0, 0), (0, 0)] (by decide +kernel) rfl hC ?_ (fun v σ b r hb hk => by cases hb; exact hk) _ 31 [(3, l0), (1, l1), (1, l2), (1, l3), (0, 0), (0, 0)] [] σ b r rfl (mJ_self _ _ _) ((E_Mo_where_31 l0 l1 l2 l3 σ).trans h) hk
  intro i L st σ b r hj hb hk
  unfold F_Mo_where_31 at hb
  split at hb
  · have key : ∀ (k0 k1 k2 k3 k4 : Int) (k5 : mV) (σ : mS) (b : ((Int × mS) ⊕ (Int × mS))) (r : Int × mS), mJ [(3, l0), (1, l1), (1, l2), (1, l3), (0, 0), (0, 0)] 58 [(3, k0), (1, k1), (1, k2), (1, k3), (1, k4), k5] [([(31, 91)], [0, 1, 2])] → (M_Mo_where_58 k0 k1 k2 k3 k4 σ) = some b → (Sum.elim (fun (s : Int × mS) r => mG (d + 1) 144 31 [(3, l0), (1, l1), (1, l2), (1, s.1), (0, 0), (0, 0)] [] s.2 r) (fun b r => r = b)) b r → mG (d + 1) 144 58 [(3, k0), (1, k1), (1, k2), (1, k3), (1, k4), k5] [] σ r := by
      intro k0 k1 k2 k3 k4 k5 σ b r hj hb hk
      have e0 : k0 = l0 := (Prod.mk.inj (Option.some.inj ((hj.1 rfl).1))).2
      subst e0
      have e1 : k1 = l1 := (Prod.mk.inj (Option.some.inj ((hj.1 rfl).2.1))).2
      subst e1
      have e2 : k2 = l2 := (Prod.mk.inj (Option.some.inj ((hj.1 rfl).2.2.1))).2
      subst e2
      exact (T_Mo_where_58 hC hb hk).lle (lle_cons (lle_cons (lle_cons (lle_cons (lle_cons (lle_dead lle_nil))))))
    exact key _ _ _ _ _ _ σ b r hj hb hk
  · have key : ∀ (k0 k2 k3 : Int) (k1 k4 k5 : mV) (σ : mS) (b : ((Int × mS) ⊕ (Int × mS))) (r : Int × mS), mJ [(3, l0), (1, l1), (1, l2), (1, l3), (0, 0), (0, 0)] 99 [(3, k0), k1, (1, k2), (1, k3), k4, k5] [([(31, 91)], [0, 1, 2])] → ((M_Mo_where_99 k0 k2 k3 σ).bind fun z => some (.inr z)) = some b → (Sum.elim (fun (s : Int × mS) r => mG (d + 1) 144 31 [(3, l0), (1, l1), (1, l2), (1, s.1), (0, 0), (0, 0)] [] s.2 r) (fun b r => r = b)) b r → mG (d + 1) 144 99 [(3, k0), k1, (1, k2), (1, k3), k4, k5] [] σ r := by
      intro k0 k2 k3 k1 k4 k5 σ b r hj hb hk
      obtain ⟨z, hz, e⟩ := Option.bind_eq_some_iff.mp hb
      cases e
      exact (T_Mo_where_99 hC hz hk).lle (lle_cons (lle_dead (lle_cons (lle_cons (lle_dead (lle_dead lle_nil))))))
    exact key _ _ _ _ _ _ σ b r hj hb hk
  · cases hb
set_option maxRecDepth 100000 in
theorem T_Mo_where_31 {d : Nat} (hC : ∀ k as σ p, C_Mo_where k as σ = some p → mEx d k as σ p) {l0 l1 l2 l3 : Int} {σ : mS} {b : Int × mS} {r : Int × mS} (h : M_Mo_where_31 l0 l1 l2 l3 σ = some b) (hk : (fun b r => r = b) b r) : mG (d + 1) 144 31 [(3, l0), (1, l1), (1, l2), (1, l3), (0, 0), (0, 0)] [] σ r :=
  miter_ok (G := fun (s : Int × mS) r => mG (d + 1) 144 31 [(3, l0), (1, l1), (1, l2), (1, s.1), (0, 0), (0, 0)] [] s.2 r) (K := (fun b r => r = b)) (fun s x r hs hx => TB_Mo_where_31 hC hs hx) mN _ b r h hk
set_option maxRecDepth 100000 in
theorem TB_Mo_where_14 {d : Nat} (hC : ∀ k as σ p, C_Mo_where k as σ = some p → mEx d k as σ p) {l0 l1 l2 l3 : Int} {σ : mS} {b : ((Int × mS) ⊕ (Int × mS))} {r : Int × mS} (h : B_Mo_where_14 l0 l1 l2 l3 σ = some b) (hk : (Sum.elim (fun (s : Int × mS) r => mG (d + 1) 144 14 [(3, l0), (1, l1), (1, l2), (1, s.1), (0, 0), (0, 0)] [] s.2 r) (fun b r => r = b)) b r) : mG (d + 1) 144 14 [(3, l0), (1, l1), (1, l2), (1, l3), (0, 0), (0, 0)] [] σ r := by
  refine mblk_ok2 P_Mo_where (F := F_Mo_where_14) (Sum.elim (fun (s : Int × mS) r => mG (d + 1) 144 14 [(3, l0), (1, l1), (1, l2), (1, s.1), (0, 0), (0, 0)] [] s.2 r) (fun b r => r = b)) [([(14, 28)], [0, 1, 2])] [(14, 30)] [(3, l0), (1, l1), (1, l2), (1, l3), (0, 0), (0, 0)] (by decide +kernel) rfl hC ?_ (fun v σ b r hb hk => by cases hb; exact hk) _ 14 [(3, l0), (1, l1), (1, l2), (1, l3), (0, 0), (0, 0)] [] σ b r rfl (mJ_self _ _ _) ((E_Mo_where_14 l0 l1 l2 l3 σ).trans h) hk
  intro i L st σ b r hj hb hk
  unfold F_Mo_where_14 at hb
  split at hb
  · have key : ∀ (k0 k1 k2 k3 : Int) (k4 k5 : mV) (σ : mS) (b : ((Int × mS) ⊕ (Int × mS))) (r : Int × mS), mJ [(3, l0), (1, l1), (1, l2), (1, l3), (0, 0), (0, 0)] 14 [(3, k0), (1, k1), (1, k2), (1, k3), k4, k5] [([(14, 28)], [0, 1, 2])] → (some (.inl (k3, σ))) = some b → (Sum.elim (fun (s : Int × mS) r => mG (d + 1) 144 14 [(3, l0), (1, l1), (1, l2), (1, s.1), (0, 0), (0, 0)] [] s.2 r) (fun b r => r = b)) b r → mG (d + 1) 144 14 [(3, k0), (1, k1), (1, k2), (1, k3), k4, k5] [] σ r := by
      intro k0 k1 k2 k3 k4 k5 σ b r hj hb hk
      have e0 : k0 = l0 := (Prod.mk.inj (Option.some.inj ((hj.1 rfl).1))).2
      subst e0
      have e1 : k1 = l1 := (Prod.mk.inj (Option.some.inj ((hj.1 rfl).2.1))).2
      subst e1
      have e2 : k2 = l2 := (Prod.mk.inj (Option.some.inj ((hj.1 rfl).2.2.1))).2
      subst e2
      cases hb
      exact mG.lle hk (lle_cons (lle_cons (lle_cons (lle_cons (lle_dead (lle_dead lle_nil))))))
    exact key _ _ _ _ _ _ σ b r hj hb hk
  · have key : ∀ (k0 k1 k2 k3 : Int) (k4 k5 : mV) (σ : mS) (b : ((Int × mS) ⊕ (Int × mS))) (r : Int × mS), mJ [(3, l0), (1, l1), (1, l2), (1, l3), (0, 0), (0, 0)] 31 [(3, k0), (1, k1), (1, k2), (1, k3), k4, k5] [([(14, 28)], [0, 1, 2])] → ((M_Mo_where_31 k0 k1 k2 k3 σ).bind fun z => some (.inr z)) = some b → (Sum.elim (fun (s : Int × mS) r => mG (d + 1) 144 14 [(3, l0), (1, l1), (1, l2), (1, s.1), (0, 0), (0, 0)] [] s.2 r) (fun b r => r = b)) b r → mG (d + 1) 144 31 [(3, k0), (1, k1), (1, k2), (1, k3), k4, k5] [] σ r := by
      intro k0 k1 k2 k3 k4 k5 σ b r hj hb hk
      obtain ⟨z, hz, e⟩ := Option.bind_eq_some_iff.mp hb
      cases e
      exact (T_Mo_where_31 hC hz hk).lle (lle_cons (lle_cons (lle_cons (lle_cons (lle_dead (lle_dead lle_nil))))))
    exact key _ _ _ _ _ _ σ b r hj hb hk
  · cases hb
set_option maxRecDepth 100000 in
theorem T_Mo_where_14 {d : Nat} (hC : ∀ k as σ p, C_Mo_where k as σ = some p → mEx d k as σ p) {l0 l1 l2 l3 : Int} {σ : mS} {b : Int × mS} {r : Int × mS} (h : M_Mo_where_14 l0 l1 l2 l3 σ = some b) (hk : (fun b r => r = b) b r) : mG (d + 1) 144 14 [(3, l0), (1, l1), (1, l2), (1, l3), (0, 0), (0, 0)] [] σ r :=
  miter_ok (G := fun (s : Int × mS) r => mG (d + 1) 144 14 [(3, l0), (1, l1), (1, l2), (1, s.1), (0, 0), (0, 0)] [] s.2 r) (K := (fun b r => r = b)) (fun s x r hs hx => TB_Mo_where_14 hC hs hx) mN _ b r h hk
set_option maxRecDepth 100000 in
theorem T_Mo_where_0 {d : Nat} (hC : ∀ k as σ p, C_Mo_where k as σ = some p → mEx d k as σ p) {l0 l1 l2 : Int} {σ : mS} {b : Int × mS} {r : Int × mS} (h : M_Mo_where l0 l1 l2 σ = some b) (hk : (fun b r => r = b) b r) : mG (d + 1) 144 0 (mInit 6 [(3, l0), (1, l1), (1, l2)]) [] σ r := by
  refine mblk_ok1 P_Mo_where (F := F_Mo_where_0) (fun b r => r = b) hC ?_ (fun v σ b r hb hk => by cases hb; exact hk) _ 0 (mInit 6 [(3, l0), (1, l1), (1, l2)]) [] σ b r ((E_Mo_where_0 l0 l1 l2 σ).trans h) hk
  intro i L st σ b r hb hk
  unfold F_Mo_where_0 at hb
  split at hb
  · have key : ∀ (k0 k1 k2 k3 : Int) (k4 k5 : mV) (σ : mS) (b : Int × mS) (r : Int × mS), (M_Mo_where_14 k0 k1 k2 k3 σ) = some b → (fun b r => r = b) b r → mG (d + 1) 144 14 [(3, k0), (1, k1), (1, k2), (1, k3), k4, k5] [] σ r := by
      intro k0 k1 k2 k3 k4 k5 σ b r hb hk
      exact (T_Mo_where_14 hC hb hk).lle (lle_cons (lle_cons (lle_cons (lle_cons (lle_dead (lle_dead lle_nil))))))
    exact key _ _ _ _ _ _ σ b r hb hk
  · cases hb
set_option maxRecDepth 100000 in
theorem T_Mo_where {l0 l1 l2 : Int} {σ : mS} {r : Int × mS} (h : M_Mo_where l0 l1 l2 σ = some r) : mEx 126 144 [(3, l0), (1, l1), (1, l2)] σ r :=
  ⟨by rw [P_Mo_where]; exact Nat.le_of_ble_eq_true rfl, by rw [P_Mo_where]; exact T_Mo_where_0 TC_Mo_where h rfl⟩
set_option maxRecDepth 100000 in
theorem P_Mo_sight : mProg 145 = (c_Mo_sight, 5) := rfl
set_option maxRecDepth 100000 in
theorem TC_Mo_sight : ∀ k as σ p, C_Mo_sight k as σ = some p → mEx 2 k as σ p := by
  intro k as σ p hp
  unfold C_Mo_sight at hp
  split at hp
  · exact (T_Mo_lies hp).up (Nat.le_of_ble_eq_true rfl)
  · exact (T_Mo_refuses hp).up (Nat.le_of_ble_eq_true rfl)
  · exact (T_Mo_good hp).up (Nat.le_of_ble_eq_true rfl)
  · exact (T_Mo_isAngle hp).up (Nat.le_of_ble_eq_true rfl)
  · exact (T_Mo_isThing hp).up (Nat.le_of_ble_eq_true rfl)
  · cases hp
set_option maxRecDepth 100000 in
theorem T_Mo_sight_0 {d : Nat} (hC : ∀ k as σ p, C_Mo_sight k as σ = some p → mEx d k as σ p) {l0 l1 l2 l3 : Int} {σ : mS} {b : Int × mS} {r : Int × mS} (h : M_Mo_sight l0 l1 l2 l3 σ = some b) (hk : (fun b r => r = b) b r) : mG (d + 1) 145 0 (mInit 5 [(3, l0), (1, l1), (1, l2), (1, l3)]) [] σ r := by
  refine mblk_ok1 P_Mo_sight (F := F_Mo_sight_0) (fun b r => r = b) hC ?_ (fun v σ b r hb hk => by cases hb; exact hk) _ 0 (mInit 5 [(3, l0), (1, l1), (1, l2), (1, l3)]) [] σ b r ((E_Mo_sight_0 l0 l1 l2 l3 σ).trans h) hk
  intro i L st σ b r hb hk
  cases hb
set_option maxRecDepth 100000 in
theorem T_Mo_sight {l0 l1 l2 l3 : Int} {σ : mS} {r : Int × mS} (h : M_Mo_sight l0 l1 l2 l3 σ = some r) : mEx 3 145 [(3, l0), (1, l1), (1, l2), (1, l3)] σ r :=
  ⟨by rw [P_Mo_sight]; exact Nat.le_of_ble_eq_true rfl, by rw [P_Mo_sight]; exact T_Mo_sight_0 TC_Mo_sight h rfl⟩
set_option maxRecDepth 100000 in
theorem P_Mo_drop : mProg 146 = (c_Mo_drop, 3) := rfl
set_option maxRecDepth 100000 in
theorem TC_Mo_drop : ∀ k as σ p, C_Mo_drop k as σ = some p → mEx 1 k as σ p := by
  intro k as σ p hp
  unfold C_Mo_drop at hp
  split at hp
  · exact (T_Mo_lies hp).up (Nat.le_of_ble_eq_true rfl)
  · exact (T_Mo_refuses hp).up (Nat.le_of_ble_eq_true rfl)
  · exact (T_Mo_good hp).up (Nat.le_of_ble_eq_true rfl)
  · cases hp
set_option maxRecDepth 100000 in
theorem TB_Mo_drop_26 {d : Nat} (hC : ∀ k as σ p, C_Mo_drop k as σ = some p → mEx d k as σ p) {l0 l2 : Int} {σ : mS} {b : ((Int × mS) ⊕ (Int × mS))} {r : Int × mS} (h : B_Mo_drop_26 l0 l2 σ = some b) (hk : (Sum.elim (fun (s : Int × mS) r => mG (d + 1) 146 26 [(3, l0), (0, 0), (1, s.1)] [] s.2 r) (fun b r => r = b)) b r) : mG (d + 1) 146 26 [(3, l0), (0, 0), (1, l2)] [] σ r := by
  refine mblk_ok2 P_Mo_drop (F := F_Mo_drop_26) (Sum.elim (fun (s : Int × mS) r => mG (d + 1) 146 26 [(3, l0), (0, 0), (1, s.1)] [] s.2 r) (fun b r => r = b)) [([(26, 49)], [0])] [(26, 56)] [(3, l0), (0, 0), (1, l2)] (by decide +kernel) rfl hC ?_ (fun v σ b r hb hk => by cases hb; exact hk) _ 26 [(3, l0), (0, 0), (1, l2)] [] σ b r rfl (mJ_self _ _ _) ((E_Mo_drop_26 l0 l2 σ).trans h) hk
  intro i L st σ b r hj hb hk
  unfold F_Mo_drop_26 at hb
  split at hb
  · have key : ∀ (k0 k2 : Int) (k1 : mV) (σ : mS) (b : ((Int × mS) ⊕ (Int × mS))) (r : Int × mS), mJ [(3, l0), (0, 0), (1, l2)] 26 [(3, k0), k1, (1, k2)] [([(26, 49)], [0])] → (some (.inl (k2, σ))) = some b → (Sum.elim (fun (s : Int × mS) r => mG (d + 1) 146 26 [(3, l0), (0, 0), (1, s.1)] [] s.2 r) (fun b r => r = b)) b r → mG (d + 1) 146 26 [(3, k0), k1, (1, k2)] [] σ r := by
      intro k0 k2 k1 σ b r hj hb hk
      have e0 : k0 = l0 := (Prod.mk.inj (Option.some.inj ((hj.1 rfl).1))).2
      subst e0
      cases hb
      exact mG.lle hk (lle_cons (lle_dead (lle_cons lle_nil)))
    exact key _ _ _ σ b r hj hb hk
  · cases hb
set_option maxRecDepth 100000 in
theorem T_Mo_drop_26 {d : Nat} (hC : ∀ k as σ p, C_Mo_drop k as σ = some p → mEx d k as σ p) {l0 l2 : Int} {σ : mS} {b : Int × mS} {r : Int × mS} (h : M_Mo_drop_26 l0 l2 σ = some b) (hk : (fun b r => r = b) b r) : mG (d + 1) 146 26 [(3, l0), (0, 0), (1, l2)] [] σ r :=
  miter_ok (G := fun (s : Int × mS) r => mG (d + 1) 146 26 [(3, l0), (0, 0), (1, s.1)] [] s.2 r) (K := (fun b r => r = b)) (fun s x r hs hx => TB_Mo_drop_26 hC hs hx) mN _ b r h hk
set_option maxRecDepth 100000 in
theorem T_Mo_drop_0 {d : Nat} (hC : ∀ k as σ p, C_Mo_drop k as σ = some p → mEx d k as σ p) {l0 l1 : Int} {σ : mS} {b : Int × mS} {r : Int × mS} (h : M_Mo_drop l0 l1 σ = some b) (hk : (fun b r => r = b) b r) : mG (d + 1) 146 0 (mInit 3 [(3, l0), (1, l1)]) [] σ r := by
  refine mblk_ok1 P_Mo_drop (F := F_Mo_drop_0) (fun b r => r = b) hC ?_ (fun v σ b r hb hk => by cases hb; exact hk) _ 0 (mInit 3 [(3, l0), (1, l1)]) [] σ b r ((E_Mo_drop_0 l0 l1 σ).trans h) hk
  intro i L st σ b r hb hk
  unfold F_Mo_drop_0 at hb
  split at hb
  · have key : ∀ (k0 k2 : Int) (k1 : mV) (σ : mS) (b : Int × mS) (r : Int × mS), (M_Mo_drop_26 k0 k2 σ) = some b → (fun b r => r = b) b r → mG (d + 1) 146 26 [(3, k0), k1, (1, k2)] [] σ r := by
      intro k0 k2 k1 σ b r hb hk
      exact (T_Mo_drop_26 hC hb hk).lle (lle_cons (lle_dead (lle_cons lle_nil)))
    exact key _ _ _ σ b r hb hk
  · cases hb
set_option maxRecDepth 100000 in
theorem T_Mo_drop {l0 l1 : Int} {σ : mS} {r : Int × mS} (h : M_Mo_drop l0 l1 σ = some r) : mEx 2 146 [(3, l0), (1, l1)] σ r :=
  ⟨by rw [P_Mo_drop]; exact Nat.le_of_ble_eq_true rfl, by rw [P_Mo_drop]; exact T_Mo_drop_0 TC_Mo_drop h rfl⟩
set_option maxRecDepth 100000 in
theorem P_Mo_wrongIn : mProg 147 = (c_Mo_wrongIn, 6) := rfl
set_option maxRecDepth 100000 in
theorem TC_Mo_wrongIn : ∀ k as σ p, C_Mo_wrongIn k as σ = some p → mEx 125 k as σ p := by
  intro k as σ p hp
  unfold C_Mo_wrongIn at hp
  split at hp
  · exact (T_Mo_goes hp).up (Nat.le_of_ble_eq_true rfl)
  · cases hp
set_option maxRecDepth 100000 in
theorem T_Mo_wrongIn_45 {d : Nat} (hC : ∀ k as σ p, C_Mo_wrongIn k as σ = some p → mEx d k as σ p) {l0 l1 l2 l3 l4 s0 : Int} {σ : mS} {b : ((Int × Int × mS) ⊕ (Int × mS))} {r : Int × mS} (h : M_Mo_wrongIn_45 l0 l1 l2 l3 l4 s0 σ = some b) (hk : (Sum.elim (fun (s : Int × Int × mS) r => mG (d + 1) 147 4 [(3, l0), (1, l1), (1, s.1), (1, s.2.1), (0, 0), (0, 0)] [] s.2.2 r) (fun b r => r = b)) b r) : mG (d + 1) 147 45 [(3, l0), (1, l1), (1, l2), (1, l3), (1, l4), (0, 0)] [(1, s0)] σ r := by
  refine mblk_ok2 P_Mo_wrongIn (F := F_Mo_wrongIn_45) (Sum.elim (fun (s : Int × Int × mS) r => mG (d + 1) 147 4 [(3, l0), (1, l1), (1, s.1), (1, s.2.1), (0, 0), (0, 0)] [] s.2.2 r) (fun b r => r = b)) [([(4, 78)], [0, 1])] [(45, 78)] [(3, l0), (1, l1), (1, l2), (1, l3), (1, l4), (0, 0)] (by decide +kernel) rfl hC ?_ (fun v σ b r hb hk => by cases hb; exact hk) _ 45 [(3, l0), (1, l1), (1, l2), (1, l3), (1, l4), (0, 0)] [(1, s0)] σ b r rfl (mJ_self _ _ _) ((E_Mo_wrongIn_45 l0 l1 l2 l3 l4 s0 σ).trans h) hk
  intro i L st σ b r hj hb hk
  unfold F_Mo_wrongIn_45 at hb
  split at hb
  · have key : ∀ (k0 k1 k2 k3 : Int) (k4 k5 : mV) (σ : mS) (b : ((Int × Int × mS) ⊕ (Int × mS))) (r : Int × mS), mJ [(3, l0), (1, l1), (1, l2), (1, l3), (1, l4), (0, 0)] 4 [(3, k0), (1, k1), (1, k2), (1, k3), k4, k5] [([(4, 78)], [0, 1])] → (some (.inl (k2, k3, σ))) = some b → (Sum.elim (fun (s : Int × Int × mS) r => mG (d + 1) 147 4 [(3, l0), (1, l1), (1, s.1), (1, s.2.1), (0, 0), (0, 0)] [] s.2.2 r) (fun b r => r = b)) b r → mG (d + 1) 147 4 [(3, k0), (1, k1), (1, k2), (1, k3), k4, k5] [] σ r := by
      intro k0 k1 k2 k3 k4 k5 σ b r hj hb hk
      have e0 : k0 = l0 := (Prod.mk.inj (Option.some.inj ((hj.1 rfl).1))).2
      subst e0
      have e1 : k1 = l1 := (Prod.mk.inj (Option.some.inj ((hj.1 rfl).2.1))).2
      subst e1
      cases hb
      exact mG.lle hk (lle_cons (lle_cons (lle_cons (lle_cons (lle_dead (lle_dead lle_nil))))))
    exact key _ _ _ _ _ _ σ b r hj hb hk
  · cases hb
set_option maxRecDepth 100000 in
theorem TB_Mo_wrongIn_4 {d : Nat} (hC : ∀ k as σ p, C_Mo_wrongIn k as σ = some p → mEx d k as σ p) {l0 l1 l2 l3 : Int} {σ : mS} {b : ((Int × Int × mS) ⊕ (Int × mS))} {r : Int × mS} (h : B_Mo_wrongIn_4 l0 l1 l2 l3 σ = some b) (hk : (Sum.elim (fun (s : Int × Int × mS) r => mG (d + 1) 147 4 [(3, l0), (1, l1), (1, s.1), (1, s.2.1), (0, 0), (0, 0)] [] s.2.2 r) (fun b r => r = b)) b r) : mG (d + 1) 147 4 [(3, l0), (1, l1), (1, l2), (1, l3), (0, 0), (0, 0)] [] σ r := by
  refine mblk_ok2 P_Mo_wrongIn (F := F_Mo_wrongIn_4) (Sum.elim (fun (s : Int × Int × mS) r => mG (d + 1) 147 4 [(3, l0), (1, l1), (1, s.1), (1, s.2.1), (0, 0), (0, 0)] [] s.2.2 r) (fun b r => r = b)) [([(4, 78)], [0, 1])] [(4, 44), (79, 80)] [(3, l0), (1, l1), (1, l2), (1, l3), (0, 0), (0, 0)] (by decide +kernel) rfl hC ?_ (fun v σ b r hb hk => by cases hb; exact hk) _ 4 [(3, l0), (1, l1), (1, l2), (1, l3), (0, 0), (0, 0)] [] σ b r rfl (mJ_self _ _ _) ((E_Mo_wrongIn_4 l0 l1 l2 l3 σ).trans h) hk
  intro i L st σ b r hj hb hk
  unfold F_Mo_wrongIn_4 at hb
  split at hb
  · have key : ∀ (k0 k1 k2 k3 k4 u0 : Int) (k5 : mV) (σ : mS) (b : ((Int × Int × mS) ⊕ (Int × mS))) (r : Int × mS), mJ [(3, l0), (1, l1), (1, l2), (1, l3), (0, 0), (0, 0)] 45 [(3, k0), (1, k1), (1, k2), (1, k3), (1, k4), k5] [([(4, 78)], [0, 1])] → (M_Mo_wrongIn_45 k0 k1 k2 k3 k4 u0 σ) = some b → (Sum.elim (fun (s : Int × Int × mS) r => mG (d + 1) 147 4 [(3, l0), (1, l1), (1, s.1), (1, s.2.1), (0, 0), (0, 0)] [] s.2.2 r) (fun b r => r = b)) b r → mG (d + 1) 147 45 [(3, k0), (1, k1), (1, k2), (1, k3), (1, k4), k5] [(1, u0)] σ r := by
      intro k0 k1 k2 k3 k4 u0 k5 σ b r hj hb hk
      have e0 : k0 = l0 := (Prod.mk.inj (Option.some.inj ((hj.1 rfl).1))).2
      subst e0
      have e1 : k1 = l1 := (Prod.mk.inj (Option.some.inj ((hj.1 rfl).2.1))).2
      subst e1
      exact (T_Mo_wrongIn_45 hC hb hk).lle (lle_cons (lle_cons (lle_cons (lle_cons (lle_cons (lle_dead lle_nil))))))
    exact key _ _ _ _ _ _ _ σ b r hj hb hk
  · cases hb
set_option maxRecDepth 100000 in
theorem T_Mo_wrongIn_4 {d : Nat} (hC : ∀ k as σ p, C_Mo_wrongIn k as σ = some p → mEx d k as σ p) {l0 l1 l2 l3 : Int} {σ : mS} {b : Int × mS} {r : Int × mS} (h : M_Mo_wrongIn_4 l0 l1 l2 l3 σ = some b) (hk : (fun b r => r = b) b r) : mG (d + 1) 147 4 [(3, l0), (1, l1), (1, l2), (1, l3), (0, 0), (0, 0)] [] σ r :=
  miter_ok (G := fun (s : Int × Int × mS) r => mG (d + 1) 147 4 [(3, l0), (1, l1), (1, s.1), (1, s.2.1), (0, 0), (0, 0)] [] s.2.2 r) (K := (fun b r => r = b)) (fun s x r hs hx => TB_Mo_wrongIn_4 hC hs hx) mN _ b r h hk
set_option maxRecDepth 100000 in
theorem T_Mo_wrongIn_0 {d : Nat} (hC : ∀ k as σ p, C_Mo_wrongIn k as σ = some p → mEx d k as σ p) {l0 l1 : Int} {σ : mS} {b : Int × mS} {r : Int × mS} (h : M_Mo_wrongIn l0 l1 σ = some b) (hk : (fun b r => r = b) b r) : mG (d + 1) 147 0 (mInit 6 [(3, l0), (1, l1)]) [] σ r := by
  refine mblk_ok1 P_Mo_wrongIn (F := F_Mo_wrongIn_0) (fun b r => r = b) hC ?_ (fun v σ b r hb hk => by cases hb; exact hk) _ 0 (mInit 6 [(3, l0), (1, l1)]) [] σ b r ((E_Mo_wrongIn_0 l0 l1 σ).trans h) hk
  intro i L st σ b r hb hk
  unfold F_Mo_wrongIn_0 at hb
  split at hb
  · have key : ∀ (k0 k1 k2 k3 : Int) (k4 k5 : mV) (σ : mS) (b : Int × mS) (r : Int × mS), (M_Mo_wrongIn_4 k0 k1 k2 k3 σ) = some b → (fun b r => r = b) b r → mG (d + 1) 147 4 [(3, k0), (1, k1), (1, k2), (1, k3), k4, k5] [] σ r := by
      intro k0 k1 k2 k3 k4 k5 σ b r hb hk
      exact (T_Mo_wrongIn_4 hC hb hk).lle (lle_cons (lle_cons (lle_cons (lle_cons (lle_dead (lle_dead lle_nil))))))
    exact key _ _ _ _ _ _ σ b r hb hk
  · cases hb
set_option maxRecDepth 100000 in
theorem T_Mo_wrongIn {l0 l1 : Int} {σ : mS} {r : Int × mS} (h : M_Mo_wrongIn l0 l1 σ = some r) : mEx 126 147 [(3, l0), (1, l1)] σ r :=
  ⟨by rw [P_Mo_wrongIn]; exact Nat.le_of_ble_eq_true rfl, by rw [P_Mo_wrongIn]; exact T_Mo_wrongIn_0 TC_Mo_wrongIn h rfl⟩
