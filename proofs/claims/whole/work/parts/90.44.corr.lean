/-! the functions beside the machine: written by gen/corr.py -/
set_option maxRecDepth 100000 in
theorem P_Mo_riseOf : mProg 65 = (c_Mo_riseOf, 2) := rfl
set_option maxRecDepth 100000 in
theorem TC_Mo_riseOf : ∀ k as σ p, C_Mo_riseOf k as σ = some p → mEx 0 k as σ p := by
  intro k as σ p hp
  cases hp
set_option maxRecDepth 100000 in
theorem T_Mo_riseOf_0 {d : Nat} (hC : ∀ k as σ p, C_Mo_riseOf k as σ = some p → mEx d k as σ p) {l0 l1 : Int} {σ : mS} {b : Int × mS} {r : Int × mS} (h : M_Mo_riseOf l0 l1 σ = some b) (hk : (fun b r => r = b) b r) : mG (d + 1) 65 0 (mInit 2 [(3, l0), (1, l1)]) [] σ r := by
  refine mblk_ok1 P_Mo_riseOf (F := F_Mo_riseOf_0) (fun b r => r = b) hC ?_ (fun v σ b r hb hk => by cases hb; exact hk) _ 0 (mInit 2 [(3, l0), (1, l1)]) [] σ b r ((E_Mo_riseOf_0 l0 l1 σ).trans h) hk
  intro i L st σ b r hb hk
  cases hb
set_option maxRecDepth 100000 in
theorem T_Mo_riseOf {l0 l1 : Int} {σ : mS} {r : Int × mS} (h : M_Mo_riseOf l0 l1 σ = some r) : mEx 1 65 [(3, l0), (1, l1)] σ r :=
  ⟨by rw [P_Mo_riseOf]; exact Nat.le_of_ble_eq_true rfl, by rw [P_Mo_riseOf]; exact T_Mo_riseOf_0 TC_Mo_riseOf h rfl⟩
set_option maxRecDepth 100000 in
theorem P_Mo_thingAt : mProg 66 = (c_Mo_thingAt, 3) := rfl
set_option maxRecDepth 100000 in
theorem TC_Mo_thingAt : ∀ k as σ p, C_Mo_thingAt k as σ = some p → mEx 0 k as σ p := by
  intro k as σ p hp
  cases hp
set_option maxRecDepth 100000 in
theorem TB_Mo_thingAt_2 {d : Nat} (hC : ∀ k as σ p, C_Mo_thingAt k as σ = some p → mEx d k as σ p) {l0 l1 l2 : Int} {σ : mS} {b : ((Int × mS) ⊕ (Int × mS))} {r : Int × mS} (h : B_Mo_thingAt_2 l0 l1 l2 σ = some b) (hk : (Sum.elim (fun (s : Int × mS) r => mG (d + 1) 66 2 [(3, l0), (1, l1), (1, s.1)] [] s.2 r) (fun b r => r = b)) b r) : mG (d + 1) 66 2 [(3, l0), (1, l1), (1, l2)] [] σ r := by
  refine mblk_ok2 P_Mo_thingAt (F := F_Mo_thingAt_2) (Sum.elim (fun (s : Int × mS) r => mG (d + 1) 66 2 [(3, l0), (1, l1), (1, s.1)] [] s.2 r) (fun b r => r = b)) [([(2, 15), (18, 19)], [0, 1])] [(2, 21)] [(3, l0), (1, l1), (1, l2)] (by decide +kernel) rfl hC ?_ (fun v σ b r hb hk => by cases hb; exact hk) _ 2 [(3, l0), (1, l1), (1, l2)] [] σ b r rfl (mJ_self _ _ _) ((E_Mo_thingAt_2 l0 l1 l2 σ).trans h) hk
  intro i L st σ b r hj hb hk
  unfold F_Mo_thingAt_2 at hb
  split at hb
  · have key : ∀ (k0 k1 k2 : Int) (σ : mS) (b : ((Int × mS) ⊕ (Int × mS))) (r : Int × mS), mJ [(3, l0), (1, l1), (1, l2)] 2 [(3, k0), (1, k1), (1, k2)] [([(2, 15), (18, 19)], [0, 1])] → (some (.inl (k2, σ))) = some b → (Sum.elim (fun (s : Int × mS) r => mG (d + 1) 66 2 [(3, l0), (1, l1), (1, s.1)] [] s.2 r) (fun b r => r = b)) b r → mG (d + 1) 66 2 [(3, k0), (1, k1), (1, k2)] [] σ r := by
      intro k0 k1 k2 σ b r hj hb hk
      have e0 : k0 = l0 := (Prod.mk.inj (Option.some.inj ((hj.1 rfl).1))).2
      subst e0
      have e1 : k1 = l1 := (Prod.mk.inj (Option.some.inj ((hj.1 rfl).2.1))).2
      subst e1
      cases hb
      exact mG.lle hk (lle_cons (lle_cons (lle_cons lle_nil)))
    exact key _ _ _ σ b r hj hb hk
  · cases hb
set_option maxRecDepth 100000 in
theorem T_Mo_thingAt_2 {d : Nat} (hC : ∀ k as σ p, C_Mo_thingAt k as σ = some p → mEx d k as σ p) {l0 l1 l2 : Int} {σ : mS} {b : Int × mS} {r : Int × mS} (h : M_Mo_thingAt_2 l0 l1 l2 σ = some b) (hk : (fun b r => r = b) b r) : mG (d + 1) 66 2 [(3, l0), (1, l1), (1, l2)] [] σ r :=
  miter_ok (G := fun (s : Int × mS) r => mG (d + 1) 66 2 [(3, l0), (1, l1), (1, s.1)] [] s.2 r) (K := (fun b r => r = b)) (fun s x r hs hx => TB_Mo_thingAt_2 hC hs hx) mN _ b r h hk
set_option maxRecDepth 100000 in
theorem T_Mo_thingAt_0 {d : Nat} (hC : ∀ k as σ p, C_Mo_thingAt k as σ = some p → mEx d k as σ p) {l0 l1 : Int} {σ : mS} {b : Int × mS} {r : Int × mS} (h : M_Mo_thingAt l0 l1 σ = some b) (hk : (fun b r => r = b) b r) : mG (d + 1) 66 0 (mInit 3 [(3, l0), (1, l1)]) [] σ r := by
  refine mblk_ok1 P_Mo_thingAt (F := F_Mo_thingAt_0) (fun b r => r = b) hC ?_ (fun v σ b r hb hk => by cases hb; exact hk) _ 0 (mInit 3 [(3, l0), (1, l1)]) [] σ b r ((E_Mo_thingAt_0 l0 l1 σ).trans h) hk
  intro i L st σ b r hb hk
  unfold F_Mo_thingAt_0 at hb
  split at hb
  · have key : ∀ (k0 k1 k2 : Int) (σ : mS) (b : Int × mS) (r : Int × mS), (M_Mo_thingAt_2 k0 k1 k2 σ) = some b → (fun b r => r = b) b r → mG (d + 1) 66 2 [(3, k0), (1, k1), (1, k2)] [] σ r := by
      intro k0 k1 k2 σ b r hb hk
      exact (T_Mo_thingAt_2 hC hb hk).lle (lle_cons (lle_cons (lle_cons lle_nil)))
    exact key _ _ _ σ b r hb hk
  · cases hb
set_option maxRecDepth 100000 in
theorem T_Mo_thingAt {l0 l1 : Int} {σ : mS} {r : Int × mS} (h : M_Mo_thingAt l0 l1 σ = some r) : mEx 1 66 [(3, l0), (1, l1)] σ r :=
  ⟨by rw [P_Mo_thingAt]; exact Nat.le_of_ble_eq_true rfl, by rw [P_Mo_thingAt]; exact T_Mo_thingAt_0 TC_Mo_thingAt h rfl⟩
set_option maxRecDepth 100000 in
theorem P_Mo_rise : mProg 67 = (c_Mo_rise, 4) := rfl
set_option maxRecDepth 100000 in
theorem TC_Mo_rise : ∀ k as σ p, C_Mo_rise k as σ = some p → mEx 2 k as σ p := by
  intro k as σ p hp
  unfold C_Mo_rise at hp
  split at hp
  · exact (T_Mo_refuses hp).up (Nat.le_of_ble_eq_true rfl)
  · exact (T_Mo_good hp).up (Nat.le_of_ble_eq_true rfl)
  · exact (T_Mo_isPlace hp).up (Nat.le_of_ble_eq_true rfl)
  · exact (T_Mo_isInch hp).up (Nat.le_of_ble_eq_true rfl)
  · exact (T_Mo_riseOf hp).up (Nat.le_of_ble_eq_true rfl)
  · cases hp
set_option maxRecDepth 100000 in
theorem T_Mo_rise_0 {d : Nat} (hC : ∀ k as σ p, C_Mo_rise k as σ = some p → mEx d k as σ p) {l0 l1 l2 : Int} {σ : mS} {b : Int × mS} {r : Int × mS} (h : M_Mo_rise l0 l1 l2 σ = some b) (hk : (fun b r => r = b) b r) : mG (d + 1) 67 0 (mInit 4 [(3, l0), (1, l1), (1, l2)]) [] σ r := by
  refine mblk_ok1 P_Mo_rise (F := F_Mo_rise_0) (fun b r => r = b) hC ?_ (fun v σ b r hb hk => by cases hb; exact hk) _ 0 (mInit 4 [(3, l0), (1, l1), (1, l2)]) [] σ b r ((E_Mo_rise_0 l0 l1 l2 σ).trans h) hk
  intro i L st σ b r hb hk
  cases hb
set_option maxRecDepth 100000 in
theorem T_Mo_rise {l0 l1 l2 : Int} {σ : mS} {r : Int × mS} (h : M_Mo_rise l0 l1 l2 σ = some r) : mEx 3 67 [(3, l0), (1, l1), (1, l2)] σ r :=
  ⟨by rw [P_Mo_rise]; exact Nat.le_of_ble_eq_true rfl, by rw [P_Mo_rise]; exact T_Mo_rise_0 TC_Mo_rise h rfl⟩
set_option maxRecDepth 100000 in
theorem P_Mo_ground : mProg 68 = (c_Mo_ground, 6) := rfl
set_option maxRecDepth 100000 in
theorem TC_Mo_ground : ∀ k as σ p, C_Mo_ground k as σ = some p → mEx 2 k as σ p := by
  intro k as σ p hp
  unfold C_Mo_ground at hp
  split at hp
  · exact (T_Mo_lies hp).up (Nat.le_of_ble_eq_true rfl)
  · exact (T_Mo_refuses hp).up (Nat.le_of_ble_eq_true rfl)
  · exact (T_Mo_good hp).up (Nat.le_of_ble_eq_true rfl)
  · exact (T_Mo_isPlace hp).up (Nat.le_of_ble_eq_true rfl)
  · cases hp
set_option maxRecDepth 100000 in
theorem T_Mo_ground_36 {d : Nat} (hC : ∀ k as σ p, C_Mo_ground k as σ = some p → mEx d k as σ p) {l0 l2 l3 l5 s1 s0 : Int} {σ : mS} {b : ((Int × Int × mS) ⊕ (Int × mS))} {r : Int × mS} (h : M_Mo_ground_36 l0 l2 l3 l5 s1 s0 σ = some b) (hk : (Sum.elim (fun (s : Int × Int × mS) r => mG (d + 1) 68 21 [(3, l0), (0, 0), (1, l2), (1, l3), (1, s.1), (1, s.2.1)] [] s.2.2 r) (fun b r => r = b)) b r) : mG (d + 1) 68 36 [(3, l0), (0, 0), (1, l2), (1, l3), (0, 0), (1, l5)] [(1, s1), (1, s0)] σ r := by
  refine mblk_ok2 P_Mo_ground (F := F_Mo_ground_36) (Sum.elim (fun (s : Int × Int × mS) r => mG (d + 1) 68 21 [(3, l0), (0, 0), (1, l2), (1, l3), (1, s.1), (1, s.2.1)] [] s.2.2 r) (fun b r => r = b)) [([(21, 46)], [0, 2, 3])] [(36, 46)] [(3, l0), (0, 0), (1, l2), (1, l3), (0, 0), (1, l5)] (by decide +kernel) rfl hC ?_ (fun v σ b r hb hk => by cases hb; exact hk) _ 36 [(3, l0), (0, 0), (1, l2), (1, l3), (0, 0), (1, l5)] [(1, s1), (1, s0)] σ b r rfl (mJ_self _ _ _) ((E_Mo_ground_36 l0 l2 l3 l5 s1 s0 σ).trans h) hk
  intro i L st σ b r hj hb hk
  unfold F_Mo_ground_36 at hb
  split at hb
  · have key : ∀ (k0 k2 k3 k4 k5 : Int) (k1 : mV) (σ : mS) (b : ((Int × Int × mS) ⊕ (Int × mS))) (r : Int × mS), mJ [(3, l0), (0, 0), (1, l2), (1, l3), (0, 0), (1, l5)] 21 [(3, k0), k1, (1, k2), (1, k3), (1, k4), (1, k5)] [([(21, 46)], [0, 2, 3])] → (some (.inl (k4, k5, σ))) = some b → (Sum.elim (fun (s : Int × Int × mS) r => mG (d + 1) 68 21 [(3, l0), (0, 0), (1, l2), (1, l3), (1, s.1), (1, s.2.1)] [] s.2.2 r) (fun b r => r = b)) b r → mG (d + 1) 68 21 [(3, k0), k1, (1, k2), (1, k3), (1, k4), (1, k5)] [] σ r := by
      intro k0 k2 k3 k4 k5 k1 σ b r hj hb hk
      have e0 : k0 = l0 := (Prod.mk.inj (Option.some.inj ((hj.1 rfl).1))).2
      subst e0
      have e2 : k2 = l2 := (Prod.mk.inj (Option.some.inj ((hj.1 rfl).2.1))).2
      subst e2
      have e3 : k3 = l3 := (Prod.mk.inj (Option.some.inj ((hj.1 rfl).2.2.1))).2
      subst e3
      cases hb
      exact mG.lle hk (lle_cons (lle_dead (lle_cons (lle_cons (lle_cons (lle_cons lle_nil))))))
    exact key _ _ _ _ _ _ σ b r hj hb hk
  · cases hb
set_option maxRecDepth 100000 in
theorem TB_Mo_ground_21 {d : Nat} (hC : ∀ k as σ p, C_Mo_ground k as σ = some p → mEx d k as σ p) {l0 l2 l3 l4 l5 : Int} {σ : mS} {b : ((Int × Int × mS) ⊕ (Int × mS))} {r : Int × mS} (h : B_Mo_ground_21 l0 l2 l3 l4 l5 σ = some b) (hk : (Sum.elim (fun (s : Int × Int × mS) r => mG (d + 1) 68 21 [(3, l0), (0, 0), (1, l2), (1, l3), (1, s.1), (1, s.2.1)] [] s.2.2 r) (fun b r => r = b)) b r) : mG (d + 1) 68 21 [(3, l0), (0, 0), (1, l2), (1, l3), (1, l4), (1, l5)] [] σ r := by
  refine mblk_ok2 P_Mo_ground (F := F_Mo_ground_21) (Sum.elim (fun (s : Int × Int × mS) r => mG (d + 1) 68 21 [(3, l0), (0, 0), (1, l2), (1, l3), (1, s.1), (1, s.2.1)] [] s.2.2 r) (fun b r => r = b)) [([(21, 46)], [0, 2, 3])] [(21, 35), (47, 50)] [(3, l0), (0, 0), (1, l2), (1, l3), (1, l4), (1, l5)] (by decide +kernel) rfl hC ?_ (fun v σ b r hb hk => by cases hb; exact hk) _ 21 [(3, l0), (0, 0), (1, l2), (1, l3), (1, l4), (1, l5)] [] σ b r rfl (mJ_self _ _ _) ((E_Mo_ground_21 l0 l2 l3 l4 l5 σ).trans h) hk
  intro i L st σ b r hj hb hk
  unfold F_Mo_ground_21 at hb
  split at hb
  · have key : ∀ (k0 k2 k3 k5 u1 u0 : Int) (k1 k4 : mV) (σ : mS) (b : ((Int × Int × mS) ⊕ (Int × mS))) (r : Int × mS), mJ [(3, l0), (0, 0), (1, l2), (1, l3), (1, l4), (1, l5)] 36 [(3, k0), k1, (1, k2), (1, k3), k4, (1, k5)] [([(21, 46)], [0, 2, 3])] → (M_Mo_ground_36 k0 k2 k3 k5 u1 u0 σ) = some b → (Sum.elim (fun (s : Int × Int × mS) r => mG (d + 1) 68 21 [(3, l0), (0, 0), (1, l2), (1, l3), (1, s.1), (1, s.2.1)] [] s.2.2 r) (fun b r => r = b)) b r → mG (d + 1) 68 36 [(3, k0), k1, (1, k2), (1, k3), k4, (1, k5)] [(1, u1), (1, u0)] σ r := by
      intro k0 k2 k3 k5 u1 u0 k1 k4 σ b r hj hb hk
      have e0 : k0 = l0 := (Prod.mk.inj (Option.some.inj ((hj.1 rfl).1))).2
      subst e0
      have e2 : k2 = l2 := (Prod.mk.inj (Option.some.inj ((hj.1 rfl).2.1))).2
      subst e2
      have e3 : k3 = l3 := (Prod.mk.inj (Option.some.inj ((hj.1 rfl).2.2.1))).2
      subst e3
      exact (T_Mo_ground_36 hC hb hk).lle (lle_cons (lle_dead (lle_cons (lle_cons (lle_dead (lle_cons lle_nil))))))
    exact key _ _ _ _ _ _ _ _ σ b r hj hb hk
  · cases hb
set_option maxRecDepth 100000 in
theorem T_Mo_ground_21 {d : Nat} (hC : ∀ k as σ p, C_Mo_ground k as σ = some p → mEx d k as σ p) {l0 l2 l3 l4 l5 : Int} {σ : mS} {b : Int × mS} {r : Int × mS} (h : M_Mo_ground_21 l0 l2 l3 l4 l5 σ = some b) (hk : (fun b r => r = b) b r) : mG (d + 1) 68 21 [(3, l0), (0, 0), (1, l2), (1, l3), (1, l4), (1, l5)] [] σ r :=
  miter_ok (G := fun (s : Int × Int × mS) r => mG (d + 1) 68 21 [(3, l0), (0, 0), (1, l2), (1, l3), (1, s.1), (1, s.2.1)] [] s.2.2 r) (K := (fun b r => r = b)) (fun s x r hs hx => TB_Mo_ground_21 hC hs hx) mN _ b r h hk
set_option maxRecDepth 100000 in
theorem T_Mo_ground_0 {d : Nat} (hC : ∀ k as σ p, C_Mo_ground k as σ = some p → mEx d k as σ p) {l0 l1 l2 l3 : Int} {σ : mS} {b : Int × mS} {r : Int × mS} (h : M_Mo_ground l0 l1 l2 l3 σ = some b) (hk : (fun b r => r = b) b r) : mG (d + 1) 68 0 (mInit 6 [(3, l0), (1, l1), (1, l2), (1, l3)]) [] σ r := by
  refine mblk_ok1 P_Mo_ground (F := F_Mo_ground_0) (fun b r => r = b) hC ?_ (fun v σ b r hb hk => by cases hb; exact hk) _ 0 (mInit 6 [(3, l0), (1, l1), (1, l2), (1, l3)]) [] σ b r ((E_Mo_ground_0 l0 l1 l2 l3 σ).trans h) hk
  intro i L st σ b r hb hk
  unfold F_Mo_ground_0 at hb
  split at hb
  · have key : ∀ (k0 k2 k3 k4 k5 : Int) (k1 : mV) (σ : mS) (b : Int × mS) (r : Int × mS), (M_Mo_ground_21 k0 k2 k3 k4 k5 σ) = some b → (fun b r => r = b) b r → mG (d + 1) 68 21 [(3, k0), k1, (1, k2), (1, k3), (1, k4), (1, k5)] [] σ r := by
      intro k0 k2 k3 k4 k5 k1 σ b r hb hk
      exact (T_Mo_ground_21 hC hb hk).lle (lle_cons (lle_dead (lle_cons (lle_cons (lle_cons (lle_cons lle_nil))))))
    exact key _ _ _ _ _ _ σ b r hb hk
  · cases hb
set_option maxRecDepth 100000 in
theorem T_Mo_ground {l0 l1 l2 l3 : Int} {σ : mS} {r : Int × mS} (h : M_Mo_ground l0 l1 l2 l3 σ = some r) : mEx 3 68 [(3, l0), (1, l1), (1, l2), (1, l3)] σ r :=
  ⟨by rw [P_Mo_ground]; exact Nat.le_of_ble_eq_true rfl, by rw [P_Mo_ground]; exact T_Mo_ground_0 TC_Mo_ground h rfl⟩
set_option maxRecDepth 100000 in
theorem P_Mo_thing : mProg 69 = (c_Mo_thing, 4) := rfl
set_option maxRecDepth 100000 in
theorem TC_Mo_thing : ∀ k as σ p, C_Mo_thing k as σ = some p → mEx 2 k as σ p := by
  intro k as σ p hp
  unfold C_Mo_thing at hp
  split at hp
  · exact (T_Mo_lies hp).up (Nat.le_of_ble_eq_true rfl)
  · exact (T_Mo_refuses hp).up (Nat.le_of_ble_eq_true rfl)
  · exact (T_Mo_good hp).up (Nat.le_of_ble_eq_true rfl)
  · exact (T_Mo_isPlace hp).up (Nat.le_of_ble_eq_true rfl)
  · exact (T_Mo_thingAt hp).up (Nat.le_of_ble_eq_true rfl)
  · cases hp
set_option maxRecDepth 100000 in
theorem T_Mo_thing_0 {d : Nat} (hC : ∀ k as σ p, C_Mo_thing k as σ = some p → mEx d k as σ p) {l0 l1 l2 : Int} {σ : mS} {b : Int × mS} {r : Int × mS} (h : M_Mo_thing l0 l1 l2 σ = some b) (hk : (fun b r => r = b) b r) : mG (d + 1) 69 0 (mInit 4 [(3, l0), (1, l1), (1, l2)]) [] σ r := by
  refine mblk_ok1 P_Mo_thing (F := F_Mo_thing_0) (fun b r => r = b) hC ?_ (fun v σ b r hb hk => by cases hb; exact hk) _ 0 (mInit 4 [(3, l0), (1, l1), (1, l2)]) [] σ b r ((E_Mo_thing_0 l0 l1 l2 σ).trans h) hk
  intro i L st σ b r hb hk
  cases hb
set_option maxRecDepth 100000 in
theorem T_Mo_thing {l0 l1 l2 : Int} {σ : mS} {r : Int × mS} (h : M_Mo_thing l0 l1 l2 σ = some r) : mEx 3 69 [(3, l0), (1, l1), (1, l2)] σ r :=
  ⟨by rw [P_Mo_thing]; exact Nat.le_of_ble_eq_true rfl, by rw [P_Mo_thing]; exact T_Mo_thing_0 TC_Mo_thing h rfl⟩
set_option maxRecDepth 100000 in
theorem P_Mo_move : mProg 70 = (c_Mo_move, 4) := rfl
set_option maxRecDepth 100000 in
theorem TC_Mo_move : ∀ k as σ p, C_Mo_move k as σ = some p → mEx 2 k as σ p := by
  intro k as σ p hp
  unfold C_Mo_move at hp
  split at hp
  · exact (T_Mo_refuses hp).up (Nat.le_of_ble_eq_true rfl)
  · exact (T_Mo_good hp).up (Nat.le_of_ble_eq_true rfl)
  · exact (T_Mo_isPlace hp).up (Nat.le_of_ble_eq_true rfl)
  · exact (T_Mo_isThing hp).up (Nat.le_of_ble_eq_true rfl)
  · exact (T_Mo_thingAt hp).up (Nat.le_of_ble_eq_true rfl)
  · cases hp
set_option maxRecDepth 100000 in
theorem T_Mo_move_29 {d : Nat} (hC : ∀ k as σ p, C_Mo_move k as σ = some p → mEx d k as σ p) {l0 l1 l2 : Int} {σ : mS} {b : Int × mS} {r : Int × mS} (h : M_Mo_move_29 l0 l1 l2 σ = some b) (hk : (fun b r => r = b) b r) : mG (d + 1) 70 29 [(3, l0), (1, l1), (1, l2), (0, 0)] [] σ r := by
  refine mblk_ok1 P_Mo_move (F := F_Mo_move_29) (fun b r => r = b) hC ?_ (fun v σ b r hb hk => by cases hb; exact hk) _ 29 [(3, l0), (1, l1), (1, l2), (0, 0)] [] σ b r ((E_Mo_move_29 l0 l1 l2 σ).trans h) hk
  intro i L st σ b r hb hk
  cases hb
set_option maxRecDepth 100000 in
theorem T_Mo_move_0 {d : Nat} (hC : ∀ k as σ p, C_Mo_move k as σ = some p → mEx d k as σ p) {l0 l1 l2 : Int} {σ : mS} {b : Int × mS} {r : Int × mS} (h : M_Mo_move l0 l1 l2 σ = some b) (hk : (fun b r => r = b) b r) : mG (d + 1) 70 0 (mInit 4 [(3, l0), (1, l1), (1, l2)]) [] σ r := by
  refine mblk_ok1 P_Mo_move (F := F_Mo_move_0) (fun b r => r = b) hC ?_ (fun v σ b r hb hk => by cases hb; exact hk) _ 0 (mInit 4 [(3, l0), (1, l1), (1, l2)]) [] σ b r ((E_Mo_move_0 l0 l1 l2 σ).trans h) hk
  intro i L st σ b r hb hk
  unfold F_Mo_move_0 at hb
  split at hb
  · have key : ∀ (k0 k1 k2 : Int) (k3 : mV) (σ : mS) (b : Int × mS) (r : Int × mS), (M_Mo_move_29 k0 k1 k2 σ) = some b → (fun b r => r = b) b r → mG (d + 1) 70 29 [(3, k0), (1, k1), (1, k2), k3] [] σ r := by
      intro k0 k1 k2 k3 σ b r hb hk
      exact (T_Mo_move_29 hC hb hk).lle (lle_cons (lle_cons (lle_cons (lle_dead lle_nil))))
    exact key _ _ _ _ σ b r hb hk
  · cases hb
set_option maxRecDepth 100000 in
theorem T_Mo_move {l0 l1 l2 : Int} {σ : mS} {r : Int × mS} (h : M_Mo_move l0 l1 l2 σ = some r) : mEx 3 70 [(3, l0), (1, l1), (1, l2)] σ r :=
  ⟨by rw [P_Mo_move]; exact Nat.le_of_ble_eq_true rfl, by rw [P_Mo_move]; exact T_Mo_move_0 TC_Mo_move h rfl⟩
set_option maxRecDepth 100000 in
theorem P_Mo_thereOf : mProg 71 = (c_Mo_thereOf, 3) := rfl
set_option maxRecDepth 100000 in
theorem TC_Mo_thereOf : ∀ k as σ p, C_Mo_thereOf k as σ = some p → mEx 1 k as σ p := by
  intro k as σ p hp
  unfold C_Mo_thereOf at hp
  split at hp
  · exact (T_Mo_riseOf hp).up (Nat.le_of_ble_eq_true rfl)
  · cases hp
set_option maxRecDepth 100000 in
theorem T_Mo_thereOf_0 {d : Nat} (hC : ∀ k as σ p, C_Mo_thereOf k as σ = some p → mEx d k as σ p) {l0 l1 l2 : Int} {σ : mS} {b : Int × mS} {r : Int × mS} (h : M_Mo_thereOf l0 l1 l2 σ = some b) (hk : (fun b r => r = b) b r) : mG (d + 1) 71 0 (mInit 3 [(3, l0), (1, l1), (1, l2)]) [] σ r := by
  refine mblk_ok1 P_Mo_thereOf (F := F_Mo_thereOf_0) (fun b r => r = b) hC ?_ (fun v σ b r hb hk => by cases hb; exact hk) _ 0 (mInit 3 [(3, l0), (1, l1), (1, l2)]) [] σ b r ((E_Mo_thereOf_0 l0 l1 l2 σ).trans h) hk
  intro i L st σ b r hb hk
  cases hb
set_option maxRecDepth 100000 in
theorem T_Mo_thereOf {l0 l1 l2 : Int} {σ : mS} {r : Int × mS} (h : M_Mo_thereOf l0 l1 l2 σ = some r) : mEx 2 71 [(3, l0), (1, l1), (1, l2)] σ r :=
  ⟨by rw [P_Mo_thereOf]; exact Nat.le_of_ble_eq_true rfl, by rw [P_Mo_thereOf]; exact T_Mo_thereOf_0 TC_Mo_thereOf h rfl⟩
set_option maxRecDepth 100000 in
theorem P_Mo_of : mProg 72 = (c_Mo_of, 3) := rfl
set_option maxRecDepth 100000 in
theorem TC_Mo_of : ∀ k as σ p, C_Mo_of k as σ = some p → mEx 2 k as σ p := by
  intro k as σ p hp
  unfold C_Mo_of at hp
  split at hp
  · exact (T_Mo_lies hp).up (Nat.le_of_ble_eq_true rfl)
  · exact (T_Mo_isThing hp).up (Nat.le_of_ble_eq_true rfl)
  · exact (T_Mo_thereOf hp).up (Nat.le_of_ble_eq_true rfl)
  · cases hp
set_option maxRecDepth 100000 in
theorem T_Mo_of_0 {d : Nat} (hC : ∀ k as σ p, C_Mo_of k as σ = some p → mEx d k as σ p) {l0 l1 l2 : Int} {σ : mS} {b : Int × mS} {r : Int × mS} (h : M_Mo_of l0 l1 l2 σ = some b) (hk : (fun b r => r = b) b r) : mG (d + 1) 72 0 (mInit 3 [(3, l0), (1, l1), (1, l2)]) [] σ r := by
  refine mblk_ok1 P_Mo_of (F := F_Mo_of_0) (fun b r => r = b) hC ?_ (fun v σ b r hb hk => by cases hb; exact hk) _ 0 (mInit 3 [(3, l0), (1, l1), (1, l2)]) [] σ b r ((E_Mo_of_0 l0 l1 l2 σ).trans h) hk
  intro i L st σ b r hb hk
  cases hb
set_option maxRecDepth 100000 in
theorem T_Mo_of {l0 l1 l2 : Int} {σ : mS} {r : Int × mS} (h : M_Mo_of l0 l1 l2 σ = some r) : mEx 3 72 [(3, l0), (1, l1), (1, l2)] σ r :=
  ⟨by rw [P_Mo_of]; exact Nat.le_of_ble_eq_true rfl, by rw [P_Mo_of]; exact T_Mo_of_0 TC_Mo_of h rfl⟩
set_option maxRecDepth 100000 in
theorem P_Mo_terms : mProg 73 = (c_Mo_terms, 4) := rfl
set_option maxRecDepth 100000 in
theorem TC_Mo_terms : ∀ k as σ p, C_Mo_terms k as σ = some p → mEx 1 k as σ p := by
  intro k as σ p hp
  unfold C_Mo_terms at hp
  split at hp
  · exact (T_Mo_lies hp).up (Nat.le_of_ble_eq_true rfl)
  · exact (T_Mo_refuses hp).up (Nat.le_of_ble_eq_true rfl)
  · exact (T_Mo_good hp).up (Nat.le_of_ble_eq_true rfl)
  · cases hp
set_option maxRecDepth 100000 in
theorem T_Mo_terms_22 {d : Nat} (hC : ∀ k as σ p, C_Mo_terms k as σ = some p → mEx d k as σ p) {l0 l1 l2 s2 s1 s0 : Int} {σ : mS} {b : Int × mS} {r : Int × mS} (h : M_Mo_terms_22 l0 l1 l2 s2 s1 s0 σ = some b) (hk : (fun b r => r = b) b r) : mG (d + 1) 73 22 [(3, l0), (1, l1), (1, l2), (0, 0)] [(1, s2), (1, s1), (1, s0)] σ r := by
  refine mblk_ok1 P_Mo_terms (F := F_Mo_terms_22) (fun b r => r = b) hC ?_ (fun v σ b r hb hk => by cases hb; exact hk) _ 22 [(3, l0), (1, l1), (1, l2), (0, 0)] [(1, s2), (1, s1), (1, s0)] σ b r ((E_Mo_terms_22 l0 l1 l2 s2 s1 s0 σ).trans h) hk
  intro i L st σ b r hb hk
  cases hb
set_option maxRecDepth 100000 in
theorem T_Mo_terms_0 {d : Nat} (hC : ∀ k as σ p, C_Mo_terms k as σ = some p → mEx d k as σ p) {l0 l1 l2 : Int} {σ : mS} {b : Int × mS} {r : Int × mS} (h : M_Mo_terms l0 l1 l2 σ = some b) (hk : (fun b r => r = b) b r) : mG (d + 1) 73 0 (mInit 4 [(3, l0), (1, l1), (1, l2)]) [] σ r := by
  refine mblk_ok1 P_Mo_terms (F := F_Mo_terms_0) (fun b r => r = b) hC ?_ (fun v σ b r hb hk => by cases hb; exact hk) _ 0 (mInit 4 [(3, l0), (1, l1), (1, l2)]) [] σ b r ((E_Mo_terms_0 l0 l1 l2 σ).trans h) hk
  intro i L st σ b r hb hk
  unfold F_Mo_terms_0 at hb
  split at hb
  · have key : ∀ (k0 k1 k2 u2 u1 u0 : Int) (k3 : mV) (σ : mS) (b : Int × mS) (r : Int × mS), (M_Mo_terms_22 k0 k1 k2 u2 u1 u0 σ) = some b → (fun b r => r = b) b r → mG (d + 1) 73 22 [(3, k0), (1, k1), (1, k2), k3] [(1, u2), (1, u1), (1, u0)] σ r := by
      intro k0 k1 k2 u2 u1 u0 k3 σ b r hb hk
      exact (T_Mo_terms_22 hC hb hk).lle (lle_cons (lle_cons (lle_cons (lle_dead lle_nil))))
    exact key _ _ _ _ _ _ _ σ b r hb hk
  · cases hb
set_option maxRecDepth 100000 in
theorem T_Mo_terms {l0 l1 l2 : Int} {σ : mS} {r : Int × mS} (h : M_Mo_terms l0 l1 l2 σ = some r) : mEx 2 73 [(3, l0), (1, l1), (1, l2)] σ r :=
  ⟨by rw [P_Mo_terms]; exact Nat.le_of_ble_eq_true rfl, by rw [P_Mo_terms]; exact T_Mo_terms_0 TC_Mo_terms h rfl⟩
set_option maxRecDepth 100000 in
theorem P_Mo_row : mProg 74 = (c_Mo_row, 4) := rfl
set_option maxRecDepth 100000 in
theorem TC_Mo_row : ∀ k as σ p, C_Mo_row k as σ = some p → mEx 2 k as σ p := by
  intro k as σ p hp
  unfold C_Mo_row at hp
  split at hp
  · exact (T_Mo_refuses hp).up (Nat.le_of_ble_eq_true rfl)
  · exact (T_Mo_good hp).up (Nat.le_of_ble_eq_true rfl)
  · exact (T_Mo_isInch hp).up (Nat.le_of_ble_eq_true rfl)
  · cases hp
set_option maxRecDepth 100000 in
theorem TB_Mo_row_16 {d : Nat} (hC : ∀ k as σ p, C_Mo_row k as σ = some p → mEx d k as σ p) {l0 l1 l2 l3 : Int} {σ : mS} {b : ((Int × Int × mS) ⊕ (Int × mS))} {r : Int × mS} (h : B_Mo_row_16 l0 l1 l2 l3 σ = some b) (hk : (Sum.elim (fun (s : Int × Int × mS) r => mG (d + 1) 74 16 [(3, l0), (1, l1), (1, s.1), (1, s.2.1)] [] s.2.2 r) (fun b r => r = b)) b r) : mG (d + 1) 74 16 [(3, l0), (1, l1), (1, l2), (1, l3)] [] σ r := by
  refine mblk_ok2 P_Mo_row (F := F_Mo_row_16) (Sum.elim (fun (s : Int × Int × mS) r => mG (d + 1) 74 16 [(3, l0), (1, l1), (1, s.1), (1, s.2.1)] [] s.2.2 r) (fun b r => r = b)) [([(16, 41)], [0, 1])] [(16, 50)] [(3, l0), (1, l1), (1, l2), (1, l3)] (by decide +kernel) rfl hC ?_ (fun v σ b r hb hk => by cases hb; exact hk) _ 16 [(3, l0), (1, l1), (1, l2), (1, l3)] [] σ b r rfl (mJ_self _ _ _) ((E_Mo_row_16 l0 l1 l2 l3 σ).trans h) hk
  intro i L st σ b r hj hb hk
  unfold F_Mo_row_16 at hb
  split at hb
  · have key : ∀ (k0 k1 k2 k3 : Int) (σ : mS) (b : ((Int × Int × mS) ⊕ (Int × mS))) (r : Int × mS), mJ [(3, l0), (1, l1), (1, l2), (1, l3)] 16 [(3, k0), (1, k1), (1, k2), (1, k3)] [([(16, 41)], [0, 1])] → (some (.inl (k2, k3, σ))) = some b → (Sum.elim (fun (s : Int × Int × mS) r => mG (d + 1) 74 16 [(3, l0), (1, l1), (1, s.1), (1, s.2.1)] [] s.2.2 r) (fun b r => r = b)) b r → mG (d + 1) 74 16 [(3, k0), (1, k1), (1, k2), (1, k3)] [] σ r := by
      intro k0 k1 k2 k3 σ b r hj hb hk
      have e0 : k0 = l0 := (Prod.mk.inj (Option.some.inj ((hj.1 rfl).1))).2
      subst e0
      have e1 : k1 = l1 := (Prod.mk.inj (Option.some.inj ((hj.1 rfl).2.1))).2
      subst e1
      cases hb
      exact mG.lle hk (lle_cons (lle_cons (lle_cons (lle_cons lle_nil))))
    exact key _ _ _ _ σ b r hj hb hk
  · cases hb
set_option maxRecDepth 100000 in
theorem T_Mo_row_16 {d : Nat} (hC : ∀ k as σ p, C_Mo_row k as σ = some p → mEx d k as σ p) {l0 l1 l2 l3 : Int} {σ : mS} {b : Int × mS} {r : Int × mS} (h : M_Mo_row_16 l0 l1 l2 l3 σ = some b) (hk : (fun b r => r = b) b r) : mG (d + 1) 74 16 [(3, l0), (1, l1), (1, l2), (1, l3)] [] σ r :=
  miter_ok (G := fun (s : Int × Int × mS) r => mG (d + 1) 74 16 [(3, l0), (1, l1), (1, s.1), (1, s.2.1)] [] s.2.2 r) (K := (fun b r => r = b)) (fun s x r hs hx => TB_Mo_row_16 hC hs hx) mN _ b r h hk
set_option maxRecDepth 100000 in
theorem T_Mo_row_0 {d : Nat} (hC : ∀ k as σ p, C_Mo_row k as σ = some p → mEx d k as σ p) {l0 : Int} {σ : mS} {b : Int × mS} {r : Int × mS} (h : M_Mo_row l0 σ = some b) (hk : (fun b r => r = b) b r) : mG (d + 1) 74 0 (mInit 4 [(3, l0)]) [] σ r := by
  refine mblk_ok1 P_Mo_row (F := F_Mo_row_0) (fun b r => r = b) hC ?_ (fun v σ b r hb hk => by cases hb; exact hk) _ 0 (mInit 4 [(3, l0)]) [] σ b r ((E_Mo_row_0 l0 σ).trans h) hk
  intro i L st σ b r hb hk
  unfold F_Mo_row_0 at hb
  split at hb
  · have key : ∀ (k0 k1 k2 k3 : Int) (σ : mS) (b : Int × mS) (r : Int × mS), (M_Mo_row_16 k0 k1 k2 k3 σ) = some b → (fun b r => r = b) b r → mG (d + 1) 74 16 [(3, k0), (1, k1), (1, k2), (1, k3)] [] σ r := by
      intro k0 k1 k2 k3 σ b r hb hk
      exact (T_Mo_row_16 hC hb hk).lle (lle_cons (lle_cons (lle_cons (lle_cons lle_nil))))
    exact key _ _ _ _ σ b r hb hk
  · cases hb
set_option maxRecDepth 100000 in
theorem T_Mo_row {l0 : Int} {σ : mS} {r : Int × mS} (h : M_Mo_row l0 σ = some r) : mEx 3 74 [(3, l0)] σ r :=
  ⟨by rw [P_Mo_row]; exact Nat.le_of_ble_eq_true rfl, by rw [P_Mo_row]; exact T_Mo_row_0 TC_Mo_row h rfl⟩
set_option maxRecDepth 100000 in
theorem P_Mo_worn : mProg 75 = (c_Mo_worn, 1) := rfl
set_option maxRecDepth 100000 in
theorem TC_Mo_worn : ∀ k as σ p, C_Mo_worn k as σ = some p → mEx 0 k as σ p := by
  intro k as σ p hp
  cases hp
set_option maxRecDepth 100000 in
theorem T_Mo_worn_0 {d : Nat} (hC : ∀ k as σ p, C_Mo_worn k as σ = some p → mEx d k as σ p) {l0 : Int} {σ : mS} {b : Int × mS} {r : Int × mS} (h : M_Mo_worn l0 σ = some b) (hk : (fun b r => r = b) b r) : mG (d + 1) 75 0 (mInit 1 [(3, l0)]) [] σ r := by
  refine mblk_ok1 P_Mo_worn (F := F_Mo_worn_0) (fun b r => r = b) hC ?_ (fun v σ b r hb hk => by cases hb; exact hk) _ 0 (mInit 1 [(3, l0)]) [] σ b r ((E_Mo_worn_0 l0 σ).trans h) hk
  intro i L st σ b r hb hk
  cases hb
set_option maxRecDepth 100000 in
theorem T_Mo_worn {l0 : Int} {σ : mS} {r : Int × mS} (h : M_Mo_worn l0 σ = some r) : mEx 1 75 [(3, l0)] σ r :=
  ⟨by rw [P_Mo_worn]; exact Nat.le_of_ble_eq_true rfl, by rw [P_Mo_worn]; exact T_Mo_worn_0 TC_Mo_worn h rfl⟩
set_option maxRecDepth 100000 in
theorem P_Mo_feed : mProg 76 = (c_Mo_feed, 7) := rfl
set_option maxRecDepth 100000 in
theorem TC_Mo_feed : ∀ k as σ p, C_Mo_feed k as σ = some p → mEx 0 k as σ p := by
  intro k as σ p hp
  cases hp
set_option maxRecDepth 100000 in
theorem TB_Mo_feed_35 {d : Nat} (hC : ∀ k as σ p, C_Mo_feed k as σ = some p → mEx d k as σ p) {l0 l6 : Int} {σ : mS} {b : ((Int × mS) ⊕ (Int × mS))} {r : Int × mS} (h : B_Mo_feed_35 l0 l6 σ = some b) (hk : (Sum.elim (fun (s : Int × mS) r => mG (d + 1) 76 35 [(3, l0), (0, 0), (0, 0), (0, 0), (0, 0), (0, 0), (1, s.1)] [] s.2 r) (fun b r => r = b)) b r) : mG (d + 1) 76 35 [(3, l0), (0, 0), (0, 0), (0, 0), (0, 0), (0, 0), (1, l6)] [] σ r := by
  refine mblk_ok2 P_Mo_feed (F := F_Mo_feed_35) (Sum.elim (fun (s : Int × mS) r => mG (d + 1) 76 35 [(3, l0), (0, 0), (0, 0), (0, 0), (0, 0), (0, 0), (1, s.1)] [] s.2 r) (fun b r => r = b)) [([(35, 61)], [0])] [(35, 70)] [(3, l0), (0, 0), (0, 0), (0, 0), (0, 0), (0, 0), (1, l6)] (by decide +kernel) rfl hC ?_ (fun v σ b r hb hk => by cases hb; exact hk) _ 35 [(3, l0), (0, 0), (0, 0), (0, 0), (0, 0), (0, 0), (1, l6)] [] σ b r rfl (mJ_self _ _ _) ((E_Mo_feed_35 l0 l6 σ).trans h) hk
  intro i L st σ b r hj hb hk
  unfold F_Mo_feed_35 at hb
  split at hb
  · have key : ∀ (k0 k6 : Int) (k1 k2 k3 k4 k5 : mV) (σ : mS) (b : ((Int × mS) ⊕ (Int × mS))) (r : Int × mS), mJ [(3, l0), (0, 0), (0, 0), (0, 0), (0, 0), (0, 0), (1, l6)] 35 [(3, k0), k1, k2, k3, k4, k5, (1, k6)] [([(35, 61)], [0])] → (some (.inl (k6, σ))) = some b → (Sum.elim (fun (s : Int × mS) r => mG (d + 1) 76 35 [(3, l0), (0, 0), (0, 0), (0, 0), (0, 0), (0, 0), (1, s.1)] [] s.2 r) (fun b r => r = b)) b r → mG (d + 1) 76 35 [(3, k0), k1, k2, k3, k4, k5, (1, k6)] [] σ r := by
      intro k0 k6 k1 k2 k3 k4 k5 σ b r hj hb hk
      have e0 : k0 = l0 := (Prod.mk.inj (Option.some.inj ((hj.1 rfl).1))).2
      subst e0
      cases hb
      exact mG.lle hk (lle_cons (lle_dead (lle_dead (lle_dead (lle_dead (lle_dead (lle_cons lle_nil)))))))
    exact key _ _ _ _ _ _ _ σ b r hj hb hk
  · cases hb
set_option maxRecDepth 100000 in
theorem T_Mo_feed_35 {d : Nat} (hC : ∀ k as σ p, C_Mo_feed k as σ = some p → mEx d k as σ p) {l0 l6 : Int} {σ : mS} {b : Int × mS} {r : Int × mS} (h : M_Mo_feed_35 l0 l6 σ = some b) (hk : (fun b r => r = b) b r) : mG (d + 1) 76 35 [(3, l0), (0, 0), (0, 0), (0, 0), (0, 0), (0, 0), (1, l6)] [] σ r :=
  miter_ok (G := fun (s : Int × mS) r => mG (d + 1) 76 35 [(3, l0), (0, 0), (0, 0), (0, 0), (0, 0), (0, 0), (1, s.1)] [] s.2 r) (K := (fun b r => r = b)) (fun s x r hs hx => TB_Mo_feed_35 hC hs hx) mN _ b r h hk
set_option maxRecDepth 100000 in
theorem T_Mo_feed_0 {d : Nat} (hC : ∀ k as σ p, C_Mo_feed k as σ = some p → mEx d k as σ p) {l0 l1 l2 l3 l4 l5 : Int} {σ : mS} {b : Int × mS} {r : Int × mS} (h : M_Mo_feed l0 l1 l2 l3 l4 l5 σ = some b) (hk : (fun b r => r = b) b r) : mG (d + 1) 76 0 (mInit 7 [(3, l0), (1, l1), (1, l2), (1, l3), (1, l4), (1, l5)]) [] σ r := by
  refine mblk_ok1 P_Mo_feed (F := F_Mo_feed_0) (fun b r => r = b) hC ?_ (fun v σ b r hb hk => by cases hb; exact hk) _ 0 (mInit 7 [(3, l0), (1, l1), (1, l2), (1, l3), (1, l4), (1, l5)]) [] σ b r ((E_Mo_feed_0 l0 l1 l2 l3 l4 l5 σ).trans h) hk
  intro i L st σ b r hb hk
  unfold F_Mo_feed_0 at hb
  split at hb
  · have key : ∀ (k0 k6 : Int) (k1 k2 k3 k4 k5 : mV) (σ : mS) (b : Int × mS) (r : Int × mS), (M_Mo_feed_35 k0 k6 σ) = some b → (fun b r => r = b) b r → mG (d + 1) 76 35 [(3, k0), k1, k2, k3, k4, k5, (1, k6)] [] σ r := by
      intro k0 k6 k1 k2 k3 k4 k5 σ b r hb hk
      exact (T_Mo_feed_35 hC hb hk).lle (lle_cons (lle_dead (lle_dead (lle_dead (lle_dead (lle_dead (lle_cons lle_nil)))))))
    exact key _ _ _ _ _ _ _ σ b r hb hk
  · cases hb
set_option maxRecDepth 100000 in
theorem T_Mo_feed {l0 l1 l2 l3 l4 l5 : Int} {σ : mS} {r : Int × mS} (h : M_Mo_feed l0 l1 l2 l3 l4 l5 σ = some r) : mEx 1 76 [(3, l0), (1, l1), (1, l2), (1, l3), (1, l4), (1, l5)] σ r :=
  ⟨by rw [P_Mo_feed]; exact Nat.le_of_ble_eq_true rfl, by rw [P_Mo_feed]; exact T_Mo_feed_0 TC_Mo_feed h rfl⟩
set_option maxRecDepth 100000 in
theorem P_Mo_end : mProg 77 = (c_Mo_end, 2) := rfl
set_option maxRecDepth 100000 in
theorem TC_Mo_end : ∀ k as σ p, C_Mo_end k as σ = some p → mEx 1 k as σ p := by
  intro k as σ p hp
  unfold C_Mo_end at hp
  split at hp
  · exact (T_Mo_lies hp).up (Nat.le_of_ble_eq_true rfl)
  · cases hp
set_option maxRecDepth 100000 in
theorem T_Mo_end_0 {d : Nat} (hC : ∀ k as σ p, C_Mo_end k as σ = some p → mEx d k as σ p) {l0 l1 : Int} {σ : mS} {b : Int × mS} {r : Int × mS} (h : M_Mo_end l0 l1 σ = some b) (hk : (fun b r => r = b) b r) : mG (d + 1) 77 0 (mInit 2 [(3, l0), (1, l1)]) [] σ r := by
  refine mblk_ok1 P_Mo_end (F := F_Mo_end_0) (fun b r => r = b) hC ?_ (fun v σ b r hb hk => by cases hb; exact hk) _ 0 (mInit 2 [(3, l0), (1, l1)]) [] σ b r ((E_Mo_end_0 l0 l1 σ).trans h) hk
  intro i L st σ b r hb hk
  cases hb
set_option maxRecDepth 100000 in
theorem T_Mo_end {l0 l1 : Int} {σ : mS} {r : Int × mS} (h : M_Mo_end l0 l1 σ = some r) : mEx 2 77 [(3, l0), (1, l1)] σ r :=
  ⟨by rw [P_Mo_end]; exact Nat.le_of_ble_eq_true rfl, by rw [P_Mo_end]; exact T_Mo_end_0 TC_Mo_end h rfl⟩
set_option maxRecDepth 100000 in
theorem P_Mo_isSmall : mProg 78 = (c_Mo_isSmall, 1) := rfl
set_option maxRecDepth 100000 in
theorem TC_Mo_isSmall : ∀ k as σ p, C_Mo_isSmall k as σ = some p → mEx 0 k as σ p := by
  intro k as σ p hp
  cases hp
set_option maxRecDepth 100000 in
theorem T_Mo_isSmall_0 {d : Nat} (hC : ∀ k as σ p, C_Mo_isSmall k as σ = some p → mEx d k as σ p) {l0 : Int} {σ : mS} {b : Int × mS} {r : Int × mS} (h : M_Mo_isSmall l0 σ = some b) (hk : (fun b r => r = b) b r) : mG (d + 1) 78 0 (mInit 1 [(1, l0)]) [] σ r := by
  refine mblk_ok1 P_Mo_isSmall (F := F_Mo_isSmall_0) (fun b r => r = b) hC ?_ (fun v σ b r hb hk => by cases hb; exact hk) _ 0 (mInit 1 [(1, l0)]) [] σ b r ((E_Mo_isSmall_0 l0 σ).trans h) hk
  intro i L st σ b r hb hk
  cases hb
set_option maxRecDepth 100000 in
theorem T_Mo_isSmall {l0 : Int} {σ : mS} {r : Int × mS} (h : M_Mo_isSmall l0 σ = some r) : mEx 1 78 [(1, l0)] σ r :=
  ⟨by rw [P_Mo_isSmall]; exact Nat.le_of_ble_eq_true rfl, by rw [P_Mo_isSmall]; exact T_Mo_isSmall_0 TC_Mo_isSmall h rfl⟩
set_option maxRecDepth 100000 in
theorem P_Mo_isDigit : mProg 79 = (c_Mo_isDigit, 1) := rfl
set_option maxRecDepth 100000 in
theorem TC_Mo_isDigit : ∀ k as σ p, C_Mo_isDigit k as σ = some p → mEx 0 k as σ p := by
  intro k as σ p hp
  cases hp
set_option maxRecDepth 100000 in
theorem T_Mo_isDigit_0 {d : Nat} (hC : ∀ k as σ p, C_Mo_isDigit k as σ = some p → mEx d k as σ p) {l0 : Int} {σ : mS} {b : Int × mS} {r : Int × mS} (h : M_Mo_isDigit l0 σ = some b) (hk : (fun b r => r = b) b r) : mG (d + 1) 79 0 (mInit 1 [(1, l0)]) [] σ r := by
  refine mblk_ok1 P_Mo_isDigit (F := F_Mo_isDigit_0) (fun b r => r = b) hC ?_ (fun v σ b r hb hk => by cases hb; exact hk) _ 0 (mInit 1 [(1, l0)]) [] σ b r ((E_Mo_isDigit_0 l0 σ).trans h) hk
  intro i L st σ b r hb hk
  cases hb
set_option maxRecDepth 100000 in
theorem T_Mo_isDigit {l0 : Int} {σ : mS} {r : Int × mS} (h : M_Mo_isDigit l0 σ = some r) : mEx 1 79 [(1, l0)] σ r :=
  ⟨by rw [P_Mo_isDigit]; exact Nat.le_of_ble_eq_true rfl, by rw [P_Mo_isDigit]; exact T_Mo_isDigit_0 TC_Mo_isDigit h rfl⟩
set_option maxRecDepth 100000 in
theorem P_Mo_wordOf : mProg 80 = (c_Mo_wordOf, 8) := rfl
set_option maxRecDepth 100000 in
theorem TC_Mo_wordOf : ∀ k as σ p, C_Mo_wordOf k as σ = some p → mEx 0 k as σ p := by
  intro k as σ p hp
  cases hp
set_option maxRecDepth 100000 in
theorem T_Mo_wordOf_56 {d : Nat} (hC : ∀ k as σ p, C_Mo_wordOf k as σ = some p → mEx d k as σ p) {l0 l1 l2 l3 l4 l5 l6 : Int} {σ : mS} {b : ((Int × Int × mS) ⊕ (Int × mS))} {r : Int × mS} (h : M_Mo_wordOf_56 l0 l1 l2 l3 l4 l5 l6 σ = some b) (hk : (Sum.elim (fun (s : Int × Int × mS) r => mG (d + 1) 80 4 [(3, l0), (1, l1), (1, l2), (1, s.1), (1, s.2.1), (0, 0), (0, 0), (0, 0)] [] s.2.2 r) (fun b r => r = b)) b r) : mG (d + 1) 80 56 [(3, l0), (1, l1), (1, l2), (1, l3), (1, l4), (1, l5), (1, l6), (0, 0)] [] σ r := by
  refine mblk_ok2 P_Mo_wordOf (F := F_Mo_wordOf_56) (Sum.elim (fun (s : Int × Int × mS) r => mG (d + 1) 80 4 [(3, l0), (1, l1), (1, l2), (1, s.1), (1, s.2.1), (0, 0), (0, 0), (0, 0)] [] s.2.2 r) (fun b r => r = b)) [([(4, 57), (60, 67)], [0, 1, 2])] [(56, 67)] [(3, l0), (1, l1), (1, l2), (1, l3), (1, l4), (1, l5), (1, l6), (0, 0)] (by decide +kernel) rfl hC ?_ (fun v σ b r hb hk => by cases hb; exact hk) _ 56 [(3, l0), (1, l1), (1, l2), (1, l3), (1, l4), (1, l5), (1, l6), (0, 0)] [] σ b r rfl (mJ_self _ _ _) ((E_Mo_wordOf_56 l0 l1 l2 l3 l4 l5 l6 σ).trans h) hk
  intro i L st σ b r hj hb hk
  unfold F_Mo_wordOf_56 at hb
  split at hb
  · have key : ∀ (k0 k1 k2 k3 k4 : Int) (k5 k6 k7 : mV) (σ : mS) (b : ((Int × Int × mS) ⊕ (Int × mS))) (r : Int × mS), mJ [(3, l0), (1, l1), (1, l2), (1, l3), (1, l4), (1, l5), (1, l6), (0, 0)] 4 [(3, k0), (1, k1), (1, k2), (1, k3), (1, k4), k5, k6, k7] [([(4, 57), (60, 67)], [0, 1, 2])] → (some (.inl (k3, k4, σ))) = some b → (Sum.elim (fun (s : Int × Int × mS) r => mG (d + 1) 80 4 [(3, l0), (1, l1), (1, l2), (1, s.1), (1, s.2.1), (0, 0), (0, 0), (0, 0)] [] s.2.2 r) (fun b r => r = b)) b r → mG (d + 1) 80 4 [(3, k0), (1, k1), (1, k2), (1, k3), (1, k4), k5, k6, k7] [] σ r := by
      intro k0 k1 k2 k3 k4 k5 k6 k7 σ b r hj hb hk
      have e0 : k0 = l0 := (Prod.mk.inj (Option.some.inj ((hj.1 rfl).1))).2
      subst e0
      have e1 : k1 = l1 := (Prod.mk.inj (Option.some.inj ((hj.1 rfl).2.1))).2
      subst e1
      have e2 : k2 = l2 := (Prod.mk.inj (Option.some.inj ((hj.1 rfl).2.2.1))).2
      subst e2
      cases hb
      exact mG.lle hk (lle_cons (lle_cons (lle_cons (lle_cons (lle_cons (lle_dead (lle_dead (lle_dead lle_nil))))))))
    exact key _ _ _ _ _ _ _ _ σ b r hj hb hk
  · cases hb
set_option maxRecDepth 100000 in
theorem TB_Mo_wordOf_32 {d : Nat} (hC : ∀ k as σ p, C_Mo_wordOf k as σ = some p → mEx d k as σ p) {l0 l1 l2 l3 l4 l5 l6 l7 : Int} {σ : mS} {b : ((Int × Int × mS) ⊕ ((Int × Int × mS) ⊕ (Int × mS)))} {r : Int × mS} (h : B_Mo_wordOf_32 l0 l1 l2 l3 l4 l5 l6 l7 σ = some b) (hk : (Sum.elim (fun (s : Int × Int × mS) r => mG (d + 1) 80 32 [(3, l0), (1, l1), (1, l2), (1, l3), (1, l4), (1, l5), (1, s.1), (1, s.2.1)] [] s.2.2 r) (Sum.elim (fun (s : Int × Int × mS) r => mG (d + 1) 80 4 [(3, l0), (1, l1), (1, l2), (1, s.1), (1, s.2.1), (0, 0), (0, 0), (0, 0)] [] s.2.2 r) (fun b r => r = b))) b r) : mG (d + 1) 80 32 [(3, l0), (1, l1), (1, l2), (1, l3), (1, l4), (1, l5), (1, l6), (1, l7)] [] σ r := by
  refine mblk_ok2 P_Mo_wordOf (F := F_Mo_wordOf_32) (Sum.elim (fun (s : Int × Int × mS) r => mG (d + 1) 80 32 [(3, l0), (1, l1), (1, l2), (1, l3), (1, l4), (1, l5), (1, s.1), (1, s.2.1)] [] s.2.2 r) (Sum.elim (fun (s : Int × Int × mS) r => mG (d + 1) 80 4 [(3, l0), (1, l1), (1, l2), (1, s.1), (1, s.2.1), (0, 0), (0, 0), (0, 0)] [] s.2.2 r) (fun b r => r = b))) [([(32, 55)], [0, 1, 2, 3, 4, 5]), ([(4, 57), (60, 67)], [0, 1, 2])] [(32, 55)] [(3, l0), (1, l1), (1, l2), (1, l3), (1, l4), (1, l5), (1, l6), (1, l7)] (by decide +kernel) rfl hC ?_ (fun v σ b r hb hk => by cases hb; exact hk) _ 32 [(3, l0), (1, l1), (1, l2), (1, l3), (1, l4), (1, l5), (1, l6), (1, l7)] [] σ b r rfl (mJ_self _ _ _) ((E_Mo_wordOf_32 l0 l1 l2 l3 l4 l5 l6 l7 σ).trans h) hk
  intro i L st σ b r hj hb hk
  unfold F_Mo_wordOf_32 at hb
  split at hb
  · have key : ∀ (k0 k1 k2 k3 k4 k5 k6 k7 : Int) (σ : mS) (b : ((Int × Int × mS) ⊕ ((Int × Int × mS) ⊕ (Int × mS)))) (r : Int × mS), mJ [(3, l0), (1, l1), (1, l2), (1, l3), (1, l4), (1, l5), (1, l6), (1, l7)] 32 [(3, k0), (1, k1), (1, k2), (1, k3), (1, k4), (1, k5), (1, k6), (1, k7)] [([(32, 55)], [0, 1, 2, 3, 4, 5]), ([(4, 57), (60, 67)], [0, 1, 2])] → (some (.inl (k6, k7, σ))) = some b → (Sum.elim (fun (s : Int × Int × mS) r => mG (d + 1) 80 32 [(3, l0), (1, l1), (1, l2), (1, l3), (1, l4), (1, l5), (1, s.1), (1, s.2.1)] [] s.2.2 r) (Sum.elim (fun (s : Int × Int × mS) r => mG (d + 1) 80 4 [(3, l0), (1, l1), (1, l2), (1, s.1), (1, s.2.1), (0, 0), (0, 0), (0, 0)] [] s.2.2 r) (fun b r => r = b))) b r → mG (d + 1) 80 32 [(3, k0), (1, k1), (1, k2), (1, k3), (1, k4), (1, k5), (1, k6), (1, k7)] [] σ r := by
      intro k0 k1 k2 k3 k4 k5 k6 k7 σ b r hj hb hk
      have e0 : k0 = l0 := (Prod.mk.inj (Option.some.inj ((hj.1 rfl).1))).2
      subst e0
      have e1 : k1 = l1 := (Prod.mk.inj (Option.some.inj ((hj.1 rfl).2.1))).2
      subst e1
      have e2 : k2 = l2 := (Prod.mk.inj (Option.some.inj ((hj.1 rfl).2.2.1))).2
      subst e2
      have e3 : k3 = l3 := (Prod.mk.inj (Option.some.inj ((hj.1 rfl).2.2.2.1))).2
      subst e3
      have e4 : k4 = l4 := (Prod.mk.inj (Option.some.inj ((hj.1 rfl).2.2.2.2.1))).2
      subst e4
      have e5 : k5 = l5 := (Prod.mk.inj (Option.some.inj ((hj.1 rfl).2.2.2.2.2.1))).2
      subst e5
      cases hb
      exact mG.lle hk (lle_cons (lle_cons (lle_cons (lle_cons (lle_cons (lle_cons (lle_cons (lle_cons lle_nil))))))))
    exact key _ _ _ _ _ _ _ _ σ b r hj hb hk
  · have key : ∀ (k0 k1 k2 k3 k4 k5 k6 : Int) (k7 : mV) (σ : mS) (b : ((Int × Int × mS) ⊕ ((Int × Int × mS) ⊕ (Int × mS)))) (r : Int × mS), mJ [(3, l0), (1, l1), (1, l2), (1, l3), (1, l4), (1, l5), (1, l6), (1, l7)] 56 [(3, k0), (1, k1), (1, k2), (1, k3), (1, k4), (1, k5), (1, k6), k7] [([(32, 55)], [0, 1, 2, 3, 4, 5]), ([(4, 57), (60, 67)], [0, 1, 2])] → ((M_Mo_wordOf_56 k0 k1 k2 k3 k4 k5 k6 σ).bind fun z => some (.inr z)) = some b → (Sum.elim (fun (s : Int × Int × mS) r => mG (d + 1) 80 32 [(3, l0), (1, l1), (1, l2), (1, l3), (1, l4), (1, l5), (1, s.1), (1, s.2.1)] [] s.2.2 r) (Sum.elim (fun (s : Int × Int × mS) r => mG (d + 1) 80 4 [(3, l0), (1, l1), (1, l2), (1, s.1), (1, s.2.1), (0, 0), (0, 0), (0, 0)] [] s.2.2 r) (fun b r => r = b))) b r → mG (d + 1) 80 56 [(3, k0), (1, k1), (1, k2), (1, k3), (1, k4), (1, k5), (1, k6), k7] [] σ r := by
      intro k0 k1 k2 k3 k4 k5 k6 k7 σ b r hj hb hk
      have e0 : k0 = l0 := (Prod.mk.inj (Option.some.inj ((hj.2.1 rfl).1))).2
      subst e0
      have e1 : k1 = l1 := (Prod.mk.inj (Option.some.inj ((hj.2.1 rfl).2.1))).2
      subst e1
      have e2 : k2 = l2 := (Prod.mk.inj (Option.some.inj ((hj.2.1 rfl).2.2.1))).2
      subst e2
      obtain ⟨z, hz, e⟩ := Option.bind_eq_some_iff.mp hb
      cases e
      exact (T_Mo_wordOf_56 hC hz hk).lle (lle_cons (lle_cons (lle_cons (lle_cons (lle_cons (lle_cons (lle_cons (lle_dead lle_nil))))))))
    exact key _ _ _ _ _ _ _ _ σ b r hj hb hk
  · cases hb
set_option maxRecDepth 100000 in
theorem T_Mo_wordOf_32 {d : Nat} (hC : ∀ k as σ p, C_Mo_wordOf k as σ = some p → mEx d k as σ p) {l0 l1 l2 l3 l4 l5 l6 l7 : Int} {σ : mS} {b : ((Int × Int × mS) ⊕ (Int × mS))} {r : Int × mS} (h : M_Mo_wordOf_32 l0 l1 l2 l3 l4 l5 l6 l7 σ = some b) (hk : (Sum.elim (fun (s : Int × Int × mS) r => mG (d + 1) 80 4 [(3, l0), (1, l1), (1, l2), (1, s.1), (1, s.2.1), (0, 0), (0, 0), (0, 0)] [] s.2.2 r) (fun b r => r = b)) b r) : mG (d + 1) 80 32 [(3, l0), (1, l1), (1, l2), (1, l3), (1, l4), (1, l5), (1, l6), (1, l7)] [] σ r :=
  miter_ok (G := fun (s : Int × Int × mS) r => mG (d + 1) 80 32 [(3, l0), (1, l1), (1, l2), (1, l3), (1, l4), (1, l5), (1, s.1), (1, s.2.1)] [] s.2.2 r) (K := (Sum.elim (fun (s : Int × Int × mS) r => mG (d + 1) 80 4 [(3, l0), (1, l1), (1, l2), (1, s.1), (1, s.2.1), (0, 0), (0, 0), (0, 0)] [] s.2.2 r) (fun b r => r = b))) (fun s x r hs hx => TB_Mo_wordOf_32 hC hs hx) mN _ b r h hk
set_option maxRecDepth 100000 in
theorem TB_Mo_wordOf_11 {d : Nat} (hC : ∀ k as σ p, C_Mo_wordOf k as σ = some p → mEx d k as σ p) {l0 l1 l2 l3 l4 l5 : Int} {σ : mS} {b : ((Int × mS) ⊕ ((Int × Int × mS) ⊕ (Int × mS)))} {r : Int × mS} (h : B_Mo_wordOf_11 l0 l1 l2 l3 l4 l5 σ = some b) (hk : (Sum.elim (fun (s : Int × mS) r => mG (d + 1) 80 11 [(3, l0), (1, l1), (1, l2), (1, l3), (1, l4), (1, s.1), (0, 0), (0, 0)] [] s.2 r) (Sum.elim (fun (s : Int × Int × mS) r => mG (d + 1) 80 4 [(3, l0), (1, l1), (1, l2), (1, s.1), (1, s.2.1), (0, 0), (0, 0), (0, 0)] [] s.2.2 r) (fun b r => r = b))) b r) : mG (d + 1) 80 11 [(3, l0), (1, l1), (1, l2), (1, l3), (1, l4), (1, l5), (0, 0), (0, 0)] [] σ r := by
  refine mblk_ok2 P_Mo_wordOf (F := F_Mo_wordOf_11) (Sum.elim (fun (s : Int × mS) r => mG (d + 1) 80 11 [(3, l0), (1, l1), (1, l2), (1, l3), (1, l4), (1, s.1), (0, 0), (0, 0)] [] s.2 r) (Sum.elim (fun (s : Int × Int × mS) r => mG (d + 1) 80 4 [(3, l0), (1, l1), (1, l2), (1, s.1), (1, s.2.1), (0, 0), (0, 0), (0, 0)] [] s.2.2 r) (fun b r => r = b))) [([(11, 20)], [0, 1, 2, 3, 4]), ([(4, 57), (60, 67)], [0, 1, 2])] [(11, 31)] [(3, l0), (1, l1), (1, l2), (1, l3), (1, l4), (1, l5), (0, 0), (0, 0)] (by decide +kernel) rfl hC ?_ (fun v σ b r hb hk => by cases hb; exact hk) _ 11 [(3, l0), (1, l1), (1, l2), (1, l3), (1, l4), (1, l5), (0, 0), (0, 0)] [] σ b r rfl (mJ_self _ _ _) ((E_Mo_wordOf_11 l0 l1 l2 l3 l4 l5 σ).trans h) hk
  intro i L st σ b r hj hb hk
  unfold F_Mo_wordOf_11 at hb
  split at hb
  · have key : ∀ (k0 k1 k2 k3 k4 k5 : Int) (k6 k7 : mV) (σ : mS) (b : ((Int × mS) ⊕ ((Int × Int × mS) ⊕ (Int × mS)))) (r : Int × mS), mJ [(3, l0), (1, l1), (1, l2), (1, l3), (1, l4), (1, l5), (0, 0), (0, 0)] 11 [(3, k0), (1, k1), (1, k2), (1, k3), (1, k4), (1, k5), k6, k7] [([(11, 20)], [0, 1, 2, 3, 4]), ([(4, 57), (60, 67)], [0, 1, 2])] → (some (.inl (k5, σ))) = some b → (Sum.elim (fun (s : Int × mS) r => mG (d + 1) 80 11 [(3, l0), (1, l1), (1, l2), (1, l3), (1, l4), (1, s.1), (0, 0), (0, 0)] [] s.2 r) (Sum.elim (fun (s : Int × Int × mS) r => mG (d + 1) 80 4 [(3, l0), (1, l1), (1, l2), (1, s.1), (1, s.2.1), (0, 0), (0, 0), (0, 0)] [] s.2.2 r) (fun b r => r = b))) b r → mG (d + 1) 80 11 [(3, k0), (1, k1), (1, k2), (1, k3), (1, k4), (1, k5), k6, k7] [] σ r := by
      intro k0 k1 k2 k3 k4 k5 k6 k7 σ b r hj hb hk
      have e0 : k0 = l0 := (Prod.mk.inj (Option.some.inj ((hj.1 rfl).1))).2
      subst e0
      have e1 : k1 = l1 := (Prod.mk.inj (Option.some.inj ((hj.1 rfl).2.1))).2
      subst e1
      have e2 : k2 = l2 := (Prod.mk.inj (Option.some.inj ((hj.1 rfl).2.2.1))).2
      subst e2
      have e3 : k3 = l3 := (Prod.mk.inj (Option.some.inj ((hj.1 rfl).2.2.2.1))).2
      subst e3
      have e4 : k4 = l4 := (Prod.mk.inj (Option.some.inj ((hj.1 rfl).2.2.2.2.1))).2
      subst e4
      cases hb
      exact mG.lle hk (lle_cons (lle_cons (lle_cons (lle_cons (lle_cons (lle_cons (lle_dead (lle_dead lle_nil))))))))
    exact key _ _ _ _ _ _ _ _ σ b r hj hb hk
  · have key : ∀ (k0 k1 k2 k3 k4 k5 k6 k7 : Int) (σ : mS) (b : ((Int × mS) ⊕ ((Int × Int × mS) ⊕ (Int × mS)))) (r : Int × mS), mJ [(3, l0), (1, l1), (1, l2), (1, l3), (1, l4), (1, l5), (0, 0), (0, 0)] 32 [(3, k0), (1, k1), (1, k2), (1, k3), (1, k4), (1, k5), (1, k6), (1, k7)] [([(11, 20)], [0, 1, 2, 3, 4]), ([(4, 57), (60, 67)], [0, 1, 2])] → ((M_Mo_wordOf_32 k0 k1 k2 k3 k4 k5 k6 k7 σ).bind fun z => some (.inr z)) = some b → (Sum.elim (fun (s : Int × mS) r => mG (d + 1) 80 11 [(3, l0), (1, l1), (1, l2), (1, l3), (1, l4), (1, s.1), (0, 0), (0, 0)] [] s.2 r) (Sum.elim (fun (s : Int × Int × mS) r => mG (d + 1) 80 4 [(3, l0), (1, l1), (1, l2), (1, s.1), (1, s.2.1), (0, 0), (0, 0), (0, 0)] [] s.2.2 r) (fun b r => r = b))) b r → mG (d + 1) 80 32 [(3, k0), (1, k1), (1, k2), (1, k3), (1, k4), (1, k5), (1, k6), (1, k7)] [] σ r := by
      intro k0 k1 k2 k3 k4 k5 k6 k7 σ b r hj hb hk
      have e0 : k0 = l0 := (Prod.mk.inj (Option.some.inj ((hj.2.1 rfl).1))).2
      subst e0
      have e1 : k1 = l1 := (Prod.mk.inj (Option.some.inj ((hj.2.1 rfl).2.1))).2
      subst e1
      have e2 : k2 = l2 := (Prod.mk.inj (Option.some.inj ((hj.2.1 rfl).2.2.1))).2
      subst e2
      obtain ⟨z, hz, e⟩ := Option.bind_eq_some_iff.mp hb
      cases e
      exact (T_Mo_wordOf_32 hC hz hk).lle (lle_cons (lle_cons (lle_cons (lle_cons (lle_cons (lle_cons (lle_cons (lle_cons lle_nil))))))))
    exact key _ _ _ _ _ _ _ _ σ b r hj hb hk
  · cases hb
set_option maxRecDepth 100000 in
theorem T_Mo_wordOf_11 {d : Nat} (hC : ∀ k as σ p, C_Mo_wordOf k as σ = some p → mEx d k as σ p) {l0 l1 l2 l3 l4 l5 : Int} {σ : mS} {b : ((Int × Int × mS) ⊕ (Int × mS))} {r : Int × mS} (h : M_Mo_wordOf_11 l0 l1 l2 l3 l4 l5 σ = some b) (hk : (Sum.elim (fun (s : Int × Int × mS) r => mG (d + 1) 80 4 [(3, l0), (1, l1), (1, l2), (1, s.1), (1, s.2.1), (0, 0), (0, 0), (0, 0)] [] s.2.2 r) (fun b r => r = b)) b r) : mG (d + 1) 80 11 [(3, l0), (1, l1), (1, l2), (1, l3), (1, l4), (1, l5), (0, 0), (0, 0)] [] σ r :=
  miter_ok (G := fun (s : Int × mS) r => mG (d + 1) 80 11 [(3, l0), (1, l1), (1, l2), (1, l3), (1, l4), (1, s.1), (0, 0), (0, 0)] [] s.2 r) (K := (Sum.elim (fun (s : Int × Int × mS) r => mG (d + 1) 80 4 [(3, l0), (1, l1), (1, l2), (1, s.1), (1, s.2.1), (0, 0), (0, 0), (0, 0)] [] s.2.2 r) (fun b r => r = b))) (fun s x r hs hx => TB_Mo_wordOf_11 hC hs hx) mN _ b r h hk
set_option maxRecDepth 100000 in
theorem TB_Mo_wordOf_4 {d : Nat} (hC : ∀ k as σ p, C_Mo_wordOf k as σ = some p → mEx d k as σ p) {l0 l1 l2 l3 l4 : Int} {σ : mS} {b : ((Int × Int × mS) ⊕ (Int × mS))} {r : Int × mS} (h : B_Mo_wordOf_4 l0 l1 l2 l3 l4 σ = some b) (hk : (Sum.elim (fun (s : Int × Int × mS) r => mG (d + 1) 80 4 [(3, l0), (1, l1), (1, l2), (1, s.1), (1, s.2.1), (0, 0), (0, 0), (0, 0)] [] s.2.2 r) (fun b r => r = b)) b r) : mG (d + 1) 80 4 [(3, l0), (1, l1), (1, l2), (1, l3), (1, l4), (0, 0), (0, 0), (0, 0)] [] σ r := by
  refine mblk_ok2 P_Mo_wordOf (F := F_Mo_wordOf_4) (Sum.elim (fun (s : Int × Int × mS) r => mG (d + 1) 80 4 [(3, l0), (1, l1), (1, l2), (1, s.1), (1, s.2.1), (0, 0), (0, 0), (0, 0)] [] s.2.2 r) (fun b r => r = b)) [([(4, 57), (60, 67)], [0, 1, 2])] [(4, 10), (68, 69)] [(3, l0), (1, l1), (1, l2), (1, l3), (1, l4), (0, 0), (0, 0), (0, 0)] (by decide +kernel) rfl hC ?_ (fun v σ b r hb hk => by cases hb; exact hk) _ 4 [(3, l0), (1, l1), (1, l2), (1, l3), (1, l4), (0, 0), (0, 0), (0, 0)] [] σ b r rfl (mJ_self _ _ _) ((E_Mo_wordOf_4 l0 l1 l2 l3 l4 σ).trans h) hk
  intro i L st σ b r hj hb hk
  unfold F_Mo_wordOf_4 at hb
  split at hb
  · have key : ∀ (k0 k1 k2 k3 k4 k5 : Int) (k6 k7 : mV) (σ : mS) (b : ((Int × Int × mS) ⊕ (Int × mS))) (r : Int × mS), mJ [(3, l0), (1, l1), (1, l2), (1, l3), (1, l4), (0, 0), (0, 0), (0, 0)] 11 [(3, k0), (1, k1), (1, k2), (1, k3), (1, k4), (1, k5), k6, k7] [([(4, 57), (60, 67)], [0, 1, 2])] → (M_Mo_wordOf_11 k0 k1 k2 k3 k4 k5 σ) = some b → (Sum.elim (fun (s : Int × Int × mS) r => mG (d + 1) 80 4 [(3, l0), (1, l1), (1, l2), (1, s.1), (1, s.2.1), (0, 0), (0, 0), (0, 0)] [] s.2.2 r) (fun b r => r = b)) b r → mG (d + 1) 80 11 [(3, k0), (1, k1), (1, k2), (1, k3), (1, k4), (1, k5), k6, k7] [] σ r := by
      intro k0 k1 k2 k3 k4 k5 k6 k7 σ b r hj hb hk
      have e0 : k0 = l0 := (Prod.mk.inj (Option.some.inj ((hj.1 rfl).1))).2
      subst e0
      have e1 : k1 = l1 := (Prod.mk.inj (Option.some.inj ((hj.1 rfl).2.1))).2
      subst e1
      have e2 : k2 = l2 := (Prod.mk.inj (Option.some.inj ((hj.1 rfl).2.2.1))).2
      subst e2
      exact (T_Mo_wordOf_11 hC hb hk).lle (lle_cons (lle_cons (lle_cons (lle_cons (lle_cons (lle_cons (lle_dead (lle_dead lle_nil))))))))
    exact key _ _ _ _ _ _ _ _ σ b r hj hb hk
  · cases hb
set_option maxRecDepth 100000 in
theorem T_Mo_wordOf_4 {d : Nat} (hC : ∀ k as σ p, C_Mo_wordOf k as σ = some p → mEx d k as σ p) {l0 l1 l2 l3 l4 : Int} {σ : mS} {b : Int × mS} {r : Int × mS} (h : M_Mo_wordOf_4 l0 l1 l2 l3 l4 σ = some b) (hk : (fun b r => r = b) b r) : mG (d + 1) 80 4 [(3, l0), (1, l1), (1, l2), (1, l3), (1, l4), (0, 0), (0, 0), (0, 0)] [] σ r :=
  miter_ok (G := fun (s : Int × Int × mS) r => mG (d + 1) 80 4 [(3, l0), (1, l1), (1, l2), (1, s.1), (1, s.2.1), (0, 0), (0, 0), (0, 0)] [] s.2.2 r) (K := (fun b r => r = b)) (fun s x r hs hx => TB_Mo_wordOf_4 hC hs hx) mN _ b r h hk
set_option maxRecDepth 100000 in
theorem T_Mo_wordOf_0 {d : Nat} (hC : ∀ k as σ p, C_Mo_wordOf k as σ = some p → mEx d k as σ p) {l0 l1 l2 : Int} {σ : mS} {b : Int × mS} {r : Int × mS} (h : M_Mo_wordOf l0 l1 l2 σ = some b) (hk : (fun b r => r = b) b r) : mG (d + 1) 80 0 (mInit 8 [(3, l0), (1, l1), (1, l2)]) [] σ r := by
  refine mblk_ok1 P_Mo_wordOf (F := F_Mo_wordOf_0) (fun b r => r = b) hC ?_ (fun v σ b r hb hk => by cases hb; exact hk) _ 0 (mInit 8 [(3, l0), (1, l1), (1, l2)]) [] σ b r ((E_Mo_wordOf_0 l0 l1 l2 σ).trans h) hk
  intro i L st σ b r hb hk
  unfold F_Mo_wordOf_0 at hb
  split at hb
  · have key : ∀ (k0 k1 k2 k3 k4 : Int) (k5 k6 k7 : mV) (σ : mS) (b : Int × mS) (r : Int × mS), (M_Mo_wordOf_4 k0 k1 k2 k3 k4 σ) = some b → (fun b r => r = b) b r → mG (d + 1) 80 4 [(3, k0), (1, k1), (1, k2), (1, k3), (1, k4), k5, k6, k7] [] σ r := by
      intro k0 k1 k2 k3 k4 k5 k6 k7 σ b r hb hk
      exact (T_Mo_wordOf_4 hC hb hk).lle (lle_cons (lle_cons (lle_cons (lle_cons (lle_cons (lle_dead (lle_dead (lle_dead lle_nil))))))))
    exact key _ _ _ _ _ _ _ _ σ b r hb hk
  · cases hb
set_option maxRecDepth 100000 in
theorem T_Mo_wordOf {l0 l1 l2 : Int} {σ : mS} {r : Int × mS} (h : M_Mo_wordOf l0 l1 l2 σ = some r) : mEx 1 80 [(3, l0), (1, l1), (1, l2)] σ r :=
  ⟨by rw [P_Mo_wordOf]; exact Nat.le_of_ble_eq_true rfl, by rw [P_Mo_wordOf]; exact T_Mo_wordOf_0 TC_Mo_wordOf h rfl⟩
set_option maxRecDepth 100000 in
theorem P_Mo_splits : mProg 81 = (c_Mo_splits, 6) := rfl
set_option maxRecDepth 100000 in
theorem TC_Mo_splits : ∀ k as σ p, C_Mo_splits k as σ = some p → mEx 1 k as σ p := by
  intro k as σ p hp
  unfold C_Mo_splits at hp
  split at hp
  · exact (T_Mo_isSmall hp).up (Nat.le_of_ble_eq_true rfl)
  · exact (T_Mo_isDigit hp).up (Nat.le_of_ble_eq_true rfl)
  · exact (T_Mo_wordOf hp).up (Nat.le_of_ble_eq_true rfl)
  · cases hp
set_option maxRecDepth 100000 in
theorem T_Mo_splits_127 {d : Nat} (hC : ∀ k as σ p, C_Mo_splits k as σ = some p → mEx d k as σ p) {l0 l1 l4 : Int} {σ : mS} {b : ((Int × mS) ⊕ (Int × mS))} {r : Int × mS} (h : M_Mo_splits_127 l0 l1 l4 σ = some b) (hk : (Sum.elim (fun (s : Int × mS) r => mG (d + 1) 81 5 [(3, l0), (1, l1), (1, s.1), (0, 0), (0, 0), (0, 0)] [] s.2 r) (fun b r => r = b)) b r) : mG (d + 1) 81 127 [(3, l0), (1, l1), (0, 0), (0, 0), (1, l4), (0, 0)] [] σ r := by
  refine mblk_ok2 P_Mo_splits (F := F_Mo_splits_127) (Sum.elim (fun (s : Int × mS) r => mG (d + 1) 81 5 [(3, l0), (1, l1), (1, s.1), (0, 0), (0, 0), (0, 0)] [] s.2 r) (fun b r => r = b)) [([(5, 135)], [0, 1])] [(127, 135)] [(3, l0), (1, l1), (0, 0), (0, 0), (1, l4), (0, 0)] (by decide +kernel) rfl hC ?_ (fun v σ b r hb hk => by cases hb; exact hk) _ 127 [(3, l0), (1, l1), (0, 0), (0, 0), (1, l4), (0, 0)] [] σ b r rfl (mJ_self _ _ _) ((E_Mo_splits_127 l0 l1 l4 σ).trans h) hk
  intro i L st σ b r hj hb hk
  unfold F_Mo_splits_127 at hb
  split at hb
  · have key : ∀ (k0 k1 k2 : Int) (k3 k4 k5 : mV) (σ : mS) (b : ((Int × mS) ⊕ (Int × mS))) (r : Int × mS), mJ [(3, l0), (1, l1), (0, 0), (0, 0), (1, l4), (0, 0)] 5 [(3, k0), (1, k1), (1, k2), k3, k4, k5] [([(5, 135)], [0, 1])] → (some (.inl (k2, σ))) = some b → (Sum.elim (fun (s : Int × mS) r => mG (d + 1) 81 5 [(3, l0), (1, l1), (1, s.1), (0, 0), (0, 0), (0, 0)] [] s.2 r) (fun b r => r = b)) b r → mG (d + 1) 81 5 [(3, k0), (1, k1), (1, k2), k3, k4, k5] [] σ r := by
      intro k0 k1 k2 k3 k4 k5 σ b r hj hb hk
      have e0 : k0 = l0 := (Prod.mk.inj (Option.some.inj ((hj.1 rfl).1))).2
      subst e0
      have e1 : k1 = l1 := (Prod.mk.inj (Option.some.inj ((hj.1 rfl).2.1))).2
      subst e1
      cases hb
      exact mG.lle hk (lle_cons (lle_cons (lle_cons (lle_dead (lle_dead (lle_dead lle_nil))))))
    exact key _ _ _ _ _ _ σ b r hj hb hk
  · cases hb
set_option maxRecDepth 100000 in
theorem TB_Mo_splits_87 {d : Nat} (hC : ∀ k as σ p, C_Mo_splits k as σ = some p → mEx d k as σ p) {l0 l1 l3 l4 l5 : Int} {σ : mS} {b : ((Int × mS) ⊕ ((Int × mS) ⊕ (Int × mS)))} {r : Int × mS} (h : B_Mo_splits_87 l0 l1 l3 l4 l5 σ = some b) (hk : (Sum.elim (fun (s : Int × mS) r => mG (d + 1) 81 87 [(3, l0), (1, l1), (0, 0), (1, l3), (1, l4), (1, s.1)] [] s.2 r) (Sum.elim (fun (s : Int × mS) r => mG (d + 1) 81 5 [(3, l0), (1, l1), (1, s.1), (0, 0), (0, 0), (0, 0)] [] s.2 r) (fun b r => r = b))) b r) : mG (d + 1) 81 87 [(3, l0), (1, l1), (0, 0), (1, l3), (1, l4), (1, l5)] [] σ r := by
  refine mblk_ok2 P_Mo_splits (F := F_Mo_splits_87) (Sum.elim (fun (s : Int × mS) r => mG (d + 1) 81 87 [(3, l0), (1, l1), (0, 0), (1, l3), (1, l4), (1, s.1)] [] s.2 r) (Sum.elim (fun (s : Int × mS) r => mG (d + 1) 81 5 [(3, l0), (1, l1), (1, s.1), (0, 0), (0, 0), (0, 0)] [] s.2 r) (fun b r => r = b))) [([(87, 126)], [0, 1, 3, 4]), ([(5, 135)], [0, 1])] [(87, 126)] [(3, l0), (1, l1), (0, 0), (1, l3), (1, l4), (1, l5)] (by decide +kernel) rfl hC ?_ (fun v σ b r hb hk => by cases hb; exact hk) _ 87 [(3, l0), (1, l1), (0, 0), (1, l3), (1, l4), (1, l5)] [] σ b r rfl (mJ_self _ _ _) ((E_Mo_splits_87 l0 l1 l3 l4 l5 σ).trans h) hk
  intro i L st σ b r hj hb hk
  unfold F_Mo_splits_87 at hb
  split at hb
  · have key : ∀ (k0 k1 k3 k4 k5 : Int) (k2 : mV) (σ : mS) (b : ((Int × mS) ⊕ ((Int × mS) ⊕ (Int × mS)))) (r : Int × mS), mJ [(3, l0), (1, l1), (0, 0), (1, l3), (1, l4), (1, l5)] 87 [(3, k0), (1, k1), k2, (1, k3), (1, k4), (1, k5)] [([(87, 126)], [0, 1, 3, 4]), ([(5, 135)], [0, 1])] → (some (.inl (k5, σ))) = some b → (Sum.elim (fun (s : Int × mS) r => mG (d + 1) 81 87 [(3, l0), (1, l1), (0, 0), (1, l3), (1, l4), (1, s.1)] [] s.2 r) (Sum.elim (fun (s : Int × mS) r => mG (d + 1) 81 5 [(3, l0), (1, l1), (1, s.1), (0, 0), (0, 0), (0, 0)] [] s.2 r) (fun b r => r = b))) b r → mG (d + 1) 81 87 [(3, k0), (1, k1), k2, (1, k3), (1, k4), (1, k5)] [] σ r := by
      intro k0 k1 k3 k4 k5 k2 σ b r hj hb hk
      have e0 : k0 = l0 := (Prod.mk.inj (Option.some.inj ((hj.1 rfl).1))).2
      subst e0
      have e1 : k1 = l1 := (Prod.mk.inj (Option.some.inj ((hj.1 rfl).2.1))).2
      subst e1
      have e3 : k3 = l3 := (Prod.mk.inj (Option.some.inj ((hj.1 rfl).2.2.1))).2
      subst e3
      have e4 : k4 = l4 := (Prod.mk.inj (Option.some.inj ((hj.1 rfl).2.2.2.1))).2
      subst e4
      cases hb
      exact mG.lle hk (lle_cons (lle_cons (lle_dead (lle_cons (lle_cons (lle_cons lle_nil))))))
    exact key _ _ _ _ _ _ σ b r hj hb hk
  · have key : ∀ (k0 k1 k4 : Int) (k2 k3 k5 : mV) (σ : mS) (b : ((Int × mS) ⊕ ((Int × mS) ⊕ (Int × mS)))) (r : Int × mS), mJ [(3, l0), (1, l1), (0, 0), (1, l3), (1, l4), (1, l5)] 127 [(3, k0), (1, k1), k2, k3, (1, k4), k5] [([(87, 126)], [0, 1, 3, 4]), ([(5, 135)], [0, 1])] → ((M_Mo_splits_127 k0 k1 k4 σ).bind fun z => some (.inr z)) = some b → (Sum.elim (fun (s : Int × mS) r => mG (d + 1) 81 87 [(3, l0), (1, l1), (0, 0), (1, l3), (1, l4), (1, s.1)] [] s.2 r) (Sum.elim (fun (s : Int × mS) r => mG (d + 1) 81 5 [(3, l0), (1, l1), (1, s.1), (0, 0), (0, 0), (0, 0)] [] s.2 r) (fun b r => r = b))) b r → mG (d + 1) 81 127 [(3, k0), (1, k1), k2, k3, (1, k4), k5] [] σ r := by
      intro k0 k1 k4 k2 k3 k5 σ b r hj hb hk
      have e0 : k0 = l0 := (Prod.mk.inj (Option.some.inj ((hj.2.1 rfl).1))).2
      subst e0
      have e1 : k1 = l1 := (Prod.mk.inj (Option.some.inj ((hj.2.1 rfl).2.1))).2
      subst e1
      obtain ⟨z, hz, e⟩ := Option.bind_eq_some_iff.mp hb
      cases e
      exact (T_Mo_splits_127 hC hz hk).lle (lle_cons (lle_cons (lle_dead (lle_dead (lle_cons (lle_dead lle_nil))))))
    exact key _ _ _ _ _ _ σ b r hj hb hk
  · cases hb
set_option maxRecDepth 100000 in
theorem T_Mo_splits_87 {d : Nat} (hC : ∀ k as σ p, C_Mo_splits k as σ = some p → mEx d k as σ p) {l0 l1 l3 l4 l5 : Int} {σ : mS} {b : ((Int × mS) ⊕ (Int × mS))} {r : Int × mS} (h : M_Mo_splits_87 l0 l1 l3 l4 l5 σ = some b) (hk : (Sum.elim (fun (s : Int × mS) r => mG (d + 1) 81 5 [(3, l0), (1, l1), (1, s.1), (0, 0), (0, 0), (0, 0)] [] s.2 r) (fun b r => r = b)) b r) : mG (d + 1) 81 87 [(3, l0), (1, l1), (0, 0), (1, l3), (1, l4), (1, l5)] [] σ r :=
  miter_ok (G := fun (s : Int × mS) r => mG (d + 1) 81 87 [(3, l0), (1, l1), (0, 0), (1, l3), (1, l4), (1, s.1)] [] s.2 r) (K := (Sum.elim (fun (s : Int × mS) r => mG (d + 1) 81 5 [(3, l0), (1, l1), (1, s.1), (0, 0), (0, 0), (0, 0)] [] s.2 r) (fun b r => r = b))) (fun s x r hs hx => TB_Mo_splits_87 hC hs hx) mN _ b r h hk
set_option maxRecDepth 100000 in
theorem T_Mo_splits_50 {d : Nat} (hC : ∀ k as σ p, C_Mo_splits k as σ = some p → mEx d k as σ p) {l0 l1 l2 l3 l4 : Int} {σ : mS} {b : ((Int × mS) ⊕ (Int × mS))} {r : Int × mS} (h : M_Mo_splits_50 l0 l1 l2 l3 l4 σ = some b) (hk : (Sum.elim (fun (s : Int × mS) r => mG (d + 1) 81 5 [(3, l0), (1, l1), (1, s.1), (0, 0), (0, 0), (0, 0)] [] s.2 r) (fun b r => r = b)) b r) : mG (d + 1) 81 50 [(3, l0), (1, l1), (1, l2), (1, l3), (1, l4), (0, 0)] [] σ r := by
  refine mblk_ok2 P_Mo_splits (F := F_Mo_splits_50) (Sum.elim (fun (s : Int × mS) r => mG (d + 1) 81 5 [(3, l0), (1, l1), (1, s.1), (0, 0), (0, 0), (0, 0)] [] s.2 r) (fun b r => r = b)) [([(5, 135)], [0, 1])] [(50, 86)] [(3, l0), (1, l1), (1, l2), (1, l3), (1, l4), (0, 0)] (by decide +kernel) rfl hC ?_ (fun v σ b r hb hk => by cases hb; exact hk) _ 50 [(3, l0), (1, l1), (1, l2), (1, l3), (1, l4), (0, 0)] [] σ b r rfl (mJ_self _ _ _) ((E_Mo_splits_50 l0 l1 l2 l3 l4 σ).trans h) hk
  intro i L st σ b r hj hb hk
  unfold F_Mo_splits_50 at hb
  split at hb
  · have key : ∀ (k0 k1 k3 k4 k5 : Int) (k2 : mV) (σ : mS) (b : ((Int × mS) ⊕ (Int × mS))) (r : Int × mS), mJ [(3, l0), (1, l1), (1, l2), (1, l3), (1, l4), (0, 0)] 87 [(3, k0), (1, k1), k2, (1, k3), (1, k4), (1, k5)] [([(5, 135)], [0, 1])] → (M_Mo_splits_87 k0 k1 k3 k4 k5 σ) = some b → (Sum.elim (fun (s : Int × mS) r => mG (d + 1) 81 5 [(3, l0), (1, l1), (1, s.1), (0, 0), (0, 0), (0, 0)] [] s.2 r) (fun b r => r = b)) b r → mG (d + 1) 81 87 [(3, k0), (1, k1), k2, (1, k3), (1, k4), (1, k5)] [] σ r := by
      intro k0 k1 k3 k4 k5 k2 σ b r hj hb hk
      have e0 : k0 = l0 := (Prod.mk.inj (Option.some.inj ((hj.1 rfl).1))).2
      subst e0
      have e1 : k1 = l1 := (Prod.mk.inj (Option.some.inj ((hj.1 rfl).2.1))).2
      subst e1
      exact (T_Mo_splits_87 hC hb hk).lle (lle_cons (lle_cons (lle_dead (lle_cons (lle_cons (lle_cons lle_nil))))))
    exact key _ _ _ _ _ _ σ b r hj hb hk
  · cases hb
set_option maxRecDepth 100000 in
theorem TB_Mo_splits_39 {d : Nat} (hC : ∀ k as σ p, C_Mo_splits k as σ = some p → mEx d k as σ p) {l0 l1 l2 l3 l4 : Int} {σ : mS} {b : ((Int × mS) ⊕ ((Int × mS) ⊕ (Int × mS)))} {r : Int × mS} (h : B_Mo_splits_39 l0 l1 l2 l3 l4 σ = some b) (hk : (Sum.elim (fun (s : Int × mS) r => mG (d + 1) 81 39 [(3, l0), (1, l1), (1, l2), (1, l3), (1, s.1), (0, 0)] [] s.2 r) (Sum.elim (fun (s : Int × mS) r => mG (d + 1) 81 5 [(3, l0), (1, l1), (1, s.1), (0, 0), (0, 0), (0, 0)] [] s.2 r) (fun b r => r = b))) b r) : mG (d + 1) 81 39 [(3, l0), (1, l1), (1, l2), (1, l3), (1, l4), (0, 0)] [] σ r := by
  refine mblk_ok2 P_Mo_splits (F := F_Mo_splits_39) (Sum.elim (fun (s : Int × mS) r => mG (d + 1) 81 39 [(3, l0), (1, l1), (1, l2), (1, l3), (1, s.1), (0, 0)] [] s.2 r) (Sum.elim (fun (s : Int × mS) r => mG (d + 1) 81 5 [(3, l0), (1, l1), (1, s.1), (0, 0), (0, 0), (0, 0)] [] s.2 r) (fun b r => r = b))) [([(39, 49)], [0, 1, 2, 3]), ([(5, 135)], [0, 1])] [(39, 49)] [(3, l0), (1, l1), (1, l2), (1, l3), (1, l4), (0, 0)] (by decide +kernel) rfl hC ?_ (fun v σ b r hb hk => by cases hb; exact hk) _ 39 [(3, l0), (1, l1), (1, l2), (1, l3), (1, l4), (0, 0)] [] σ b r rfl (mJ_self _ _ _) ((E_Mo_splits_39 l0 l1 l2 l3 l4 σ).trans h) hk
  intro i L st σ b r hj hb hk
  unfold F_Mo_splits_39 at hb
  split at hb
  · have key : ∀ (k0 k1 k2 k3 k4 : Int) (k5 : mV) (σ : mS) (b : ((Int × mS) ⊕ ((Int × mS) ⊕ (Int × mS)))) (r : Int × mS), mJ [(3, l0), (1, l1), (1, l2), (1, l3), (1, l4), (0, 0)] 39 [(3, k0), (1, k1), (1, k2), (1, k3), (1, k4), k5] [([(39, 49)], [0, 1, 2, 3]), ([(5, 135)], [0, 1])] → (some (.inl (k4, σ))) = some b → (Sum.elim (fun (s : Int × mS) r => mG (d + 1) 81 39 [(3, l0), (1, l1), (1, l2), (1, l3), (1, s.1), (0, 0)] [] s.2 r) (Sum.elim (fun (s : Int × mS) r => mG (d + 1) 81 5 [(3, l0), (1, l1), (1, s.1), (0, 0), (0, 0), (0, 0)] [] s.2 r) (fun b r => r = b))) b r → mG (d + 1) 81 39 [(3, k0), (1, k1), (1, k2), (1, k3), (1, k4), k5] [] σ r := by
      intro k0 k1 k2 k3 k4 k5 σ b r hj hb hk
      have e0 : k0 = l0 := (Prod.mk.inj (Option.some.inj ((hj.1 rfl).1))).2
      subst e0
      have e1 : k1 = l1 := (Prod.mk.inj (Option.some.inj ((hj.1 rfl).2.1))).2
      subst e1
      have e2 : k2 = l2 := (Prod.mk.inj (Option.some.inj ((hj.1 rfl).2.2.1))).2
      subst e2
      have e3 : k3 = l3 := (Prod.mk.inj (Option.some.inj ((hj.1 rfl).2.2.2.1))).2
      subst e3
      cases hb
      exact mG.lle hk (lle_cons (lle_cons (lle_cons (lle_cons (lle_cons (lle_dead lle_nil))))))
    exact key _ _ _ _ _ _ σ b r hj hb hk
  · have key : ∀ (k0 k1 k2 k3 k4 : Int) (k5 : mV) (σ : mS) (b : ((Int × mS) ⊕ ((Int × mS) ⊕ (Int × mS)))) (r : Int × mS), mJ [(3, l0), (1, l1), (1, l2), (1, l3), (1, l4), (0, 0)] 50 [(3, k0), (1, k1), (1, k2), (1, k3), (1, k4), k5] [([(39, 49)], [0, 1, 2, 3]), ([(5, 135)], [0, 1])] → ((M_Mo_splits_50 k0 k1 k2 k3 k4 σ).bind fun z => some (.inr z)) = some b → (Sum.elim (fun (s : Int × mS) r => mG (d + 1) 81 39 [(3, l0), (1, l1), (1, l2), (1, l3), (1, s.1), (0, 0)] [] s.2 r) (Sum.elim (fun (s : Int × mS) r => mG (d + 1) 81 5 [(3, l0), (1, l1), (1, s.1), (0, 0), (0, 0), (0, 0)] [] s.2 r) (fun b r => r = b))) b r → mG (d + 1) 81 50 [(3, k0), (1, k1), (1, k2), (1, k3), (1, k4), k5] [] σ r := by
      intro k0 k1 k2 k3 k4 k5 σ b r hj hb hk
      have e0 : k0 = l0 := (Prod.mk.inj (Option.some.inj ((hj.2.1 rfl).1))).2
      subst e0
      have e1 : k1 = l1 := (Prod.mk.inj (Option.some.inj ((hj.2.1 rfl).2.1))).2
      subst e1
      obtain ⟨z, hz, e⟩ := Option.bind_eq_some_iff.mp hb
      cases e
      exact (T_Mo_splits_50 hC hz hk).lle (lle_cons (lle_cons (lle_cons (lle_cons (lle_cons (lle_dead lle_nil))))))
    exact key _ _ _ _ _ _ σ b r hj hb hk
  · cases hb
set_option maxRecDepth 100000 in
theorem T_Mo_splits_39 {d : Nat} (hC : ∀ k as σ p, C_Mo_splits k as σ = some p → mEx d k as σ p) {l0 l1 l2 l3 l4 : Int} {σ : mS} {b : ((Int × mS) ⊕ (Int × mS))} {r : Int × mS} (h : M_Mo_splits_39 l0 l1 l2 l3 l4 σ = some b) (hk : (Sum.elim (fun (s : Int × mS) r => mG (d + 1) 81 5 [(3, l0), (1, l1), (1, s.1), (0, 0), (0, 0), (0, 0)] [] s.2 r) (fun b r => r = b)) b r) : mG (d + 1) 81 39 [(3, l0), (1, l1), (1, l2), (1, l3), (1, l4), (0, 0)] [] σ r :=
  miter_ok (G := fun (s : Int × mS) r => mG (d + 1) 81 39 [(3, l0), (1, l1), (1, l2), (1, l3), (1, s.1), (0, 0)] [] s.2 r) (K := (Sum.elim (fun (s : Int × mS) r => mG (d + 1) 81 5 [(3, l0), (1, l1), (1, s.1), (0, 0), (0, 0), (0, 0)] [] s.2 r) (fun b r => r = b))) (fun s x r hs hx => TB_Mo_splits_39 hC hs hx) mN _ b r h hk
set_option maxRecDepth 100000 in
theorem T_Mo_splits_36 {d : Nat} (hC : ∀ k as σ p, C_Mo_splits k as σ = some p → mEx d k as σ p) {l0 l1 l2 l3 l4 : Int} {σ : mS} {b : ((Int × mS) ⊕ (Int × mS))} {r : Int × mS} (h : M_Mo_splits_36 l0 l1 l2 l3 l4 σ = some b) (hk : (Sum.elim (fun (s : Int × mS) r => mG (d + 1) 81 5 [(3, l0), (1, l1), (1, s.1), (0, 0), (0, 0), (0, 0)] [] s.2 r) (fun b r => r = b)) b r) : mG (d + 1) 81 36 [(3, l0), (1, l1), (1, l2), (1, l3), (1, l4), (0, 0)] [] σ r := by
  refine mblk_ok2 P_Mo_splits (F := F_Mo_splits_36) (Sum.elim (fun (s : Int × mS) r => mG (d + 1) 81 5 [(3, l0), (1, l1), (1, s.1), (0, 0), (0, 0), (0, 0)] [] s.2 r) (fun b r => r = b)) [([(5, 135)], [0, 1])] [(36, 38)] [(3, l0), (1, l1), (1, l2), (1, l3), (1, l4), (0, 0)] (by decide +kernel) rfl hC ?_ (fun v σ b r hb hk => by cases hb; exact hk) _ 36 [(3, l0), (1, l1), (1, l2), (1, l3), (1, l4), (0, 0)] [] σ b r rfl (mJ_self _ _ _) ((E_Mo_splits_36 l0 l1 l2 l3 l4 σ).trans h) hk
  intro i L st σ b r hj hb hk
  unfold F_Mo_splits_36 at hb
  split at hb
  · have key : ∀ (k0 k1 k2 k3 k4 : Int) (k5 : mV) (σ : mS) (b : ((Int × mS) ⊕ (Int × mS))) (r : Int × mS), mJ [(3, l0), (1, l1), (1, l2), (1, l3), (1, l4), (0, 0)] 39 [(3, k0), (1, k1), (1, k2), (1, k3), (1, k4), k5] [([(5, 135)], [0, 1])] → (M_Mo_splits_39 k0 k1 k2 k3 k4 σ) = some b → (Sum.elim (fun (s : Int × mS) r => mG (d + 1) 81 5 [(3, l0), (1, l1), (1, s.1), (0, 0), (0, 0), (0, 0)] [] s.2 r) (fun b r => r = b)) b r → mG (d + 1) 81 39 [(3, k0), (1, k1), (1, k2), (1, k3), (1, k4), k5] [] σ r := by
      intro k0 k1 k2 k3 k4 k5 σ b r hj hb hk
      have e0 : k0 = l0 := (Prod.mk.inj (Option.some.inj ((hj.1 rfl).1))).2
      subst e0
      have e1 : k1 = l1 := (Prod.mk.inj (Option.some.inj ((hj.1 rfl).2.1))).2
      subst e1
      exact (T_Mo_splits_39 hC hb hk).lle (lle_cons (lle_cons (lle_cons (lle_cons (lle_cons (lle_dead lle_nil))))))
    exact key _ _ _ _ _ _ σ b r hj hb hk
  · have key : ∀ (k0 k1 k2 k3 k4 : Int) (k5 : mV) (σ : mS) (b : ((Int × mS) ⊕ (Int × mS))) (r : Int × mS), mJ [(3, l0), (1, l1), (1, l2), (1, l3), (1, l4), (0, 0)] 50 [(3, k0), (1, k1), (1, k2), (1, k3), (1, k4), k5] [([(5, 135)], [0, 1])] → (M_Mo_splits_50 k0 k1 k2 k3 k4 σ) = some b → (Sum.elim (fun (s : Int × mS) r => mG (d + 1) 81 5 [(3, l0), (1, l1), (1, s.1), (0, 0), (0, 0), (0, 0)] [] s.2 r) (fun b r => r = b)) b r → mG (d + 1) 81 50 [(3, k0), (1, k1), (1, k2), (1, k3), (1, k4), k5] [] σ r := by
      intro k0 k1 k2 k3 k4 k5 σ b r hj hb hk
      have e0 : k0 = l0 := (Prod.mk.inj (Option.some.inj ((hj.1 rfl).1))).2
      subst e0
      have e1 : k1 = l1 := (Prod.mk.inj (Option.some.inj ((hj.1 rfl).2.1))).2
      subst e1
      exact (T_Mo_splits_50 hC hb hk).lle (lle_cons (lle_cons (lle_cons (lle_cons (lle_cons (lle_dead lle_nil))))))
    exact key _ _ _ _ _ _ σ b r hj hb hk
  · cases hb
set_option maxRecDepth 100000 in
theorem TB_Mo_splits_25 {d : Nat} (hC : ∀ k as σ p, C_Mo_splits k as σ = some p → mEx d k as σ p) {l0 l1 l2 l3 l4 : Int} {σ : mS} {b : ((Int × mS) ⊕ ((Int × mS) ⊕ (Int × mS)))} {r : Int × mS} (h : B_Mo_splits_25 l0 l1 l2 l3 l4 σ = some b) (hk : (Sum.elim (fun (s : Int × mS) r => mG (d + 1) 81 25 [(3, l0), (1, l1), (1, l2), (1, l3), (1, s.1), (0, 0)] [] s.2 r) (Sum.elim (fun (s : Int × mS) r => mG (d + 1) 81 5 [(3, l0), (1, l1), (1, s.1), (0, 0), (0, 0), (0, 0)] [] s.2 r) (fun b r => r = b))) b r) : mG (d + 1) 81 25 [(3, l0), (1, l1), (1, l2), (1, l3), (1, l4), (0, 0)] [] σ r := by
  refine mblk_ok2 P_Mo_splits (F := F_Mo_splits_25) (Sum.elim (fun (s : Int × mS) r => mG (d + 1) 81 25 [(3, l0), (1, l1), (1, l2), (1, l3), (1, s.1), (0, 0)] [] s.2 r) (Sum.elim (fun (s : Int × mS) r => mG (d + 1) 81 5 [(3, l0), (1, l1), (1, s.1), (0, 0), (0, 0), (0, 0)] [] s.2 r) (fun b r => r = b))) [([(25, 35)], [0, 1, 2, 3]), ([(5, 135)], [0, 1])] [(25, 35)] [(3, l0), (1, l1), (1, l2), (1, l3), (1, l4), (0, 0)] (by decide +kernel) rfl hC ?_ (fun v σ b r hb hk => by cases hb; exact hk) _ 25 [(3, l0), (1, l1), (1, l2), (1, l3), (1, l4), (0, 0)] [] σ b r rfl (mJ_self _ _ _) ((E_Mo_splits_25 l0 l1 l2 l3 l4 σ).trans h) hk
  intro i L st σ b r hj hb hk
  unfold F_Mo_splits_25 at hb
  split at hb
  · have key : ∀ (k0 k1 k2 k3 k4 : Int) (k5 : mV) (σ : mS) (b : ((Int × mS) ⊕ ((Int × mS) ⊕ (Int × mS)))) (r : Int × mS), mJ [(3, l0), (1, l1), (1, l2), (1, l3), (1, l4), (0, 0)] 25 [(3, k0), (1, k1), (1, k2), (1, k3), (1, k4), k5] [([(25, 35)], [0, 1, 2, 3]), ([(5, 135)], [0, 1])] → (some (.inl (k4, σ))) = some b → (Sum.elim (fun (s : Int × mS) r => mG (d + 1) 81 25 [(3, l0), (1, l1), (1, l2), (1, l3), (1, s.1), (0, 0)] [] s.2 r) (Sum.elim (fun (s : Int × mS) r => mG (d + 1) 81 5 [(3, l0), (1, l1), (1, s.1), (0, 0), (0, 0), (0, 0)] [] s.2 r) (fun b r => r = b))) b r → mG (d + 1) 81 25 [(3, k0), (1, k1), (1, k2), (1, k3), (1, k4), k5] [] σ r := by
      intro k0 k1 k2 k3 k4 k5 σ b r hj hb hk
      have e0 : k0 = l0 := (Prod.mk.inj (Option.some.inj ((hj.1 rfl).1))).2
      subst e0
      have e1 : k1 = l1 := (Prod.mk.inj (Option.some.inj ((hj.1 rfl).2.1))).2
      subst e1
      have e2 : k2 = l2 := (Prod.mk.inj (Option.some.inj ((hj.1 rfl).2.2.1))).2
      subst e2
      have e3 : k3 = l3 := (Prod.mk.inj (Option.some.inj ((hj.1 rfl).2.2.2.1))).2
      subst e3
      cases hb
      exact mG.lle hk (lle_cons (lle_cons (lle_cons (lle_cons (lle_cons (lle_dead lle_nil))))))
    exact key _ _ _ _ _ _ σ b r hj hb hk
  · have key : ∀ (k0 k1 k2 k3 k4 : Int) (k5 : mV) (σ : mS) (b : ((Int × mS) ⊕ ((Int × mS) ⊕ (Int × mS)))) (r : Int × mS), mJ [(3, l0), (1, l1), (1, l2), (1, l3), (1, l4), (0, 0)] 36 [(3, k0), (1, k1), (1, k2), (1, k3), (1, k4), k5] [([(25, 35)], [0, 1, 2, 3]), ([(5, 135)], [0, 1])] → ((M_Mo_splits_36 k0 k1 k2 k3 k4 σ).bind fun z => some (.inr z)) = some b → (Sum.elim (fun (s : Int × mS) r => mG (d + 1) 81 25 [(3, l0), (1, l1), (1, l2), (1, l3), (1, s.1), (0, 0)] [] s.2 r) (Sum.elim (fun (s : Int × mS) r => mG (d + 1) 81 5 [(3, l0), (1, l1), (1, s.1), (0, 0), (0, 0), (0, 0)] [] s.2 r) (fun b r => r = b))) b r → mG (d + 1) 81 36 [(3, k0), (1, k1), (1, k2), (1, k3), (1, k4), k5] [] σ r := by
      intro k0 k1 k2 k3 k4 k5 σ b r hj hb hk
      have e0 : k0 = l0 := (Prod.mk.inj (Option.some.inj ((hj.2.1 rfl).1))).2
      subst e0
      have e1 : k1 = l1 := (Prod.mk.inj (Option.some.inj ((hj.2.1 rfl).2.1))).2
      subst e1
      obtain ⟨z, hz, e⟩ := Option.bind_eq_some_iff.mp hb
      cases e
      exact (T_Mo_splits_36 hC hz hk).lle (lle_cons (lle_cons (lle_cons (lle_cons (lle_cons (lle_dead lle_nil))))))
    exact key _ _ _ _ _ _ σ b r hj hb hk
  · cases hb
set_option maxRecDepth 100000 in
theorem T_Mo_splits_25 {d : Nat} (hC : ∀ k as σ p, C_Mo_splits k as σ = some p → mEx d k as σ p) {l0 l1 l2 l3 l4 : Int} {σ : mS} {b : ((Int × mS) ⊕ (Int × mS))} {r : Int × mS} (h : M_Mo_splits_25 l0 l1 l2 l3 l4 σ = some b) (hk : (Sum.elim (fun (s : Int × mS) r => mG (d + 1) 81 5 [(3, l0), (1, l1), (1, s.1), (0, 0), (0, 0), (0, 0)] [] s.2 r) (fun b r => r = b)) b r) : mG (d + 1) 81 25 [(3, l0), (1, l1), (1, l2), (1, l3), (1, l4), (0, 0)] [] σ r :=
  miter_ok (G := fun (s : Int × mS) r => mG (d + 1) 81 25 [(3, l0), (1, l1), (1, l2), (1, l3), (1, s.1), (0, 0)] [] s.2 r) (K := (Sum.elim (fun (s : Int × mS) r => mG (d + 1) 81 5 [(3, l0), (1, l1), (1, s.1), (0, 0), (0, 0), (0, 0)] [] s.2 r) (fun b r => r = b))) (fun s x r hs hx => TB_Mo_splits_25 hC hs hx) mN _ b r h hk
set_option maxRecDepth 100000 in
theorem TB_Mo_splits_5 {d : Nat} (hC : ∀ k as σ p, C_Mo_splits k as σ = some p → mEx d k as σ p) {l0 l1 l2 : Int} {σ : mS} {b : ((Int × mS) ⊕ (Int × mS))} {r : Int × mS} (h : B_Mo_splits_5 l0 l1 l2 σ = some b) (hk : (Sum.elim (fun (s : Int × mS) r => mG (d + 1) 81 5 [(3, l0), (1, l1), (1, s.1), (0, 0), (0, 0), (0, 0)] [] s.2 r) (fun b r => r = b)) b r) : mG (d + 1) 81 5 [(3, l0), (1, l1), (1, l2), (0, 0), (0, 0), (0, 0)] [] σ r := by
  refine mblk_ok2 P_Mo_splits (F := F_Mo_splits_5) (Sum.elim (fun (s : Int × mS) r => mG (d + 1) 81 5 [(3, l0), (1, l1), (1, s.1), (0, 0), (0, 0), (0, 0)] [] s.2 r) (fun b r => r = b)) [([(5, 135)], [0, 1])] [(5, 24), (136, 154)] [(3, l0), (1, l1), (1, l2), (0, 0), (0, 0), (0, 0)] (by decide +kernel) rfl hC ?_ (fun v σ b r hb hk => by cases hb; exact hk) _ 5 [(3, l0), (1, l1), (1, l2), (0, 0), (0, 0), (0, 0)] [] σ b r rfl (mJ_self _ _ _) ((E_Mo_splits_5 l0 l1 l2 σ).trans h) hk
  intro i L st σ b r hj hb hk
  unfold F_Mo_splits_5 at hb
  split at hb
  · have key : ∀ (k0 k1 k2 : Int) (k3 k4 k5 : mV) (σ : mS) (b : ((Int × mS) ⊕ (Int × mS))) (r : Int × mS), mJ [(3, l0), (1, l1), (1, l2), (0, 0), (0, 0), (0, 0)] 5 [(3, k0), (1, k1), (1, k2), k3, k4, k5] [([(5, 135)], [0, 1])] → (some (.inl (k2, σ))) = some b → (Sum.elim (fun (s : Int × mS) r => mG (d + 1) 81 5 [(3, l0), (1, l1), (1, s.1), (0, 0), (0, 0), (0, 0)] [] s.2 r) (fun b r => r = b)) b r → mG (d + 1) 81 5 [(3, k0), (1, k1), (1, k2), k3, k4, k5] [] σ r := by
      intro k0 k1 k2 k3 k4 k5 σ b r hj hb hk
      have e0 : k0 = l0 := (Prod.mk.inj (Option.some.inj ((hj.1 rfl).1))).2
      subst e0
      have e1 : k1 = l1 := (Prod.mk.inj (Option.some.inj ((hj.1 rfl).2.1))).2
      subst e1
      cases hb
      exact mG.lle hk (lle_cons (lle_cons (lle_cons (lle_dead (lle_dead (lle_dead lle_nil))))))
    exact key _ _ _ _ _ _ σ b r hj hb hk
  · have key : ∀ (k0 k1 k2 k3 k4 : Int) (k5 : mV) (σ : mS) (b : ((Int × mS) ⊕ (Int × mS))) (r : Int × mS), mJ [(3, l0), (1, l1), (1, l2), (0, 0), (0, 0), (0, 0)] 25 [(3, k0), (1, k1), (1, k2), (1, k3), (1, k4), k5] [([(5, 135)], [0, 1])] → (M_Mo_splits_25 k0 k1 k2 k3 k4 σ) = some b → (Sum.elim (fun (s : Int × mS) r => mG (d + 1) 81 5 [(3, l0), (1, l1), (1, s.1), (0, 0), (0, 0), (0, 0)] [] s.2 r) (fun b r => r = b)) b r → mG (d + 1) 81 25 [(3, k0), (1, k1), (1, k2), (1, k3), (1, k4), k5] [] σ r := by
      intro k0 k1 k2 k3 k4 k5 σ b r hj hb hk
      have e0 : k0 = l0 := (Prod.mk.inj (Option.some.inj ((hj.1 rfl).1))).2
      subst e0
      have e1 : k1 = l1 := (Prod.mk.inj (Option.some.inj ((hj.1 rfl).2.1))).2
      subst e1
      exact (T_Mo_splits_25 hC hb hk).lle (lle_cons (lle_cons (lle_cons (lle_cons (lle_cons (lle_dead lle_nil))))))
    exact key _ _ _ _ _ _ σ b r hj hb hk
  · have key : ∀ (k0 k1 k2 k3 k4 : Int) (k5 : mV) (σ : mS) (b : ((Int × mS) ⊕ (Int × mS))) (r : Int × mS), mJ [(3, l0), (1, l1), (1, l2), (0, 0), (0, 0), (0, 0)] 36 [(3, k0), (1, k1), (1, k2), (1, k3), (1, k4), k5] [([(5, 135)], [0, 1])] → (M_Mo_splits_36 k0 k1 k2 k3 k4 σ) = some b → (Sum.elim (fun (s : Int × mS) r => mG (d + 1) 81 5 [(3, l0), (1, l1), (1, s.1), (0, 0), (0, 0), (0, 0)] [] s.2 r) (fun b r => r = b)) b r → mG (d + 1) 81 36 [(3, k0), (1, k1), (1, k2), (1, k3), (1, k4), k5] [] σ r := by
      intro k0 k1 k2 k3 k4 k5 σ b r hj hb hk
      have e0 : k0 = l0 := (Prod.mk.inj (Option.some.inj ((hj.1 rfl).1))).2
      subst e0
      have e1 : k1 = l1 := (Prod.mk.inj (Option.some.inj ((hj.1 rfl).2.1))).2
      subst e1
      exact (T_Mo_splits_36 hC hb hk).lle (lle_cons (lle_cons (lle_cons (lle_cons (lle_cons (lle_dead lle_nil))))))
    exact key _ _ _ _ _ _ σ b r hj hb hk
  · cases hb
set_option maxRecDepth 100000 in
theorem T_Mo_splits_5 {d : Nat} (hC : ∀ k as σ p, C_Mo_splits k as σ = some p → mEx d k as σ p) {l0 l1 l2 : Int} {σ : mS} {b : Int × mS} {r : Int × mS} (h : M_Mo_splits_5 l0 l1 l2 σ = some b) (hk : (fun b r => r = b) b r) : mG (d + 1) 81 5 [(3, l0), (1, l1), (1, l2), (0, 0), (0, 0), (0, 0)] [] σ r :=
  miter_ok (G := fun (s : Int × mS) r => mG (d + 1) 81 5 [(3, l0), (1, l1), (1, s.1), (0, 0), (0, 0), (0, 0)] [] s.2 r) (K := (fun b r => r = b)) (fun s x r hs hx => TB_Mo_splits_5 hC hs hx) mN _ b r h hk
set_option maxRecDepth 100000 in
theorem T_Mo_splits_0 {d : Nat} (hC : ∀ k as σ p, C_Mo_splits k as σ = some p → mEx d k as σ p) {l0 l1 : Int} {σ : mS} {b : Int × mS} {r : Int × mS} (h : M_Mo_splits l0 l1 σ = some b) (hk : (fun b r => r = b) b r) : mG (d + 1) 81 0 (mInit 6 [(3, l0), (1, l1)]) [] σ r := by
  refine mblk_ok1 P_Mo_splits (F := F_Mo_splits_0) (fun b r => r = b) hC ?_ (fun v σ b r hb hk => by cases hb; exact hk) _ 0 (mInit 6 [(3, l0), (1, l1)]) [] σ b r ((E_Mo_splits_0 l0 l1 σ).trans h) hk
  intro i L st σ b r hb hk
  unfold F_Mo_splits_0 at hb
  split at hb
  · have key : ∀ (k0 k1 k2 : Int) (k3 k4 k5 : mV) (σ : mS) (b : Int × mS) (r : Int × mS), (M_Mo_splits_5 k0 k1 k2 σ) = some b → (fun b r => r = b) b r → mG (d + 1) 81 5 [(3, k0), (1, k1), (1, k2), k3, k4, k5] [] σ r := by
      intro k0 k1 k2 k3 k4 k5 σ b r hb hk
      exact (T_Mo_splits_5 hC hb hk).lle (lle_cons (lle_cons (lle_cons (lle_dead (lle_dead (lle_dead lle_nil))))))
    exact key _ _ _ _ _ _ σ b r hb hk
  · cases hb
set_option maxRecDepth 100000 in
theorem T_Mo_splits {l0 l1 : Int} {σ : mS} {r : Int × mS} (h : M_Mo_splits l0 l1 σ = some r) : mEx 2 81 [(3, l0), (1, l1)] σ r :=
  ⟨by rw [P_Mo_splits]; exact Nat.le_of_ble_eq_true rfl, by rw [P_Mo_splits]; exact T_Mo_splits_0 TC_Mo_splits h rfl⟩
set_option maxRecDepth 100000 in
theorem P_Mo_fine : mProg 82 = (c_Mo_fine, 1) := rfl
set_option maxRecDepth 100000 in
theorem TC_Mo_fine : ∀ k as σ p, C_Mo_fine k as σ = some p → mEx 0 k as σ p := by
  intro k as σ p hp
  cases hp
set_option maxRecDepth 100000 in
theorem T_Mo_fine_0 {d : Nat} (hC : ∀ k as σ p, C_Mo_fine k as σ = some p → mEx d k as σ p) {l0 : Int} {σ : mS} {b : Int × mS} {r : Int × mS} (h : M_Mo_fine l0 σ = some b) (hk : (fun b r => r = b) b r) : mG (d + 1) 82 0 (mInit 1 [(3, l0)]) [] σ r := by
  refine mblk_ok1 P_Mo_fine (F := F_Mo_fine_0) (fun b r => r = b) hC ?_ (fun v σ b r hb hk => by cases hb; exact hk) _ 0 (mInit 1 [(3, l0)]) [] σ b r ((E_Mo_fine_0 l0 σ).trans h) hk
  intro i L st σ b r hb hk
  cases hb
set_option maxRecDepth 100000 in
theorem T_Mo_fine {l0 : Int} {σ : mS} {r : Int × mS} (h : M_Mo_fine l0 σ = some r) : mEx 1 82 [(3, l0)] σ r :=
  ⟨by rw [P_Mo_fine]; exact Nat.le_of_ble_eq_true rfl, by rw [P_Mo_fine]; exact T_Mo_fine_0 TC_Mo_fine h rfl⟩
set_option maxRecDepth 100000 in
theorem P_Mo_faults : mProg 83 = (c_Mo_faults, 1) := rfl
set_option maxRecDepth 100000 in
theorem TC_Mo_faults : ∀ k as σ p, C_Mo_faults k as σ = some p → mEx 1 k as σ p := by
  intro k as σ p hp
  unfold C_Mo_faults at hp
  split at hp
  · exact (T_Mo_fine hp).up (Nat.le_of_ble_eq_true rfl)
  · cases hp
set_option maxRecDepth 100000 in
theorem T_Mo_faults_0 {d : Nat} (hC : ∀ k as σ p, C_Mo_faults k as σ = some p → mEx d k as σ p) {l0 : Int} {σ : mS} {b : Int × mS} {r : Int × mS} (h : M_Mo_faults l0 σ = some b) (hk : (fun b r => r = b) b r) : mG (d + 1) 83 0 (mInit 1 [(3, l0)]) [] σ r := by
  refine mblk_ok1 P_Mo_faults (F := F_Mo_faults_0) (fun b r => r = b) hC ?_ (fun v σ b r hb hk => by cases hb; exact hk) _ 0 (mInit 1 [(3, l0)]) [] σ b r ((E_Mo_faults_0 l0 σ).trans h) hk
  intro i L st σ b r hb hk
  cases hb
set_option maxRecDepth 100000 in
theorem T_Mo_faults {l0 : Int} {σ : mS} {r : Int × mS} (h : M_Mo_faults l0 σ = some r) : mEx 2 83 [(3, l0)] σ r :=
  ⟨by rw [P_Mo_faults]; exact Nat.le_of_ble_eq_true rfl, by rw [P_Mo_faults]; exact T_Mo_faults_0 TC_Mo_faults h rfl⟩
set_option maxRecDepth 100000 in
theorem P_Mo_takes0 : mProg 84 = (c_Mo_takes0, 3) := rfl
set_option maxRecDepth 100000 in
theorem TC_Mo_takes0 : ∀ k as σ p, C_Mo_takes0 k as σ = some p → mEx 1 k as σ p := by
  intro k as σ p hp
  unfold C_Mo_takes0 at hp
  split at hp
  · exact (T_Mo_fine hp).up (Nat.le_of_ble_eq_true rfl)
  · cases hp
set_option maxRecDepth 100000 in
theorem T_Mo_takes0_13 {d : Nat} (hC : ∀ k as σ p, C_Mo_takes0 k as σ = some p → mEx d k as σ p) {l0 s0 : Int} {σ : mS} {b : Int × mS} {r : Int × mS} (h : M_Mo_takes0_13 l0 s0 σ = some b) (hk : (fun b r => r = b) b r) : mG (d + 1) 84 13 [(3, l0), (0, 0), (0, 0)] [(1, s0)] σ r := by
  refine mblk_ok1 P_Mo_takes0 (F := F_Mo_takes0_13) (fun b r => r = b) hC ?_ (fun v σ b r hb hk => by cases hb; exact hk) _ 13 [(3, l0), (0, 0), (0, 0)] [(1, s0)] σ b r ((E_Mo_takes0_13 l0 s0 σ).trans h) hk
  intro i L st σ b r hb hk
  cases hb
set_option maxRecDepth 100000 in
theorem T_Mo_takes0_12 {d : Nat} (hC : ∀ k as σ p, C_Mo_takes0 k as σ = some p → mEx d k as σ p) {l0 : Int} {σ : mS} {b : Int × mS} {r : Int × mS} (h : M_Mo_takes0_12 l0 σ = some b) (hk : (fun b r => r = b) b r) : mG (d + 1) 84 12 [(3, l0), (0, 0), (0, 0)] [] σ r := by
  refine mblk_ok1 P_Mo_takes0 (F := F_Mo_takes0_12) (fun b r => r = b) hC ?_ (fun v σ b r hb hk => by cases hb; exact hk) _ 12 [(3, l0), (0, 0), (0, 0)] [] σ b r ((E_Mo_takes0_12 l0 σ).trans h) hk
  intro i L st σ b r hb hk
  unfold F_Mo_takes0_12 at hb
  split at hb
  · have key : ∀ (k0 u0 : Int) (k1 k2 : mV) (σ : mS) (b : Int × mS) (r : Int × mS), (M_Mo_takes0_13 k0 u0 σ) = some b → (fun b r => r = b) b r → mG (d + 1) 84 13 [(3, k0), k1, k2] [(1, u0)] σ r := by
      intro k0 u0 k1 k2 σ b r hb hk
      exact (T_Mo_takes0_13 hC hb hk).lle (lle_cons (lle_dead (lle_dead lle_nil)))
    exact key _ _ _ _ σ b r hb hk
  · cases hb
set_option maxRecDepth 100000 in
theorem T_Mo_takes0_0 {d : Nat} (hC : ∀ k as σ p, C_Mo_takes0 k as σ = some p → mEx d k as σ p) {l0 l1 : Int} {σ : mS} {b : Int × mS} {r : Int × mS} (h : M_Mo_takes0 l0 l1 σ = some b) (hk : (fun b r => r = b) b r) : mG (d + 1) 84 0 (mInit 3 [(3, l0), (1, l1)]) [] σ r := by
  refine mblk_ok1 P_Mo_takes0 (F := F_Mo_takes0_0) (fun b r => r = b) hC ?_ (fun v σ b r hb hk => by cases hb; exact hk) _ 0 (mInit 3 [(3, l0), (1, l1)]) [] σ b r ((E_Mo_takes0_0 l0 l1 σ).trans h) hk
  intro i L st σ b r hb hk
  unfold F_Mo_takes0_0 at hb
  split at hb
  · have key : ∀ (k0 : Int) (k1 k2 : mV) (σ : mS) (b : Int × mS) (r : Int × mS), (M_Mo_takes0_12 k0 σ) = some b → (fun b r => r = b) b r → mG (d + 1) 84 12 [(3, k0), k1, k2] [] σ r := by
      intro k0 k1 k2 σ b r hb hk
      exact (T_Mo_takes0_12 hC hb hk).lle (lle_cons (lle_dead (lle_dead lle_nil)))
    exact key _ _ _ σ b r hb hk
  · have key : ∀ (k0 u0 : Int) (k1 k2 : mV) (σ : mS) (b : Int × mS) (r : Int × mS), (M_Mo_takes0_13 k0 u0 σ) = some b → (fun b r => r = b) b r → mG (d + 1) 84 13 [(3, k0), k1, k2] [(1, u0)] σ r := by
      intro k0 u0 k1 k2 σ b r hb hk
      exact (T_Mo_takes0_13 hC hb hk).lle (lle_cons (lle_dead (lle_dead lle_nil)))
    exact key _ _ _ _ σ b r hb hk
  · cases hb
set_option maxRecDepth 100000 in
theorem T_Mo_takes0 {l0 l1 : Int} {σ : mS} {r : Int × mS} (h : M_Mo_takes0 l0 l1 σ = some r) : mEx 2 84 [(3, l0), (1, l1)] σ r :=
  ⟨by rw [P_Mo_takes0]; exact Nat.le_of_ble_eq_true rfl, by rw [P_Mo_takes0]; exact T_Mo_takes0_0 TC_Mo_takes0 h rfl⟩
set_option maxRecDepth 100000 in
theorem P_Mo_must : mProg 85 = (c_Mo_must, 2) := rfl
set_option maxRecDepth 100000 in
theorem TC_Mo_must : ∀ k as σ p, C_Mo_must k as σ = some p → mEx 2 k as σ p := by
  intro k as σ p hp
  unfold C_Mo_must at hp
  split at hp
  · exact (T_Mo_faults hp).up (Nat.le_of_ble_eq_true rfl)
  · exact (T_Mo_takes0 hp).up (Nat.le_of_ble_eq_true rfl)
  · cases hp
set_option maxRecDepth 100000 in
theorem T_Mo_must_0 {d : Nat} (hC : ∀ k as σ p, C_Mo_must k as σ = some p → mEx d k as σ p) {l0 l1 : Int} {σ : mS} {b : Int × mS} {r : Int × mS} (h : M_Mo_must l0 l1 σ = some b) (hk : (fun b r => r = b) b r) : mG (d + 1) 85 0 (mInit 2 [(3, l0), (1, l1)]) [] σ r := by
  refine mblk_ok1 P_Mo_must (F := F_Mo_must_0) (fun b r => r = b) hC ?_ (fun v σ b r hb hk => by cases hb; exact hk) _ 0 (mInit 2 [(3, l0), (1, l1)]) [] σ b r ((E_Mo_must_0 l0 l1 σ).trans h) hk
  intro i L st σ b r hb hk
  cases hb
set_option maxRecDepth 100000 in
theorem T_Mo_must {l0 l1 : Int} {σ : mS} {r : Int × mS} (h : M_Mo_must l0 l1 σ = some r) : mEx 3 85 [(3, l0), (1, l1)] σ r :=
  ⟨by rw [P_Mo_must]; exact Nat.le_of_ble_eq_true rfl, by rw [P_Mo_must]; exact T_Mo_must_0 TC_Mo_must h rfl⟩
set_option maxRecDepth 100000 in
theorem P_Mo_leaf : mProg 86 = (c_Mo_leaf, 1) := rfl
set_option maxRecDepth 100000 in
theorem TC_Mo_leaf : ∀ k as σ p, C_Mo_leaf k as σ = some p → mEx 2 k as σ p := by
  intro k as σ p hp
  unfold C_Mo_leaf at hp
  split at hp
  · exact (T_Mo_fine hp).up (Nat.le_of_ble_eq_true rfl)
  · exact (T_Mo_faults hp).up (Nat.le_of_ble_eq_true rfl)
  · cases hp
set_option maxRecDepth 100000 in
theorem T_Mo_leaf_6 {d : Nat} (hC : ∀ k as σ p, C_Mo_leaf k as σ = some p → mEx d k as σ p) {l0 : Int} {σ : mS} {b : Int × mS} {r : Int × mS} (h : M_Mo_leaf_6 l0 σ = some b) (hk : (fun b r => r = b) b r) : mG (d + 1) 86 6 [(3, l0)] [] σ r := by
  refine mblk_ok1 P_Mo_leaf (F := F_Mo_leaf_6) (fun b r => r = b) hC ?_ (fun v σ b r hb hk => by cases hb; exact hk) _ 6 [(3, l0)] [] σ b r ((E_Mo_leaf_6 l0 σ).trans h) hk
  intro i L st σ b r hb hk
  cases hb
set_option maxRecDepth 100000 in
theorem T_Mo_leaf_0 {d : Nat} (hC : ∀ k as σ p, C_Mo_leaf k as σ = some p → mEx d k as σ p) {l0 : Int} {σ : mS} {b : Int × mS} {r : Int × mS} (h : M_Mo_leaf l0 σ = some b) (hk : (fun b r => r = b) b r) : mG (d + 1) 86 0 (mInit 1 [(3, l0)]) [] σ r := by
  refine mblk_ok1 P_Mo_leaf (F := F_Mo_leaf_0) (fun b r => r = b) hC ?_ (fun v σ b r hb hk => by cases hb; exact hk) _ 0 (mInit 1 [(3, l0)]) [] σ b r ((E_Mo_leaf_0 l0 σ).trans h) hk
  intro i L st σ b r hb hk
  unfold F_Mo_leaf_0 at hb
  split at hb
  · have key : ∀ (k0 : Int) (σ : mS) (b : Int × mS) (r : Int × mS), (M_Mo_leaf_6 k0 σ) = some b → (fun b r => r = b) b r → mG (d + 1) 86 6 [(3, k0)] [] σ r := by
      intro k0 σ b r hb hk
      exact (T_Mo_leaf_6 hC hb hk).lle (lle_cons lle_nil)
    exact key _ σ b r hb hk
  · cases hb
set_option maxRecDepth 100000 in
theorem T_Mo_leaf {l0 : Int} {σ : mS} {r : Int × mS} (h : M_Mo_leaf l0 σ = some r) : mEx 3 86 [(3, l0)] σ r :=
  ⟨by rw [P_Mo_leaf]; exact Nat.le_of_ble_eq_true rfl, by rw [P_Mo_leaf]; exact T_Mo_leaf_0 TC_Mo_leaf h rfl⟩
set_option maxRecDepth 100000 in
theorem P_Mo_sign : mProg 87 = (c_Mo_sign, 1) := rfl
set_option maxRecDepth 100000 in
theorem TC_Mo_sign : ∀ k as σ p, C_Mo_sign k as σ = some p → mEx 0 k as σ p := by
  intro k as σ p hp
  cases hp
set_option maxRecDepth 100000 in
theorem T_Mo_sign_0 {d : Nat} (hC : ∀ k as σ p, C_Mo_sign k as σ = some p → mEx d k as σ p) {l0 : Int} {σ : mS} {b : Int × mS} {r : Int × mS} (h : M_Mo_sign l0 σ = some b) (hk : (fun b r => r = b) b r) : mG (d + 1) 87 0 (mInit 1 [(1, l0)]) [] σ r := by
  refine mblk_ok1 P_Mo_sign (F := F_Mo_sign_0) (fun b r => r = b) hC ?_ (fun v σ b r hb hk => by cases hb; exact hk) _ 0 (mInit 1 [(1, l0)]) [] σ b r ((E_Mo_sign_0 l0 σ).trans h) hk
  intro i L st σ b r hb hk
  cases hb
set_option maxRecDepth 100000 in
theorem T_Mo_sign {l0 : Int} {σ : mS} {r : Int × mS} (h : M_Mo_sign l0 σ = some r) : mEx 1 87 [(1, l0)] σ r :=
  ⟨by rw [P_Mo_sign]; exact Nat.le_of_ble_eq_true rfl, by rw [P_Mo_sign]; exact T_Mo_sign_0 TC_Mo_sign h rfl⟩
set_option maxRecDepth 100000 in
theorem P_Mo_readSum : mProg 92 = (c_Mo_readSum, 2) := rfl
set_option maxRecDepth 100000 in
theorem TC_Mo_readSum {G : Nat → List mV → mS → Option (Int × mS)} {d : Nat} (hG : ∀ k as σ p, G k as σ = some p → mEx d k as σ p) (hd : 3 ≤ d) : ∀ k as σ p, C_Mo_readSum G k as σ = some p → mEx d k as σ p := by
  intro k as σ p hp
  unfold C_Mo_readSum at hp
  split at hp
  · exact (T_Mo_takes0 hp).up (Nat.le_trans (Nat.le_of_ble_eq_true rfl) hd)
  · exact (T_Mo_sign hp).up (Nat.le_trans (Nat.le_of_ble_eq_true rfl) hd)
  · exact hG _ _ _ _ hp
  · cases hp
set_option maxRecDepth 100000 in
theorem TB_Mo_readSum_3 {G : Nat → List mV → mS → Option (Int × mS)} {d : Nat} (hC : ∀ k as σ p, C_Mo_readSum G k as σ = some p → mEx d k as σ p) {l0 l1 : Int} {σ : mS} {b : ((mS) ⊕ (Int × mS))} {r : Int × mS} (h : B_Mo_readSum_3 G l0 l1 σ = some b) (hk : (Sum.elim (fun (s : mS) r => mG (d + 1) 92 3 [(3, l0), (1, l1)] [] s r) (fun b r => r = b)) b r) : mG (d + 1) 92 3 [(3, l0), (1, l1)] [] σ r := by
  refine mblk_ok2 P_Mo_readSum (F := F_Mo_readSum_3 G) (Sum.elim (fun (s : mS) r => mG (d + 1) 92 3 [(3, l0), (1, l1)] [] s r) (fun b r => r = b)) [([(3, 16)], [0, 1])] [(3, 17)] [(3, l0), (1, l1)] (by decide +kernel) rfl hC ?_ (fun v σ b r hb hk => by cases hb; exact hk) _ 3 [(3, l0), (1, l1)] [] σ b r rfl (mJ_self _ _ _) ((E_Mo_readSum_3 G l0 l1 σ).trans h) hk
  intro i L st σ b r hj hb hk
  unfold F_Mo_readSum_3 at hb
  split at hb
  · have key : ∀ (k0 k1 : Int) (σ : mS) (b : ((mS) ⊕ (Int × mS))) (r : Int × mS), mJ [(3, l0), (1, l1)] 3 [(3, k0), (1, k1)] [([(3, 16)], [0, 1])] → (some (.inl σ)) = some b → (Sum.elim (fun (s : mS) r => mG (d + 1) 92 3 [(3, l0), (1, l1)] [] s r) (fun b r => r = b)) b r → mG (d + 1) 92 3 [(3, k0), (1, k1)] [] σ r := by
      intro k0 k1 σ b r hj hb hk
      have e0 : k0 = l0 := (Prod.mk.inj (Option.some.inj ((hj.1 rfl).1))).2
      subst e0
      have e1 : k1 = l1 := (Prod.mk.inj (Option.some.inj ((hj.1 rfl).2.1))).2
      subst e1
      cases hb
      exact mG.lle hk (lle_cons (lle_cons lle_nil))
    exact key _ _ σ b r hj hb hk
  · cases hb
set_option maxRecDepth 100000 in
theorem T_Mo_readSum_3 {G : Nat → List mV → mS → Option (Int × mS)} {d : Nat} (hC : ∀ k as σ p, C_Mo_readSum G k as σ = some p → mEx d k as σ p) {l0 l1 : Int} {σ : mS} {b : Int × mS} {r : Int × mS} (h : M_Mo_readSum_3 G l0 l1 σ = some b) (hk : (fun b r => r = b) b r) : mG (d + 1) 92 3 [(3, l0), (1, l1)] [] σ r :=
  miter_ok (G := fun (s : mS) r => mG (d + 1) 92 3 [(3, l0), (1, l1)] [] s r) (K := (fun b r => r = b)) (fun s x r hs hx => TB_Mo_readSum_3 hC hs hx) mN _ b r h hk
set_option maxRecDepth 100000 in
theorem T_Mo_readSum_0 {G : Nat → List mV → mS → Option (Int × mS)} {d : Nat} (hC : ∀ k as σ p, C_Mo_readSum G k as σ = some p → mEx d k as σ p) {l0 l1 : Int} {σ : mS} {b : Int × mS} {r : Int × mS} (h : B_Mo_readSum G l0 l1 σ = some b) (hk : (fun b r => r = b) b r) : mG (d + 1) 92 0 (mInit 2 [(3, l0), (1, l1)]) [] σ r := by
  refine mblk_ok1 P_Mo_readSum (F := F_Mo_readSum_0 G) (fun b r => r = b) hC ?_ (fun v σ b r hb hk => by cases hb; exact hk) _ 0 (mInit 2 [(3, l0), (1, l1)]) [] σ b r ((E_Mo_readSum_0 G l0 l1 σ).trans h) hk
  intro i L st σ b r hb hk
  unfold F_Mo_readSum_0 at hb
  split at hb
  · have key : ∀ (k0 k1 : Int) (σ : mS) (b : Int × mS) (r : Int × mS), (M_Mo_readSum_3 G k0 k1 σ) = some b → (fun b r => r = b) b r → mG (d + 1) 92 3 [(3, k0), (1, k1)] [] σ r := by
      intro k0 k1 σ b r hb hk
      exact (T_Mo_readSum_3 hC hb hk).lle (lle_cons (lle_cons lle_nil))
    exact key _ _ σ b r hb hk
  · cases hb
set_option maxRecDepth 100000 in
theorem T_Mo_readSum {G : Nat → List mV → mS → Option (Int × mS)} {d : Nat} (hG : ∀ k as σ p, G k as σ = some p → mEx d k as σ p) (hd : 3 ≤ d) {l0 l1 : Int} {σ : mS} {r : Int × mS} (h : B_Mo_readSum G l0 l1 σ = some r) : mEx (d + 1) 92 [(3, l0), (1, l1)] σ r :=
  ⟨by rw [P_Mo_readSum]; exact Nat.le_of_ble_eq_true rfl, by rw [P_Mo_readSum]; exact T_Mo_readSum_0 (TC_Mo_readSum hG hd) h rfl⟩
set_option maxRecDepth 100000 in
theorem P_Mo_readTerm : mProg 93 = (c_Mo_readTerm, 2) := rfl
set_option maxRecDepth 100000 in
theorem TC_Mo_readTerm {G : Nat → List mV → mS → Option (Int × mS)} {d : Nat} (hG : ∀ k as σ p, G k as σ = some p → mEx d k as σ p) (hd : 3 ≤ d) : ∀ k as σ p, C_Mo_readTerm G k as σ = some p → mEx d k as σ p := by
  intro k as σ p hp
  unfold C_Mo_readTerm at hp
  split at hp
  · exact (T_Mo_takes0 hp).up (Nat.le_trans (Nat.le_of_ble_eq_true rfl) hd)
  · exact (T_Mo_sign hp).up (Nat.le_trans (Nat.le_of_ble_eq_true rfl) hd)
  · exact hG _ _ _ _ hp
  · cases hp
set_option maxRecDepth 100000 in
theorem TB_Mo_readTerm_3 {G : Nat → List mV → mS → Option (Int × mS)} {d : Nat} (hC : ∀ k as σ p, C_Mo_readTerm G k as σ = some p → mEx d k as σ p) {l0 l1 : Int} {σ : mS} {b : ((mS) ⊕ (Int × mS))} {r : Int × mS} (h : B_Mo_readTerm_3 G l0 l1 σ = some b) (hk : (Sum.elim (fun (s : mS) r => mG (d + 1) 93 3 [(3, l0), (1, l1)] [] s r) (fun b r => r = b)) b r) : mG (d + 1) 93 3 [(3, l0), (1, l1)] [] σ r := by
  refine mblk_ok2 P_Mo_readTerm (F := F_Mo_readTerm_3 G) (Sum.elim (fun (s : mS) r => mG (d + 1) 93 3 [(3, l0), (1, l1)] [] s r) (fun b r => r = b)) [([(3, 16)], [0, 1])] [(3, 17)] [(3, l0), (1, l1)] (by decide +kernel) rfl hC ?_ (fun v σ b r hb hk => by cases hb; exact hk) _ 3 [(3, l0), (1, l1)] [] σ b r rfl (mJ_self _ _ _) ((E_Mo_readTerm_3 G l0 l1 σ).trans h) hk
  intro i L st σ b r hj hb hk
  unfold F_Mo_readTerm_3 at hb
  split at hb
  · have key : ∀ (k0 k1 : Int) (σ : mS) (b : ((mS) ⊕ (Int × mS))) (r : Int × mS), mJ [(3, l0), (1, l1)] 3 [(3, k0), (1, k1)] [([(3, 16)], [0, 1])] → (some (.inl σ)) = some b → (Sum.elim (fun (s : mS) r => mG (d + 1) 93 3 [(3, l0), (1, l1)] [] s r) (fun b r => r = b)) b r → mG (d + 1) 93 3 [(3, k0), (1, k1)] [] σ r := by
      intro k0 k1 σ b r hj hb hk
      have e0 : k0 = l0 := (Prod.mk.inj (Option.some.inj ((hj.1 rfl).1))).2
      subst e0
      have e1 : k1 = l1 := (Prod.mk.inj (Option.some.inj ((hj.1 rfl).2.1))).2
      subst e1
      cases hb
      exact mG.lle hk (lle_cons (lle_cons lle_nil))
    exact key _ _ σ b r hj hb hk
  · cases hb
set_option maxRecDepth 100000 in
theorem T_Mo_readTerm_3 {G : Nat → List mV → mS → Option (Int × mS)} {d : Nat} (hC : ∀ k as σ p, C_Mo_readTerm G k as σ = some p → mEx d k as σ p) {l0 l1 : Int} {σ : mS} {b : Int × mS} {r : Int × mS} (h : M_Mo_readTerm_3 G l0 l1 σ = some b) (hk : (fun b r => r = b) b r) : mG (d + 1) 93 3 [(3, l0), (1, l1)] [] σ r :=
  miter_ok (G := fun (s : mS) r => mG (d + 1) 93 3 [(3, l0), (1, l1)] [] s r) (K := (fun b r => r = b)) (fun s x r hs hx => TB_Mo_readTerm_3 hC hs hx) mN _ b r h hk
set_option maxRecDepth 100000 in
theorem T_Mo_readTerm_0 {G : Nat → List mV → mS → Option (Int × mS)} {d : Nat} (hC : ∀ k as σ p, C_Mo_readTerm G k as σ = some p → mEx d k as σ p) {l0 l1 : Int} {σ : mS} {b : Int × mS} {r : Int × mS} (h : B_Mo_readTerm G l0 l1 σ = some b) (hk : (fun b r => r = b) b r) : mG (d + 1) 93 0 (mInit 2 [(3, l0), (1, l1)]) [] σ r := by
  refine mblk_ok1 P_Mo_readTerm (F := F_Mo_readTerm_0 G) (fun b r => r = b) hC ?_ (fun v σ b r hb hk => by cases hb; exact hk) _ 0 (mInit 2 [(3, l0), (1, l1)]) [] σ b r ((E_Mo_readTerm_0 G l0 l1 σ).trans h) hk
  intro i L st σ b r hb hk
  unfold F_Mo_readTerm_0 at hb
  split at hb
  · have key : ∀ (k0 k1 : Int) (σ : mS) (b : Int × mS) (r : Int × mS), (M_Mo_readTerm_3 G k0 k1 σ) = some b → (fun b r => r = b) b r → mG (d + 1) 93 3 [(3, k0), (1, k1)] [] σ r := by
      intro k0 k1 σ b r hb hk
      exact (T_Mo_readTerm_3 hC hb hk).lle (lle_cons (lle_cons lle_nil))
    exact key _ _ σ b r hb hk
  · cases hb
set_option maxRecDepth 100000 in
theorem T_Mo_readTerm {G : Nat → List mV → mS → Option (Int × mS)} {d : Nat} (hG : ∀ k as σ p, G k as σ = some p → mEx d k as σ p) (hd : 3 ≤ d) {l0 l1 : Int} {σ : mS} {r : Int × mS} (h : B_Mo_readTerm G l0 l1 σ = some r) : mEx (d + 1) 93 [(3, l0), (1, l1)] σ r :=
  ⟨by rw [P_Mo_readTerm]; exact Nat.le_of_ble_eq_true rfl, by rw [P_Mo_readTerm]; exact T_Mo_readTerm_0 (TC_Mo_readTerm hG hd) h rfl⟩
set_option maxRecDepth 100000 in
theorem P_Mo_readPart : mProg 94 = (c_Mo_readPart, 3) := rfl
set_option maxRecDepth 100000 in
theorem TC_Mo_readPart {G : Nat → List mV → mS → Option (Int × mS)} {d : Nat} (hG : ∀ k as σ p, G k as σ = some p → mEx d k as σ p) (hd : 3 ≤ d) : ∀ k as σ p, C_Mo_readPart G k as σ = some p → mEx d k as σ p := by
  intro k as σ p hp
  unfold C_Mo_readPart at hp
  split at hp
  · exact (T_Mo_fine hp).up (Nat.le_trans (Nat.le_of_ble_eq_true rfl) hd)
  · exact (T_Mo_faults hp).up (Nat.le_trans (Nat.le_of_ble_eq_true rfl) hd)
  · exact (T_Mo_must hp).up (Nat.le_trans (Nat.le_of_ble_eq_true rfl) hd)
  · exact (T_Mo_leaf hp).up (Nat.le_trans (Nat.le_of_ble_eq_true rfl) hd)
  · exact (T_Mo_sign hp).up (Nat.le_trans (Nat.le_of_ble_eq_true rfl) hd)
  · exact hG _ _ _ _ hp
  · cases hp
set_option maxRecDepth 100000 in
theorem T_Mo_readPart_49 {G : Nat → List mV → mS → Option (Int × mS)} {d : Nat} (hC : ∀ k as σ p, C_Mo_readPart G k as σ = some p → mEx d k as σ p) {l0 l2 : Int} {σ : mS} {b : Int × mS} {r : Int × mS} (h : M_Mo_readPart_49 G l0 l2 σ = some b) (hk : (fun b r => r = b) b r) : mG (d + 1) 94 49 [(3, l0), (0, 0), (1, l2)] [] σ r := by
  refine mblk_ok1 P_Mo_readPart (F := F_Mo_readPart_49 G) (fun b r => r = b) hC ?_ (fun v σ b r hb hk => by cases hb; exact hk) _ 49 [(3, l0), (0, 0), (1, l2)] [] σ b r ((E_Mo_readPart_49 G l0 l2 σ).trans h) hk
  intro i L st σ b r hb hk
  cases hb
set_option maxRecDepth 100000 in
theorem T_Mo_readPart_19 {G : Nat → List mV → mS → Option (Int × mS)} {d : Nat} (hC : ∀ k as σ p, C_Mo_readPart G k as σ = some p → mEx d k as σ p) {l0 l1 : Int} {σ : mS} {b : Int × mS} {r : Int × mS} (h : M_Mo_readPart_19 G l0 l1 σ = some b) (hk : (fun b r => r = b) b r) : mG (d + 1) 94 19 [(3, l0), (1, l1), (0, 0)] [] σ r := by
  refine mblk_ok1 P_Mo_readPart (F := F_Mo_readPart_19 G) (fun b r => r = b) hC ?_ (fun v σ b r hb hk => by cases hb; exact hk) _ 19 [(3, l0), (1, l1), (0, 0)] [] σ b r ((E_Mo_readPart_19 G l0 l1 σ).trans h) hk
  intro i L st σ b r hb hk
  cases hb
set_option maxRecDepth 100000 in
theorem T_Mo_readPart_0 {G : Nat → List mV → mS → Option (Int × mS)} {d : Nat} (hC : ∀ k as σ p, C_Mo_readPart G k as σ = some p → mEx d k as σ p) {l0 l1 : Int} {σ : mS} {b : Int × mS} {r : Int × mS} (h : B_Mo_readPart G l0 l1 σ = some b) (hk : (fun b r => r = b) b r) : mG (d + 1) 94 0 (mInit 3 [(3, l0), (1, l1)]) [] σ r := by
  refine mblk_ok1 P_Mo_readPart (F := F_Mo_readPart_0 G) (fun b r => r = b) hC ?_ (fun v σ b r hb hk => by cases hb; exact hk) _ 0 (mInit 3 [(3, l0), (1, l1)]) [] σ b r ((E_Mo_readPart_0 G l0 l1 σ).trans h) hk
  intro i L st σ b r hb hk
  unfold F_Mo_readPart_0 at hb
  split at hb
  · have key : ∀ (k0 k1 : Int) (k2 : mV) (σ : mS) (b : Int × mS) (r : Int × mS), (M_Mo_readPart_19 G k0 k1 σ) = some b → (fun b r => r = b) b r → mG (d + 1) 94 19 [(3, k0), (1, k1), k2] [] σ r := by
      intro k0 k1 k2 σ b r hb hk
      exact (T_Mo_readPart_19 hC hb hk).lle (lle_cons (lle_cons (lle_dead lle_nil)))
    exact key _ _ _ σ b r hb hk
  · have key : ∀ (k0 k2 : Int) (k1 : mV) (σ : mS) (b : Int × mS) (r : Int × mS), (M_Mo_readPart_49 G k0 k2 σ) = some b → (fun b r => r = b) b r → mG (d + 1) 94 49 [(3, k0), k1, (1, k2)] [] σ r := by
      intro k0 k2 k1 σ b r hb hk
      exact (T_Mo_readPart_49 hC hb hk).lle (lle_cons (lle_dead (lle_cons lle_nil)))
    exact key _ _ _ σ b r hb hk
  · cases hb
set_option maxRecDepth 100000 in
theorem T_Mo_readPart {G : Nat → List mV → mS → Option (Int × mS)} {d : Nat} (hG : ∀ k as σ p, G k as σ = some p → mEx d k as σ p) (hd : 3 ≤ d) {l0 l1 : Int} {σ : mS} {r : Int × mS} (h : B_Mo_readPart G l0 l1 σ = some r) : mEx (d + 1) 94 [(3, l0), (1, l1)] σ r :=
  ⟨by rw [P_Mo_readPart]; exact Nat.le_of_ble_eq_true rfl, by rw [P_Mo_readPart]; exact T_Mo_readPart_0 (TC_Mo_readPart hG hd) h rfl⟩
set_option maxRecDepth 100000 in
theorem TR_Mo_readSum : ∀ n k as σ r, R_Mo_readSum n k as σ = some r → mEx (3 + n) k as σ r := by
  intro n
  induction n with
  | zero => intro k as σ r h; cases h
  | succ n ih =>
    intro k as σ r h
    unfold R_Mo_readSum at h
    split at h
    · exact T_Mo_readSum ih (Nat.le_add_right _ _) h
    · exact T_Mo_readTerm ih (Nat.le_add_right _ _) h
    · exact T_Mo_readPart ih (Nat.le_add_right _ _) h
    · cases h
set_option maxRecDepth 100000 in
theorem P_Mo_readTest : mProg 89 = (c_Mo_readTest, 2) := rfl
set_option maxRecDepth 100000 in
theorem TC_Mo_readTest {G : Nat → List mV → mS → Option (Int × mS)} {d : Nat} (hG : ∀ k as σ p, G k as σ = some p → mEx d k as σ p) (hd : 63 ≤ d) : ∀ k as σ p, C_Mo_readTest G k as σ = some p → mEx d k as σ p := by
  intro k as σ p hp
  unfold C_Mo_readTest at hp
  split at hp
  · exact (T_Mo_takes0 hp).up (Nat.le_trans (Nat.le_of_ble_eq_true rfl) hd)
  · exact hG _ _ _ _ hp
  · cases hp
set_option maxRecDepth 100000 in
theorem TB_Mo_readTest_3 {G : Nat → List mV → mS → Option (Int × mS)} {d : Nat} (hC : ∀ k as σ p, C_Mo_readTest G k as σ = some p → mEx d k as σ p) {l0 l1 : Int} {σ : mS} {b : ((mS) ⊕ (Int × mS))} {r : Int × mS} (h : B_Mo_readTest_3 G l0 l1 σ = some b) (hk : (Sum.elim (fun (s : mS) r => mG (d + 1) 89 3 [(3, l0), (1, l1)] [] s r) (fun b r => r = b)) b r) : mG (d + 1) 89 3 [(3, l0), (1, l1)] [] σ r := by
  refine mblk_ok2 P_Mo_readTest (F := F_Mo_readTest_3 G) (Sum.elim (fun (s : mS) r => mG (d + 1) 89 3 [(3, l0), (1, l1)] [] s r) (fun b r => r = b)) [([(3, 10)], [0, 1])] [(3, 11)] [(3, l0), (1, l1)] (by decide +kernel) rfl hC ?_ (fun v σ b r hb hk => by cases hb; exact hk) _ 3 [(3, l0), (1, l1)] [] σ b r rfl (mJ_self _ _ _) ((E_Mo_readTest_3 G l0 l1 σ).trans h) hk
  intro i L st σ b r hj hb hk
  unfold F_Mo_readTest_3 at hb
  split at hb
  · have key : ∀ (k0 k1 : Int) (σ : mS) (b : ((mS) ⊕ (Int × mS))) (r : Int × mS), mJ [(3, l0), (1, l1)] 3 [(3, k0), (1, k1)] [([(3, 10)], [0, 1])] → (some (.inl σ)) = some b → (Sum.elim (fun (s : mS) r => mG (d + 1) 89 3 [(3, l0), (1, l1)] [] s r) (fun b r => r = b)) b r → mG (d + 1) 89 3 [(3, k0), (1, k1)] [] σ r := by
      intro k0 k1 σ b r hj hb hk
      have e0 : k0 = l0 := (Prod.mk.inj (Option.some.inj ((hj.1 rfl).1))).2
      subst e0
      have e1 : k1 = l1 := (Prod.mk.inj (Option.some.inj ((hj.1 rfl).2.1))).2
      subst e1
      cases hb
      exact mG.lle hk (lle_cons (lle_cons lle_nil))
    exact key _ _ σ b r hj hb hk
  · cases hb
set_option maxRecDepth 100000 in
theorem T_Mo_readTest_3 {G : Nat → List mV → mS → Option (Int × mS)} {d : Nat} (hC : ∀ k as σ p, C_Mo_readTest G k as σ = some p → mEx d k as σ p) {l0 l1 : Int} {σ : mS} {b : Int × mS} {r : Int × mS} (h : M_Mo_readTest_3 G l0 l1 σ = some b) (hk : (fun b r => r = b) b r) : mG (d + 1) 89 3 [(3, l0), (1, l1)] [] σ r :=
  miter_ok (G := fun (s : mS) r => mG (d + 1) 89 3 [(3, l0), (1, l1)] [] s r) (K := (fun b r => r = b)) (fun s x r hs hx => TB_Mo_readTest_3 hC hs hx) mN _ b r h hk
set_option maxRecDepth 100000 in
theorem T_Mo_readTest_0 {G : Nat → List mV → mS → Option (Int × mS)} {d : Nat} (hC : ∀ k as σ p, C_Mo_readTest G k as σ = some p → mEx d k as σ p) {l0 l1 : Int} {σ : mS} {b : Int × mS} {r : Int × mS} (h : B_Mo_readTest G l0 l1 σ = some b) (hk : (fun b r => r = b) b r) : mG (d + 1) 89 0 (mInit 2 [(3, l0), (1, l1)]) [] σ r := by
  refine mblk_ok1 P_Mo_readTest (F := F_Mo_readTest_0 G) (fun b r => r = b) hC ?_ (fun v σ b r hb hk => by cases hb; exact hk) _ 0 (mInit 2 [(3, l0), (1, l1)]) [] σ b r ((E_Mo_readTest_0 G l0 l1 σ).trans h) hk
  intro i L st σ b r hb hk
  unfold F_Mo_readTest_0 at hb
  split at hb
  · have key : ∀ (k0 k1 : Int) (σ : mS) (b : Int × mS) (r : Int × mS), (M_Mo_readTest_3 G k0 k1 σ) = some b → (fun b r => r = b) b r → mG (d + 1) 89 3 [(3, k0), (1, k1)] [] σ r := by
      intro k0 k1 σ b r hb hk
      exact (T_Mo_readTest_3 hC hb hk).lle (lle_cons (lle_cons lle_nil))
    exact key _ _ σ b r hb hk
  · cases hb
set_option maxRecDepth 100000 in
theorem T_Mo_readTest {G : Nat → List mV → mS → Option (Int × mS)} {d : Nat} (hG : ∀ k as σ p, G k as σ = some p → mEx d k as σ p) (hd : 63 ≤ d) {l0 l1 : Int} {σ : mS} {r : Int × mS} (h : B_Mo_readTest G l0 l1 σ = some r) : mEx (d + 1) 89 [(3, l0), (1, l1)] σ r :=
  ⟨by rw [P_Mo_readTest]; exact Nat.le_of_ble_eq_true rfl, by rw [P_Mo_readTest]; exact T_Mo_readTest_0 (TC_Mo_readTest hG hd) h rfl⟩
set_option maxRecDepth 100000 in
theorem P_Mo_readBoth : mProg 90 = (c_Mo_readBoth, 2) := rfl
set_option maxRecDepth 100000 in
theorem TC_Mo_readBoth {G : Nat → List mV → mS → Option (Int × mS)} {d : Nat} (hG : ∀ k as σ p, G k as σ = some p → mEx d k as σ p) (hd : 63 ≤ d) : ∀ k as σ p, C_Mo_readBoth G k as σ = some p → mEx d k as σ p := by
  intro k as σ p hp
  unfold C_Mo_readBoth at hp
  split at hp
  · exact (T_Mo_takes0 hp).up (Nat.le_trans (Nat.le_of_ble_eq_true rfl) hd)
  · exact hG _ _ _ _ hp
  · cases hp
set_option maxRecDepth 100000 in
theorem TB_Mo_readBoth_3 {G : Nat → List mV → mS → Option (Int × mS)} {d : Nat} (hC : ∀ k as σ p, C_Mo_readBoth G k as σ = some p → mEx d k as σ p) {l0 l1 : Int} {σ : mS} {b : ((mS) ⊕ (Int × mS))} {r : Int × mS} (h : B_Mo_readBoth_3 G l0 l1 σ = some b) (hk : (Sum.elim (fun (s : mS) r => mG (d + 1) 90 3 [(3, l0), (1, l1)] [] s r) (fun b r => r = b)) b r) : mG (d + 1) 90 3 [(3, l0), (1, l1)] [] σ r := by
  refine mblk_ok2 P_Mo_readBoth (F := F_Mo_readBoth_3 G) (Sum.elim (fun (s : mS) r => mG (d + 1) 90 3 [(3, l0), (1, l1)] [] s r) (fun b r => r = b)) [([(3, 10)], [0, 1])] [(3, 11)] [(3, l0), (1, l1)] (by decide +kernel) rfl hC ?_ (fun v σ b r hb hk => by cases hb; exact hk) _ 3 [(3, l0), (1, l1)] [] σ b r rfl (mJ_self _ _ _) ((E_Mo_readBoth_3 G l0 l1 σ).trans h) hk
  intro i L st σ b r hj hb hk
  unfold F_Mo_readBoth_3 at hb
  split at hb
  · have key : ∀ (k0 k1 : Int) (σ : mS) (b : ((mS) ⊕ (Int × mS))) (r : Int × mS), mJ [(3, l0), (1, l1)] 3 [(3, k0), (1, k1)] [([(3, 10)], [0, 1])] → (some (.inl σ)) = some b → (Sum.elim (fun (s : mS) r => mG (d + 1) 90 3 [(3, l0), (1, l1)] [] s r) (fun b r => r = b)) b r → mG (d + 1) 90 3 [(3, k0), (1, k1)] [] σ r := by
      intro k0 k1 σ b r hj hb hk
      have e0 : k0 = l0 := (Prod.mk.inj (Option.some.inj ((hj.1 rfl).1))).2
      subst e0
      have e1 : k1 = l1 := (Prod.mk.inj (Option.some.inj ((hj.1 rfl).2.1))).2
      subst e1
      cases hb
      exact mG.lle hk (lle_cons (lle_cons lle_nil))
    exact key _ _ σ b r hj hb hk
  · cases hb
set_option maxRecDepth 100000 in
theorem T_Mo_readBoth_3 {G : Nat → List mV → mS → Option (Int × mS)} {d : Nat} (hC : ∀ k as σ p, C_Mo_readBoth G k as σ = some p → mEx d k as σ p) {l0 l1 : Int} {σ : mS} {b : Int × mS} {r : Int × mS} (h : M_Mo_readBoth_3 G l0 l1 σ = some b) (hk : (fun b r => r = b) b r) : mG (d + 1) 90 3 [(3, l0), (1, l1)] [] σ r :=
  miter_ok (G := fun (s : mS) r => mG (d + 1) 90 3 [(3, l0), (1, l1)] [] s r) (K := (fun b r => r = b)) (fun s x r hs hx => TB_Mo_readBoth_3 hC hs hx) mN _ b r h hk
set_option maxRecDepth 100000 in
theorem T_Mo_readBoth_0 {G : Nat → List mV → mS → Option (Int × mS)} {d : Nat} (hC : ∀ k as σ p, C_Mo_readBoth G k as σ = some p → mEx d k as σ p) {l0 l1 : Int} {σ : mS} {b : Int × mS} {r : Int × mS} (h : B_Mo_readBoth G l0 l1 σ = some b) (hk : (fun b r => r = b) b r) : mG (d + 1) 90 0 (mInit 2 [(3, l0), (1, l1)]) [] σ r := by
  refine mblk_ok1 P_Mo_readBoth (F := F_Mo_readBoth_0 G) (fun b r => r = b) hC ?_ (fun v σ b r hb hk => by cases hb; exact hk) _ 0 (mInit 2 [(3, l0), (1, l1)]) [] σ b r ((E_Mo_readBoth_0 G l0 l1 σ).trans h) hk
  intro i L st σ b r hb hk
  unfold F_Mo_readBoth_0 at hb
  split at hb
  · have key : ∀ (k0 k1 : Int) (σ : mS) (b : Int × mS) (r : Int × mS), (M_Mo_readBoth_3 G k0 k1 σ) = some b → (fun b r => r = b) b r → mG (d + 1) 90 3 [(3, k0), (1, k1)] [] σ r := by
      intro k0 k1 σ b r hb hk
      exact (T_Mo_readBoth_3 hC hb hk).lle (lle_cons (lle_cons lle_nil))
    exact key _ _ σ b r hb hk
  · cases hb
set_option maxRecDepth 100000 in
theorem T_Mo_readBoth {G : Nat → List mV → mS → Option (Int × mS)} {d : Nat} (hG : ∀ k as σ p, G k as σ = some p → mEx d k as σ p) (hd : 63 ≤ d) {l0 l1 : Int} {σ : mS} {r : Int × mS} (h : B_Mo_readBoth G l0 l1 σ = some r) : mEx (d + 1) 90 [(3, l0), (1, l1)] σ r :=
  ⟨by rw [P_Mo_readBoth]; exact Nat.le_of_ble_eq_true rfl, by rw [P_Mo_readBoth]; exact T_Mo_readBoth_0 (TC_Mo_readBoth hG hd) h rfl⟩
set_option maxRecDepth 100000 in
theorem P_Mo_readPlain : mProg 91 = (c_Mo_readPlain, 4) := rfl
set_option maxRecDepth 100000 in
theorem TC_Mo_readPlain {G : Nat → List mV → mS → Option (Int × mS)} {d : Nat} (hG : ∀ k as σ p, G k as σ = some p → mEx d k as σ p) (hd : 63 ≤ d) : ∀ k as σ p, C_Mo_readPlain G k as σ = some p → mEx d k as σ p := by
  intro k as σ p hp
  unfold C_Mo_readPlain at hp
  split at hp
  · exact (T_Mo_fine hp).up (Nat.le_trans (Nat.le_of_ble_eq_true rfl) hd)
  · exact (T_Mo_faults hp).up (Nat.le_trans (Nat.le_of_ble_eq_true rfl) hd)
  · exact (T_Mo_takes0 hp).up (Nat.le_trans (Nat.le_of_ble_eq_true rfl) hd)
  · exact (T_Mo_must hp).up (Nat.le_trans (Nat.le_of_ble_eq_true rfl) hd)
  · exact (T_Mo_sign hp).up (Nat.le_trans (Nat.le_of_ble_eq_true rfl) hd)
  · exact hG _ _ _ _ hp
  · exact (TR_Mo_readSum _ _ _ _ _ hp).up (by rw [mD_eq]; exact Nat.le_trans (Nat.le_of_ble_eq_true rfl) hd)
  · cases hp
set_option maxRecDepth 100000 in
theorem T_Mo_readPlain_28 {G : Nat → List mV → mS → Option (Int × mS)} {d : Nat} (hC : ∀ k as σ p, C_Mo_readPlain G k as σ = some p → mEx d k as σ p) {l0 l1 : Int} {σ : mS} {b : Int × mS} {r : Int × mS} (h : M_Mo_readPlain_28 G l0 l1 σ = some b) (hk : (fun b r => r = b) b r) : mG (d + 1) 91 28 [(3, l0), (1, l1), (0, 0), (0, 0)] [] σ r := by
  refine mblk_ok1 P_Mo_readPlain (F := F_Mo_readPlain_28 G) (fun b r => r = b) hC ?_ (fun v σ b r hb hk => by cases hb; exact hk) _ 28 [(3, l0), (1, l1), (0, 0), (0, 0)] [] σ b r ((E_Mo_readPlain_28 G l0 l1 σ).trans h) hk
  intro i L st σ b r hb hk
  cases hb
set_option maxRecDepth 100000 in
theorem TB_Mo_readPlain_2 {G : Nat → List mV → mS → Option (Int × mS)} {d : Nat} (hC : ∀ k as σ p, C_Mo_readPlain G k as σ = some p → mEx d k as σ p) {l0 l1 l2 : Int} {σ : mS} {b : ((Int × mS) ⊕ (Int × mS))} {r : Int × mS} (h : B_Mo_readPlain_2 G l0 l1 l2 σ = some b) (hk : (Sum.elim (fun (s : Int × mS) r => mG (d + 1) 91 2 [(3, l0), (1, l1), (1, s.1), (0, 0)] [] s.2 r) (fun b r => r = b)) b r) : mG (d + 1) 91 2 [(3, l0), (1, l1), (1, l2), (0, 0)] [] σ r := by
  refine mblk_ok2 P_Mo_readPlain (F := F_Mo_readPlain_2 G) (Sum.elim (fun (s : Int × mS) r => mG (d + 1) 91 2 [(3, l0), (1, l1), (1, s.1), (0, 0)] [] s.2 r) (fun b r => r = b)) [([(2, 8)], [0, 1])] [(2, 27), (48, 68)] [(3, l0), (1, l1), (1, l2), (0, 0)] (by decide +kernel) rfl hC ?_ (fun v σ b r hb hk => by cases hb; exact hk) _ 2 [(3, l0), (1, l1), (1, l2), (0, 0)] [] σ b r rfl (mJ_self _ _ _) ((E_Mo_readPlain_2 G l0 l1 l2 σ).trans h) hk
  intro i L st σ b r hj hb hk
  unfold F_Mo_readPlain_2 at hb
  split at hb
  · have key : ∀ (k0 k1 k2 : Int) (k3 : mV) (σ : mS) (b : ((Int × mS) ⊕ (Int × mS))) (r : Int × mS), mJ [(3, l0), (1, l1), (1, l2), (0, 0)] 2 [(3, k0), (1, k1), (1, k2), k3] [([(2, 8)], [0, 1])] → (some (.inl (k2, σ))) = some b → (Sum.elim (fun (s : Int × mS) r => mG (d + 1) 91 2 [(3, l0), (1, l1), (1, s.1), (0, 0)] [] s.2 r) (fun b r => r = b)) b r → mG (d + 1) 91 2 [(3, k0), (1, k1), (1, k2), k3] [] σ r := by
      intro k0 k1 k2 k3 σ b r hj hb hk
      have e0 : k0 = l0 := (Prod.mk.inj (Option.some.inj ((hj.1 rfl).1))).2
      subst e0
      have e1 : k1 = l1 := (Prod.mk.inj (Option.some.inj ((hj.1 rfl).2.1))).2
      subst e1
      cases hb
      exact mG.lle hk (lle_cons (lle_cons (lle_cons (lle_dead lle_nil))))
    exact key _ _ _ _ σ b r hj hb hk
  · have key : ∀ (k0 k1 : Int) (k2 k3 : mV) (σ : mS) (b : ((Int × mS) ⊕ (Int × mS))) (r : Int × mS), mJ [(3, l0), (1, l1), (1, l2), (0, 0)] 28 [(3, k0), (1, k1), k2, k3] [([(2, 8)], [0, 1])] → ((M_Mo_readPlain_28 G k0 k1 σ).bind fun z => some (.inr z)) = some b → (Sum.elim (fun (s : Int × mS) r => mG (d + 1) 91 2 [(3, l0), (1, l1), (1, s.1), (0, 0)] [] s.2 r) (fun b r => r = b)) b r → mG (d + 1) 91 28 [(3, k0), (1, k1), k2, k3] [] σ r := by
      intro k0 k1 k2 k3 σ b r hj hb hk
      obtain ⟨z, hz, e⟩ := Option.bind_eq_some_iff.mp hb
      cases e
      exact (T_Mo_readPlain_28 hC hz hk).lle (lle_cons (lle_cons (lle_dead (lle_dead lle_nil))))
    exact key _ _ _ _ σ b r hj hb hk
  · cases hb
set_option maxRecDepth 100000 in
theorem T_Mo_readPlain_2 {G : Nat → List mV → mS → Option (Int × mS)} {d : Nat} (hC : ∀ k as σ p, C_Mo_readPlain G k as σ = some p → mEx d k as σ p) {l0 l1 l2 : Int} {σ : mS} {b : Int × mS} {r : Int × mS} (h : M_Mo_readPlain_2 G l0 l1 l2 σ = some b) (hk : (fun b r => r = b) b r) : mG (d + 1) 91 2 [(3, l0), (1, l1), (1, l2), (0, 0)] [] σ r :=
  miter_ok (G := fun (s : Int × mS) r => mG (d + 1) 91 2 [(3, l0), (1, l1), (1, s.1), (0, 0)] [] s.2 r) (K := (fun b r => r = b)) (fun s x r hs hx => TB_Mo_readPlain_2 hC hs hx) mN _ b r h hk
set_option maxRecDepth 100000 in
theorem T_Mo_readPlain_0 {G : Nat → List mV → mS → Option (Int × mS)} {d : Nat} (hC : ∀ k as σ p, C_Mo_readPlain G k as σ = some p → mEx d k as σ p) {l0 l1 : Int} {σ : mS} {b : Int × mS} {r : Int × mS} (h : B_Mo_readPlain G l0 l1 σ = some b) (hk : (fun b r => r = b) b r) : mG (d + 1) 91 0 (mInit 4 [(3, l0), (1, l1)]) [] σ r := by
  refine mblk_ok1 P_Mo_readPlain (F := F_Mo_readPlain_0 G) (fun b r => r = b) hC ?_ (fun v σ b r hb hk => by cases hb; exact hk) _ 0 (mInit 4 [(3, l0), (1, l1)]) [] σ b r ((E_Mo_readPlain_0 G l0 l1 σ).trans h) hk
  intro i L st σ b r hb hk
  unfold F_Mo_readPlain_0 at hb
  split at hb
  · have key : ∀ (k0 k1 k2 : Int) (k3 : mV) (σ : mS) (b : Int × mS) (r : Int × mS), (M_Mo_readPlain_2 G k0 k1 k2 σ) = some b → (fun b r => r = b) b r → mG (d + 1) 91 2 [(3, k0), (1, k1), (1, k2), k3] [] σ r := by
      intro k0 k1 k2 k3 σ b r hb hk
      exact (T_Mo_readPlain_2 hC hb hk).lle (lle_cons (lle_cons (lle_cons (lle_dead lle_nil))))
    exact key _ _ _ _ σ b r hb hk
  · cases hb
set_option maxRecDepth 100000 in
theorem T_Mo_readPlain {G : Nat → List mV → mS → Option (Int × mS)} {d : Nat} (hG : ∀ k as σ p, G k as σ = some p → mEx d k as σ p) (hd : 63 ≤ d) {l0 l1 : Int} {σ : mS} {r : Int × mS} (h : B_Mo_readPlain G l0 l1 σ = some r) : mEx (d + 1) 91 [(3, l0), (1, l1)] σ r :=
  ⟨by rw [P_Mo_readPlain]; exact Nat.le_of_ble_eq_true rfl, by rw [P_Mo_readPlain]; exact T_Mo_readPlain_0 (TC_Mo_readPlain hG hd) h rfl⟩
set_option maxRecDepth 100000 in
theorem TR_Mo_readTest : ∀ n k as σ r, R_Mo_readTest n k as σ = some r → mEx (63 + n) k as σ r := by
  intro n
  induction n with
  | zero => intro k as σ r h; cases h
  | succ n ih =>
    intro k as σ r h
    unfold R_Mo_readTest at h
    split at h
    · exact T_Mo_readTest ih (Nat.le_add_right _ _) h
    · exact T_Mo_readBoth ih (Nat.le_add_right _ _) h
    · exact T_Mo_readPlain ih (Nat.le_add_right _ _) h
    · cases h
set_option maxRecDepth 100000 in
theorem P_Mo_readClause : mProg 88 = (c_Mo_readClause, 1) := rfl
set_option maxRecDepth 100000 in
theorem TC_Mo_readClause : ∀ k as σ p, C_Mo_readClause k as σ = some p → mEx 123 k as σ p := by
  intro k as σ p hp
  unfold C_Mo_readClause at hp
  split at hp
  · exact (T_Mo_takes0 hp).up (Nat.le_of_ble_eq_true rfl)
  · exact (T_Mo_must hp).up (Nat.le_of_ble_eq_true rfl)
  · exact (TR_Mo_readTest _ _ _ _ _ hp).up (by rw [mD_eq]; exact Nat.le_of_ble_eq_true rfl)
  · exact (TR_Mo_readSum _ _ _ _ _ hp).up (by rw [mD_eq]; exact Nat.le_of_ble_eq_true rfl)
  · cases hp
set_option maxRecDepth 100000 in
theorem T_Mo_readClause_0 {d : Nat} (hC : ∀ k as σ p, C_Mo_readClause k as σ = some p → mEx d k as σ p) {l0 : Int} {σ : mS} {b : Int × mS} {r : Int × mS} (h : M_Mo_readClause l0 σ = some b) (hk : (fun b r => r = b) b r) : mG (d + 1) 88 0 (mInit 1 [(3, l0)]) [] σ r := by
  refine mblk_ok1 P_Mo_readClause (F := F_Mo_readClause_0) (fun b r => r = b) hC ?_ (fun v σ b r hb hk => by cases hb; exact hk) _ 0 (mInit 1 [(3, l0)]) [] σ b r ((E_Mo_readClause_0 l0 σ).trans h) hk
  intro i L st σ b r hb hk
  cases hb
set_option maxRecDepth 100000 in
theorem T_Mo_readClause {l0 : Int} {σ : mS} {r : Int × mS} (h : M_Mo_readClause l0 σ = some r) : mEx 124 88 [(3, l0)] σ r :=
  ⟨by rw [P_Mo_readClause]; exact Nat.le_of_ble_eq_true rfl, by rw [P_Mo_readClause]; exact T_Mo_readClause_0 TC_Mo_readClause h rfl⟩
set_option maxRecDepth 100000 in
theorem P_Mo_reads : mProg 95 = (c_Mo_reads, 2) := rfl
set_option maxRecDepth 100000 in
theorem TC_Mo_reads : ∀ k as σ p, C_Mo_reads k as σ = some p → mEx 124 k as σ p := by
  intro k as σ p hp
  unfold C_Mo_reads at hp
  split at hp
  · exact (T_Mo_splits hp).up (Nat.le_of_ble_eq_true rfl)
  · exact (T_Mo_fine hp).up (Nat.le_of_ble_eq_true rfl)
  · exact (T_Mo_faults hp).up (Nat.le_of_ble_eq_true rfl)
  · exact (T_Mo_takes0 hp).up (Nat.le_of_ble_eq_true rfl)
  · exact (T_Mo_sign hp).up (Nat.le_of_ble_eq_true rfl)
  · exact (T_Mo_readClause hp).up (Nat.le_of_ble_eq_true rfl)
  · cases hp
set_option maxRecDepth 100000 in
theorem T_Mo_reads_47 {d : Nat} (hC : ∀ k as σ p, C_Mo_reads k as σ = some p → mEx d k as σ p) {l0 : Int} {σ : mS} {b : Int × mS} {r : Int × mS} (h : M_Mo_reads_47 l0 σ = some b) (hk : (fun b r => r = b) b r) : mG (d + 1) 95 47 [(3, l0), (0, 0)] [] σ r := by
  refine mblk_ok1 P_Mo_reads (F := F_Mo_reads_47) (fun b r => r = b) hC ?_ (fun v σ b r hb hk => by cases hb; exact hk) _ 47 [(3, l0), (0, 0)] [] σ b r ((E_Mo_reads_47 l0 σ).trans h) hk
  intro i L st σ b r hb hk
  cases hb
set_option maxRecDepth 100000 in
theorem T_Mo_reads_30 {d : Nat} (hC : ∀ k as σ p, C_Mo_reads k as σ = some p → mEx d k as σ p) {l0 l1 : Int} {σ : mS} {b : ((Int × mS) ⊕ (Int × mS))} {r : Int × mS} (h : M_Mo_reads_30 l0 l1 σ = some b) (hk : (Sum.elim (fun (s : Int × mS) r => mG (d + 1) 95 20 [(3, l0), (1, s.1)] [] s.2 r) (fun b r => r = b)) b r) : mG (d + 1) 95 30 [(3, l0), (1, l1)] [] σ r := by
  refine mblk_ok2 P_Mo_reads (F := F_Mo_reads_30) (Sum.elim (fun (s : Int × mS) r => mG (d + 1) 95 20 [(3, l0), (1, s.1)] [] s.2 r) (fun b r => r = b)) [([(20, 36)], [0])] [(30, 36)] [(3, l0), (1, l1)] (by decide +kernel) rfl hC ?_ (fun v σ b r hb hk => by cases hb; exact hk) _ 30 [(3, l0), (1, l1)] [] σ b r rfl (mJ_self _ _ _) ((E_Mo_reads_30 l0 l1 σ).trans h) hk
  intro i L st σ b r hj hb hk
  unfold F_Mo_reads_30 at hb
  split at hb
  · have key : ∀ (k0 k1 : Int) (σ : mS) (b : ((Int × mS) ⊕ (Int × mS))) (r : Int × mS), mJ [(3, l0), (1, l1)] 20 [(3, k0), (1, k1)] [([(20, 36)], [0])] → (some (.inl (k1, σ))) = some b → (Sum.elim (fun (s : Int × mS) r => mG (d + 1) 95 20 [(3, l0), (1, s.1)] [] s.2 r) (fun b r => r = b)) b r → mG (d + 1) 95 20 [(3, k0), (1, k1)] [] σ r := by
      intro k0 k1 σ b r hj hb hk
      have e0 : k0 = l0 := (Prod.mk.inj (Option.some.inj ((hj.1 rfl).1))).2
      subst e0
      cases hb
      exact mG.lle hk (lle_cons (lle_cons lle_nil))
    exact key _ _ σ b r hj hb hk
  · cases hb
set_option maxRecDepth 100000 in
theorem TB_Mo_reads_20 {d : Nat} (hC : ∀ k as σ p, C_Mo_reads k as σ = some p → mEx d k as σ p) {l0 l1 : Int} {σ : mS} {b : ((Int × mS) ⊕ (Int × mS))} {r : Int × mS} (h : B_Mo_reads_20 l0 l1 σ = some b) (hk : (Sum.elim (fun (s : Int × mS) r => mG (d + 1) 95 20 [(3, l0), (1, s.1)] [] s.2 r) (fun b r => r = b)) b r) : mG (d + 1) 95 20 [(3, l0), (1, l1)] [] σ r := by
  refine mblk_ok2 P_Mo_reads (F := F_Mo_reads_20) (Sum.elim (fun (s : Int × mS) r => mG (d + 1) 95 20 [(3, l0), (1, s.1)] [] s.2 r) (fun b r => r = b)) [([(20, 36)], [0])] [(20, 29), (37, 46)] [(3, l0), (1, l1)] (by decide +kernel) rfl hC ?_ (fun v σ b r hb hk => by cases hb; exact hk) _ 20 [(3, l0), (1, l1)] [] σ b r rfl (mJ_self _ _ _) ((E_Mo_reads_20 l0 l1 σ).trans h) hk
  intro i L st σ b r hj hb hk
  unfold F_Mo_reads_20 at hb
  split at hb
  · have key : ∀ (k0 k1 : Int) (σ : mS) (b : ((Int × mS) ⊕ (Int × mS))) (r : Int × mS), mJ [(3, l0), (1, l1)] 30 [(3, k0), (1, k1)] [([(20, 36)], [0])] → (M_Mo_reads_30 k0 k1 σ) = some b → (Sum.elim (fun (s : Int × mS) r => mG (d + 1) 95 20 [(3, l0), (1, s.1)] [] s.2 r) (fun b r => r = b)) b r → mG (d + 1) 95 30 [(3, k0), (1, k1)] [] σ r := by
      intro k0 k1 σ b r hj hb hk
      have e0 : k0 = l0 := (Prod.mk.inj (Option.some.inj ((hj.1 rfl).1))).2
      subst e0
      exact (T_Mo_reads_30 hC hb hk).lle (lle_cons (lle_cons lle_nil))
    exact key _ _ σ b r hj hb hk
  · have key : ∀ (k0 : Int) (k1 : mV) (σ : mS) (b : ((Int × mS) ⊕ (Int × mS))) (r : Int × mS), mJ [(3, l0), (1, l1)] 47 [(3, k0), k1] [([(20, 36)], [0])] → ((M_Mo_reads_47 k0 σ).bind fun z => some (.inr z)) = some b → (Sum.elim (fun (s : Int × mS) r => mG (d + 1) 95 20 [(3, l0), (1, s.1)] [] s.2 r) (fun b r => r = b)) b r → mG (d + 1) 95 47 [(3, k0), k1] [] σ r := by
      intro k0 k1 σ b r hj hb hk
      obtain ⟨z, hz, e⟩ := Option.bind_eq_some_iff.mp hb
      cases e
      exact (T_Mo_reads_47 hC hz hk).lle (lle_cons (lle_dead lle_nil))
    exact key _ _ σ b r hj hb hk
  · cases hb
set_option maxRecDepth 100000 in
theorem T_Mo_reads_20 {d : Nat} (hC : ∀ k as σ p, C_Mo_reads k as σ = some p → mEx d k as σ p) {l0 l1 : Int} {σ : mS} {b : Int × mS} {r : Int × mS} (h : M_Mo_reads_20 l0 l1 σ = some b) (hk : (fun b r => r = b) b r) : mG (d + 1) 95 20 [(3, l0), (1, l1)] [] σ r :=
  miter_ok (G := fun (s : Int × mS) r => mG (d + 1) 95 20 [(3, l0), (1, s.1)] [] s.2 r) (K := (fun b r => r = b)) (fun s x r hs hx => TB_Mo_reads_20 hC hs hx) mN _ b r h hk
set_option maxRecDepth 100000 in
theorem T_Mo_reads_0 {d : Nat} (hC : ∀ k as σ p, C_Mo_reads k as σ = some p → mEx d k as σ p) {l0 : Int} {σ : mS} {b : Int × mS} {r : Int × mS} (h : M_Mo_reads l0 σ = some b) (hk : (fun b r => r = b) b r) : mG (d + 1) 95 0 (mInit 2 [(3, l0)]) [] σ r := by
  refine mblk_ok1 P_Mo_reads (F := F_Mo_reads_0) (fun b r => r = b) hC ?_ (fun v σ b r hb hk => by cases hb; exact hk) _ 0 (mInit 2 [(3, l0)]) [] σ b r ((E_Mo_reads_0 l0 σ).trans h) hk
  intro i L st σ b r hb hk
  unfold F_Mo_reads_0 at hb
  split at hb
  · have key : ∀ (k0 k1 : Int) (σ : mS) (b : Int × mS) (r : Int × mS), (M_Mo_reads_20 k0 k1 σ) = some b → (fun b r => r = b) b r → mG (d + 1) 95 20 [(3, k0), (1, k1)] [] σ r := by
      intro k0 k1 σ b r hb hk
      exact (T_Mo_reads_20 hC hb hk).lle (lle_cons (lle_cons lle_nil))
    exact key _ _ σ b r hb hk
  · cases hb
set_option maxRecDepth 100000 in
theorem T_Mo_reads {l0 : Int} {σ : mS} {r : Int × mS} (h : M_Mo_reads l0 σ = some r) : mEx 125 95 [(3, l0)] σ r :=
  ⟨by rw [P_Mo_reads]; exact Nat.le_of_ble_eq_true rfl, by rw [P_Mo_reads]; exact T_Mo_reads_0 TC_Mo_reads h rfl⟩
set_option maxRecDepth 100000 in
theorem P_Mo_law : mProg 96 = (c_Mo_law, 3) := rfl
set_option maxRecDepth 100000 in
theorem TC_Mo_law : ∀ k as σ p, C_Mo_law k as σ = some p → mEx 125 k as σ p := by
  intro k as σ p hp
  unfold C_Mo_law at hp
  split at hp
  · exact (T_Mo_refuses hp).up (Nat.le_of_ble_eq_true rfl)
  · exact (T_Mo_good hp).up (Nat.le_of_ble_eq_true rfl)
  · exact (T_Mo_reads hp).up (Nat.le_of_ble_eq_true rfl)
  · cases hp
set_option maxRecDepth 100000 in
theorem TB_Mo_law_35 {d : Nat} (hC : ∀ k as σ p, C_Mo_law k as σ = some p → mEx d k as σ p) {l0 l1 l2 : Int} {σ : mS} {b : ((Int × mS) ⊕ (Int × mS))} {r : Int × mS} (h : B_Mo_law_35 l0 l1 l2 σ = some b) (hk : (Sum.elim (fun (s : Int × mS) r => mG (d + 1) 96 35 [(3, l0), (1, l1), (1, s.1)] [] s.2 r) (fun b r => r = b)) b r) : mG (d + 1) 96 35 [(3, l0), (1, l1), (1, l2)] [] σ r := by
  refine mblk_ok2 P_Mo_law (F := F_Mo_law_35) (Sum.elim (fun (s : Int × mS) r => mG (d + 1) 96 35 [(3, l0), (1, l1), (1, s.1)] [] s.2 r) (fun b r => r = b)) [([(35, 68)], [0, 1])] [(35, 80)] [(3, l0), (1, l1), (1, l2)] (by decide +kernel) rfl hC ?_ (fun v σ b r hb hk => by cases hb; exact hk) _ 35 [(3, l0), (1, l1), (1, l2)] [] σ b r rfl (mJ_self _ _ _) ((E_Mo_law_35 l0 l1 l2 σ).trans h) hk
  intro i L st σ b r hj hb hk
  unfold F_Mo_law_35 at hb
  split at hb
  · have key : ∀ (k0 k1 k2 : Int) (σ : mS) (b : ((Int × mS) ⊕ (Int × mS))) (r : Int × mS), mJ [(3, l0), (1, l1), (1, l2)] 35 [(3, k0), (1, k1), (1, k2)] [([(35, 68)], [0, 1])] → (some (.inl (k2, σ))) = some b → (Sum.elim (fun (s : Int × mS) r => mG (d + 1) 96 35 [(3, l0), (1, l1), (1, s.1)] [] s.2 r) (fun b r => r = b)) b r → mG (d + 1) 96 35 [(3, k0), (1, k1), (1, k2)] [] σ r := by
      intro k0 k1 k2 σ b r hj hb hk
      have e0 : k0 = l0 := (Prod.mk.inj (Option.some.inj ((hj.1 rfl).1))).2
      subst e0
      have e1 : k1 = l1 := (Prod.mk.inj (Option.some.inj ((hj.1 rfl).2.1))).2
      subst e1
      cases hb
      exact mG.lle hk (lle_cons (lle_cons (lle_cons lle_nil)))
    exact key _ _ _ σ b r hj hb hk
  · cases hb
set_option maxRecDepth 100000 in
theorem T_Mo_law_35 {d : Nat} (hC : ∀ k as σ p, C_Mo_law k as σ = some p → mEx d k as σ p) {l0 l1 l2 : Int} {σ : mS} {b : Int × mS} {r : Int × mS} (h : M_Mo_law_35 l0 l1 l2 σ = some b) (hk : (fun b r => r = b) b r) : mG (d + 1) 96 35 [(3, l0), (1, l1), (1, l2)] [] σ r :=
  miter_ok (G := fun (s : Int × mS) r => mG (d + 1) 96 35 [(3, l0), (1, l1), (1, s.1)] [] s.2 r) (K := (fun b r => r = b)) (fun s x r hs hx => TB_Mo_law_35 hC hs hx) mN _ b r h hk
set_option maxRecDepth 100000 in
theorem T_Mo_law_0 {d : Nat} (hC : ∀ k as σ p, C_Mo_law k as σ = some p → mEx d k as σ p) {l0 : Int} {σ : mS} {b : Int × mS} {r : Int × mS} (h : M_Mo_law l0 σ = some b) (hk : (fun b r => r = b) b r) : mG (d + 1) 96 0 (mInit 3 [(3, l0)]) [] σ r := by
  refine mblk_ok1 P_Mo_law (F := F_Mo_law_0) (fun b r => r = b) hC ?_ (fun v σ b r hb hk => by cases hb; exact hk) _ 0 (mInit 3 [(3, l0)]) [] σ b r ((E_Mo_law_0 l0 σ).trans h) hk
  intro i L st σ b r hb hk
  unfold F_Mo_law_0 at hb
  split at hb
  · have key : ∀ (k0 k1 k2 : Int) (σ : mS) (b : Int × mS) (r : Int × mS), (M_Mo_law_35 k0 k1 k2 σ) = some b → (fun b r => r = b) b r → mG (d + 1) 96 35 [(3, k0), (1, k1), (1, k2)] [] σ r := by
      intro k0 k1 k2 σ b r hb hk
      exact (T_Mo_law_35 hC hb hk).lle (lle_cons (lle_cons (lle_cons lle_nil)))
    exact key _ _ _ σ b r hb hk
  · cases hb
set_option maxRecDepth 100000 in
theorem T_Mo_law {l0 : Int} {σ : mS} {r : Int × mS} (h : M_Mo_law l0 σ = some r) : mEx 126 96 [(3, l0)] σ r :=
  ⟨by rw [P_Mo_law]; exact Nat.le_of_ble_eq_true rfl, by rw [P_Mo_law]; exact T_Mo_law_0 TC_Mo_law h rfl⟩
set_option maxRecDepth 100000 in
theorem P_Mo_fault : mProg 97 = (c_Mo_fault, 1) := rfl
set_option maxRecDepth 100000 in
theorem TC_Mo_fault : ∀ k as σ p, C_Mo_fault k as σ = some p → mEx 0 k as σ p := by
  intro k as σ p hp
  cases hp
set_option maxRecDepth 100000 in
theorem T_Mo_fault_0 {d : Nat} (hC : ∀ k as σ p, C_Mo_fault k as σ = some p → mEx d k as σ p) {l0 : Int} {σ : mS} {b : Int × mS} {r : Int × mS} (h : M_Mo_fault l0 σ = some b) (hk : (fun b r => r = b) b r) : mG (d + 1) 97 0 (mInit 1 [(3, l0)]) [] σ r := by
  refine mblk_ok1 P_Mo_fault (F := F_Mo_fault_0) (fun b r => r = b) hC ?_ (fun v σ b r hb hk => by cases hb; exact hk) _ 0 (mInit 1 [(3, l0)]) [] σ b r ((E_Mo_fault_0 l0 σ).trans h) hk
  intro i L st σ b r hb hk
  cases hb
set_option maxRecDepth 100000 in
theorem T_Mo_fault {l0 : Int} {σ : mS} {r : Int × mS} (h : M_Mo_fault l0 σ = some r) : mEx 1 97 [(3, l0)] σ r :=
  ⟨by rw [P_Mo_fault]; exact Nat.le_of_ble_eq_true rfl, by rw [P_Mo_fault]; exact T_Mo_fault_0 TC_Mo_fault h rfl⟩
set_option maxRecDepth 100000 in
theorem P_Mo_force : mProg 98 = (c_Mo_force, 3) := rfl
set_option maxRecDepth 100000 in
theorem TC_Mo_force : ∀ k as σ p, C_Mo_force k as σ = some p → mEx 1 k as σ p := by
  intro k as σ p hp
  unfold C_Mo_force at hp
  split at hp
  · exact (T_Mo_lies hp).up (Nat.le_of_ble_eq_true rfl)
  · exact (T_Mo_refuses hp).up (Nat.le_of_ble_eq_true rfl)
  · exact (T_Mo_good hp).up (Nat.le_of_ble_eq_true rfl)
  · cases hp
set_option maxRecDepth 100000 in
theorem T_Mo_force_0 {d : Nat} (hC : ∀ k as σ p, C_Mo_force k as σ = some p → mEx d k as σ p) {l0 l1 : Int} {σ : mS} {b : Int × mS} {r : Int × mS} (h : M_Mo_force l0 l1 σ = some b) (hk : (fun b r => r = b) b r) : mG (d + 1) 98 0 (mInit 3 [(3, l0), (1, l1)]) [] σ r := by
  refine mblk_ok1 P_Mo_force (F := F_Mo_force_0) (fun b r => r = b) hC ?_ (fun v σ b r hb hk => by cases hb; exact hk) _ 0 (mInit 3 [(3, l0), (1, l1)]) [] σ b r ((E_Mo_force_0 l0 l1 σ).trans h) hk
  intro i L st σ b r hb hk
  cases hb
set_option maxRecDepth 100000 in
theorem T_Mo_force {l0 l1 : Int} {σ : mS} {r : Int × mS} (h : M_Mo_force l0 l1 σ = some r) : mEx 2 98 [(3, l0), (1, l1)] σ r :=
  ⟨by rw [P_Mo_force]; exact Nat.le_of_ble_eq_true rfl, by rw [P_Mo_force]; exact T_Mo_force_0 TC_Mo_force h rfl⟩
set_option maxRecDepth 100000 in
theorem P_Mo_codeAt : mProg 99 = (c_Mo_codeAt, 2) := rfl
set_option maxRecDepth 100000 in
theorem TC_Mo_codeAt : ∀ k as σ p, C_Mo_codeAt k as σ = some p → mEx 0 k as σ p := by
  intro k as σ p hp
  cases hp
set_option maxRecDepth 100000 in
theorem T_Mo_codeAt_0 {d : Nat} (hC : ∀ k as σ p, C_Mo_codeAt k as σ = some p → mEx d k as σ p) {l0 l1 : Int} {σ : mS} {b : Int × mS} {r : Int × mS} (h : M_Mo_codeAt l0 l1 σ = some b) (hk : (fun b r => r = b) b r) : mG (d + 1) 99 0 (mInit 2 [(3, l0), (1, l1)]) [] σ r := by
  refine mblk_ok1 P_Mo_codeAt (F := F_Mo_codeAt_0) (fun b r => r = b) hC ?_ (fun v σ b r hb hk => by cases hb; exact hk) _ 0 (mInit 2 [(3, l0), (1, l1)]) [] σ b r ((E_Mo_codeAt_0 l0 l1 σ).trans h) hk
  intro i L st σ b r hb hk
  cases hb
set_option maxRecDepth 100000 in
theorem T_Mo_codeAt {l0 l1 : Int} {σ : mS} {r : Int × mS} (h : M_Mo_codeAt l0 l1 σ = some r) : mEx 1 99 [(3, l0), (1, l1)] σ r :=
  ⟨by rw [P_Mo_codeAt]; exact Nat.le_of_ble_eq_true rfl, by rw [P_Mo_codeAt]; exact T_Mo_codeAt_0 TC_Mo_codeAt h rfl⟩
set_option maxRecDepth 100000 in
theorem P_Mo_passes0 : mProg 100 = (c_Mo_passes0, 3) := rfl
set_option maxRecDepth 100000 in
theorem TC_Mo_passes0 : ∀ k as σ p, C_Mo_passes0 k as σ = some p → mEx 1 k as σ p := by
  intro k as σ p hp
  unfold C_Mo_passes0 at hp
  split at hp
  · exact (T_Mo_codeAt hp).up (Nat.le_of_ble_eq_true rfl)
  · cases hp
set_option maxRecDepth 100000 in
theorem T_Mo_passes0_9 {d : Nat} (hC : ∀ k as σ p, C_Mo_passes0 k as σ = some p → mEx d k as σ p) {l0 s0 : Int} {σ : mS} {b : Int × mS} {r : Int × mS} (h : M_Mo_passes0_9 l0 s0 σ = some b) (hk : (fun b r => r = b) b r) : mG (d + 1) 100 9 [(3, l0), (0, 0), (0, 0)] [(1, s0)] σ r := by
  refine mblk_ok1 P_Mo_passes0 (F := F_Mo_passes0_9) (fun b r => r = b) hC ?_ (fun v σ b r hb hk => by cases hb; exact hk) _ 9 [(3, l0), (0, 0), (0, 0)] [(1, s0)] σ b r ((E_Mo_passes0_9 l0 s0 σ).trans h) hk
  intro i L st σ b r hb hk
  cases hb
set_option maxRecDepth 100000 in
theorem T_Mo_passes0_0 {d : Nat} (hC : ∀ k as σ p, C_Mo_passes0 k as σ = some p → mEx d k as σ p) {l0 l1 : Int} {σ : mS} {b : Int × mS} {r : Int × mS} (h : M_Mo_passes0 l0 l1 σ = some b) (hk : (fun b r => r = b) b r) : mG (d + 1) 100 0 (mInit 3 [(3, l0), (1, l1)]) [] σ r := by
  refine mblk_ok1 P_Mo_passes0 (F := F_Mo_passes0_0) (fun b r => r = b) hC ?_ (fun v σ b r hb hk => by cases hb; exact hk) _ 0 (mInit 3 [(3, l0), (1, l1)]) [] σ b r ((E_Mo_passes0_0 l0 l1 σ).trans h) hk
  intro i L st σ b r hb hk
  unfold F_Mo_passes0_0 at hb
  split at hb
  · have key : ∀ (k0 u0 : Int) (k1 k2 : mV) (σ : mS) (b : Int × mS) (r : Int × mS), (M_Mo_passes0_9 k0 u0 σ) = some b → (fun b r => r = b) b r → mG (d + 1) 100 9 [(3, k0), k1, k2] [(1, u0)] σ r := by
      intro k0 u0 k1 k2 σ b r hb hk
      exact (T_Mo_passes0_9 hC hb hk).lle (lle_cons (lle_dead (lle_dead lle_nil)))
    exact key _ _ _ _ σ b r hb hk
  · cases hb
set_option maxRecDepth 100000 in
theorem T_Mo_passes0 {l0 l1 : Int} {σ : mS} {r : Int × mS} (h : M_Mo_passes0 l0 l1 σ = some r) : mEx 2 100 [(3, l0), (1, l1)] σ r :=
  ⟨by rw [P_Mo_passes0]; exact Nat.le_of_ble_eq_true rfl, by rw [P_Mo_passes0]; exact T_Mo_passes0_0 TC_Mo_passes0 h rfl⟩
set_option maxRecDepth 100000 in
theorem P_Mo_bounded : mProg 101 = (c_Mo_bounded, 4) := rfl
set_option maxRecDepth 100000 in
theorem TC_Mo_bounded : ∀ k as σ p, C_Mo_bounded k as σ = some p → mEx 0 k as σ p := by
  intro k as σ p hp
  cases hp
set_option maxRecDepth 100000 in
theorem T_Mo_bounded_13 {d : Nat} (hC : ∀ k as σ p, C_Mo_bounded k as σ = some p → mEx d k as σ p) {l0 l1 : Int} {σ : mS} {b : Int × mS} {r : Int × mS} (h : M_Mo_bounded_13 l0 l1 σ = some b) (hk : (fun b r => r = b) b r) : mG (d + 1) 101 13 [(3, l0), (2, l1), (0, 0), (0, 0)] [] σ r := by
  refine mblk_ok1 P_Mo_bounded (F := F_Mo_bounded_13) (fun b r => r = b) hC ?_ (fun v σ b r hb hk => by cases hb; exact hk) _ 13 [(3, l0), (2, l1), (0, 0), (0, 0)] [] σ b r ((E_Mo_bounded_13 l0 l1 σ).trans h) hk
  intro i L st σ b r hb hk
  cases hb
set_option maxRecDepth 100000 in
theorem T_Mo_bounded_10 {d : Nat} (hC : ∀ k as σ p, C_Mo_bounded k as σ = some p → mEx d k as σ p) {l0 l1 : Int} {σ : mS} {b : Int × mS} {r : Int × mS} (h : M_Mo_bounded_10 l0 l1 σ = some b) (hk : (fun b r => r = b) b r) : mG (d + 1) 101 10 [(3, l0), (2, l1), (0, 0), (0, 0)] [] σ r := by
  refine mblk_ok1 P_Mo_bounded (F := F_Mo_bounded_10) (fun b r => r = b) hC ?_ (fun v σ b r hb hk => by cases hb; exact hk) _ 10 [(3, l0), (2, l1), (0, 0), (0, 0)] [] σ b r ((E_Mo_bounded_10 l0 l1 σ).trans h) hk
  intro i L st σ b r hb hk
  unfold F_Mo_bounded_10 at hb
  split at hb
  · have key : ∀ (k0 k1 : Int) (k2 k3 : mV) (σ : mS) (b : Int × mS) (r : Int × mS), (M_Mo_bounded_13 k0 k1 σ) = some b → (fun b r => r = b) b r → mG (d + 1) 101 13 [(3, k0), (2, k1), k2, k3] [] σ r := by
      intro k0 k1 k2 k3 σ b r hb hk
      exact (T_Mo_bounded_13 hC hb hk).lle (lle_cons (lle_cons (lle_dead (lle_dead lle_nil))))
    exact key _ _ _ _ σ b r hb hk
  · cases hb
set_option maxRecDepth 100000 in
theorem T_Mo_bounded_0 {d : Nat} (hC : ∀ k as σ p, C_Mo_bounded k as σ = some p → mEx d k as σ p) {l0 l1 l3 : Int} {σ : mS} {b : Int × mS} {r : Int × mS} (h : M_Mo_bounded l0 l1 l3 σ = some b) (hk : (fun b r => r = b) b r) : mG (d + 1) 101 0 (mInit 4 [(3, l0), (2, l1), (1, l3)]) [] σ r := by
  refine mblk_ok1 P_Mo_bounded (F := F_Mo_bounded_0) (fun b r => r = b) hC ?_ (fun v σ b r hb hk => by cases hb; exact hk) _ 0 (mInit 4 [(3, l0), (2, l1), (1, l3)]) [] σ b r ((E_Mo_bounded_0 l0 l1 l3 σ).trans h) hk
  intro i L st σ b r hb hk
  unfold F_Mo_bounded_0 at hb
  split at hb
  · have key : ∀ (k0 k1 : Int) (k2 k3 : mV) (σ : mS) (b : Int × mS) (r : Int × mS), (M_Mo_bounded_10 k0 k1 σ) = some b → (fun b r => r = b) b r → mG (d + 1) 101 10 [(3, k0), (2, k1), k2, k3] [] σ r := by
      intro k0 k1 k2 k3 σ b r hb hk
      exact (T_Mo_bounded_10 hC hb hk).lle (lle_cons (lle_cons (lle_dead (lle_dead lle_nil))))
    exact key _ _ _ _ σ b r hb hk
  · have key : ∀ (k0 k1 : Int) (k2 k3 : mV) (σ : mS) (b : Int × mS) (r : Int × mS), (M_Mo_bounded_13 k0 k1 σ) = some b → (fun b r => r = b) b r → mG (d + 1) 101 13 [(3, k0), (2, k1), k2, k3] [] σ r := by
      intro k0 k1 k2 k3 σ b r hb hk
      exact (T_Mo_bounded_13 hC hb hk).lle (lle_cons (lle_cons (lle_dead (lle_dead lle_nil))))
    exact key _ _ _ _ σ b r hb hk
  · cases hb
set_option maxRecDepth 100000 in
theorem T_Mo_bounded {l0 l1 l3 : Int} {σ : mS} {r : Int × mS} (h : M_Mo_bounded l0 l1 l3 σ = some r) : mEx 1 101 [(3, l0), (2, l1), (1, l3)] σ r :=
  ⟨by rw [P_Mo_bounded]; exact Nat.le_of_ble_eq_true rfl, by rw [P_Mo_bounded]; exact T_Mo_bounded_0 TC_Mo_bounded h rfl⟩
set_option maxRecDepth 100000 in
theorem P_Mo_sumOf : mProg 102 = (c_Mo_sumOf, 7) := rfl
set_option maxRecDepth 100000 in
theorem TC_Mo_sumOf {G : Nat → List mV → mS → Option (Int × mS)} {d : Nat} (hG : ∀ k as σ p, G k as σ = some p → mEx d k as σ p) (hd : 2 ≤ d) : ∀ k as σ p, C_Mo_sumOf G k as σ = some p → mEx d k as σ p := by
  intro k as σ p hp
  unfold C_Mo_sumOf at hp
  split at hp
  · exact (T_Mo_sign hp).up (Nat.le_trans (Nat.le_of_ble_eq_true rfl) hd)
  · exact (T_Mo_codeAt hp).up (Nat.le_trans (Nat.le_of_ble_eq_true rfl) hd)
  · exact (T_Mo_bounded hp).up (Nat.le_trans (Nat.le_of_ble_eq_true rfl) hd)
  · exact hG _ _ _ _ hp
  · cases hp
set_option maxRecDepth 100000 in
theorem T_Mo_sumOf_28 {G : Nat → List mV → mS → Option (Int × mS)} {d : Nat} (hC : ∀ k as σ p, C_Mo_sumOf G k as σ = some p → mEx d k as σ p) {l0 l1 l2 s0 : Int} {σ : mS} {b : ((Int × mS) ⊕ (Int × mS))} {r : Int × mS} (h : M_Mo_sumOf_28 G l0 l1 l2 s0 σ = some b) (hk : (Sum.elim (fun (s : Int × mS) r => mG (d + 1) 102 4 [(3, l0), (1, l1), (2, s.1), (0, 0), (0, 0), (0, 0), (0, 0)] [] s.2 r) (fun b r => r = b)) b r) : mG (d + 1) 102 28 [(3, l0), (1, l1), (2, l2), (0, 0), (0, 0), (0, 0), (0, 0)] [(1, s0)] σ r := by
  refine mblk_ok2 P_Mo_sumOf (F := F_Mo_sumOf_28 G) (Sum.elim (fun (s : Int × mS) r => mG (d + 1) 102 4 [(3, l0), (1, l1), (2, s.1), (0, 0), (0, 0), (0, 0), (0, 0)] [] s.2 r) (fun b r => r = b)) [([(4, 52)], [0, 1])] [(28, 52)] [(3, l0), (1, l1), (2, l2), (0, 0), (0, 0), (0, 0), (0, 0)] (by decide +kernel) rfl hC ?_ (fun v σ b r hb hk => by cases hb; exact hk) _ 28 [(3, l0), (1, l1), (2, l2), (0, 0), (0, 0), (0, 0), (0, 0)] [(1, s0)] σ b r rfl (mJ_self _ _ _) ((E_Mo_sumOf_28 G l0 l1 l2 s0 σ).trans h) hk
  intro i L st σ b r hj hb hk
  unfold F_Mo_sumOf_28 at hb
  split at hb
  · have key : ∀ (k0 k1 k2 : Int) (k3 k4 k5 k6 : mV) (σ : mS) (b : ((Int × mS) ⊕ (Int × mS))) (r : Int × mS), mJ [(3, l0), (1, l1), (2, l2), (0, 0), (0, 0), (0, 0), (0, 0)] 4 [(3, k0), (1, k1), (2, k2), k3, k4, k5, k6] [([(4, 52)], [0, 1])] → (some (.inl (k2, σ))) = some b → (Sum.elim (fun (s : Int × mS) r => mG (d + 1) 102 4 [(3, l0), (1, l1), (2, s.1), (0, 0), (0, 0), (0, 0), (0, 0)] [] s.2 r) (fun b r => r = b)) b r → mG (d + 1) 102 4 [(3, k0), (1, k1), (2, k2), k3, k4, k5, k6] [] σ r := by
      intro k0 k1 k2 k3 k4 k5 k6 σ b r hj hb hk
      have e0 : k0 = l0 := (Prod.mk.inj (Option.some.inj ((hj.1 rfl).1))).2
      subst e0
      have e1 : k1 = l1 := (Prod.mk.inj (Option.some.inj ((hj.1 rfl).2.1))).2
      subst e1
      cases hb
      exact mG.lle hk (lle_cons (lle_cons (lle_cons (lle_dead (lle_dead (lle_dead (lle_dead lle_nil)))))))
    exact key _ _ _ _ _ _ _ σ b r hj hb hk
  · cases hb
set_option maxRecDepth 100000 in
theorem T_Mo_sumOf_18 {G : Nat → List mV → mS → Option (Int × mS)} {d : Nat} (hC : ∀ k as σ p, C_Mo_sumOf G k as σ = some p → mEx d k as σ p) {l0 l1 l2 : Int} {σ : mS} {b : ((Int × mS) ⊕ (Int × mS))} {r : Int × mS} (h : M_Mo_sumOf_18 G l0 l1 l2 σ = some b) (hk : (Sum.elim (fun (s : Int × mS) r => mG (d + 1) 102 4 [(3, l0), (1, l1), (2, s.1), (0, 0), (0, 0), (0, 0), (0, 0)] [] s.2 r) (fun b r => r = b)) b r) : mG (d + 1) 102 18 [(3, l0), (1, l1), (2, l2), (0, 0), (0, 0), (0, 0), (0, 0)] [] σ r := by
  refine mblk_ok2 P_Mo_sumOf (F := F_Mo_sumOf_18 G) (Sum.elim (fun (s : Int × mS) r => mG (d + 1) 102 4 [(3, l0), (1, l1), (2, s.1), (0, 0), (0, 0), (0, 0), (0, 0)] [] s.2 r) (fun b r => r = b)) [([(4, 52)], [0, 1])] [(18, 27)] [(3, l0), (1, l1), (2, l2), (0, 0), (0, 0), (0, 0), (0, 0)] (by decide +kernel) rfl hC ?_ (fun v σ b r hb hk => by cases hb; exact hk) _ 18 [(3, l0), (1, l1), (2, l2), (0, 0), (0, 0), (0, 0), (0, 0)] [] σ b r rfl (mJ_self _ _ _) ((E_Mo_sumOf_18 G l0 l1 l2 σ).trans h) hk
  intro i L st σ b r hj hb hk
  unfold F_Mo_sumOf_18 at hb
  split at hb
  · have key : ∀ (k0 k1 k2 u0 : Int) (k3 k4 k5 k6 : mV) (σ : mS) (b : ((Int × mS) ⊕ (Int × mS))) (r : Int × mS), mJ [(3, l0), (1, l1), (2, l2), (0, 0), (0, 0), (0, 0), (0, 0)] 28 [(3, k0), (1, k1), (2, k2), k3, k4, k5, k6] [([(4, 52)], [0, 1])] → (M_Mo_sumOf_28 G k0 k1 k2 u0 σ) = some b → (Sum.elim (fun (s : Int × mS) r => mG (d + 1) 102 4 [(3, l0), (1, l1), (2, s.1), (0, 0), (0, 0), (0, 0), (0, 0)] [] s.2 r) (fun b r => r = b)) b r → mG (d + 1) 102 28 [(3, k0), (1, k1), (2, k2), k3, k4, k5, k6] [(1, u0)] σ r := by
      intro k0 k1 k2 u0 k3 k4 k5 k6 σ b r hj hb hk
      have e0 : k0 = l0 := (Prod.mk.inj (Option.some.inj ((hj.1 rfl).1))).2
      subst e0
      have e1 : k1 = l1 := (Prod.mk.inj (Option.some.inj ((hj.1 rfl).2.1))).2
      subst e1
      exact (T_Mo_sumOf_28 hC hb hk).lle (lle_cons (lle_cons (lle_cons (lle_dead (lle_dead (lle_dead (lle_dead lle_nil)))))))
    exact key _ _ _ _ _ _ _ _ σ b r hj hb hk
  · cases hb
set_option maxRecDepth 100000 in
theorem TB_Mo_sumOf_4 {G : Nat → List mV → mS → Option (Int × mS)} {d : Nat} (hC : ∀ k as σ p, C_Mo_sumOf G k as σ = some p → mEx d k as σ p) {l0 l1 l2 : Int} {σ : mS} {b : ((Int × mS) ⊕ (Int × mS))} {r : Int × mS} (h : B_Mo_sumOf_4 G l0 l1 l2 σ = some b) (hk : (Sum.elim (fun (s : Int × mS) r => mG (d + 1) 102 4 [(3, l0), (1, l1), (2, s.1), (0, 0), (0, 0), (0, 0), (0, 0)] [] s.2 r) (fun b r => r = b)) b r) : mG (d + 1) 102 4 [(3, l0), (1, l1), (2, l2), (0, 0), (0, 0), (0, 0), (0, 0)] [] σ r := by
  refine mblk_ok2 P_Mo_sumOf (F := F_Mo_sumOf_4 G) (Sum.elim (fun (s : Int × mS) r => mG (d + 1) 102 4 [(3, l0), (1, l1), (2, s.1), (0, 0), (0, 0), (0, 0), (0, 0)] [] s.2 r) (fun b r => r = b)) [([(4, 52)], [0, 1])] [(4, 17), (53, 54)] [(3, l0), (1, l1), (2, l2), (0, 0), (0, 0), (0, 0), (0, 0)] (by decide +kernel) rfl hC ?_ (fun v σ b r hb hk => by cases hb; exact hk) _ 4 [(3, l0), (1, l1), (2, l2), (0, 0), (0, 0), (0, 0), (0, 0)] [] σ b r rfl (mJ_self _ _ _) ((E_Mo_sumOf_4 G l0 l1 l2 σ).trans h) hk
  intro i L st σ b r hj hb hk
  unfold F_Mo_sumOf_4 at hb
  split at hb
  · have key : ∀ (k0 k1 k2 : Int) (k3 k4 k5 k6 : mV) (σ : mS) (b : ((Int × mS) ⊕ (Int × mS))) (r : Int × mS), mJ [(3, l0), (1, l1), (2, l2), (0, 0), (0, 0), (0, 0), (0, 0)] 18 [(3, k0), (1, k1), (2, k2), k3, k4, k5, k6] [([(4, 52)], [0, 1])] → (M_Mo_sumOf_18 G k0 k1 k2 σ) = some b → (Sum.elim (fun (s : Int × mS) r => mG (d + 1) 102 4 [(3, l0), (1, l1), (2, s.1), (0, 0), (0, 0), (0, 0), (0, 0)] [] s.2 r) (fun b r => r = b)) b r → mG (d + 1) 102 18 [(3, k0), (1, k1), (2, k2), k3, k4, k5, k6] [] σ r := by
      intro k0 k1 k2 k3 k4 k5 k6 σ b r hj hb hk
      have e0 : k0 = l0 := (Prod.mk.inj (Option.some.inj ((hj.1 rfl).1))).2
      subst e0
      have e1 : k1 = l1 := (Prod.mk.inj (Option.some.inj ((hj.1 rfl).2.1))).2
      subst e1
      exact (T_Mo_sumOf_18 hC hb hk).lle (lle_cons (lle_cons (lle_cons (lle_dead (lle_dead (lle_dead (lle_dead lle_nil)))))))
    exact key _ _ _ _ _ _ _ σ b r hj hb hk
  · cases hb
set_option maxRecDepth 100000 in
theorem T_Mo_sumOf_4 {G : Nat → List mV → mS → Option (Int × mS)} {d : Nat} (hC : ∀ k as σ p, C_Mo_sumOf G k as σ = some p → mEx d k as σ p) {l0 l1 l2 : Int} {σ : mS} {b : Int × mS} {r : Int × mS} (h : M_Mo_sumOf_4 G l0 l1 l2 σ = some b) (hk : (fun b r => r = b) b r) : mG (d + 1) 102 4 [(3, l0), (1, l1), (2, l2), (0, 0), (0, 0), (0, 0), (0, 0)] [] σ r :=
  miter_ok (G := fun (s : Int × mS) r => mG (d + 1) 102 4 [(3, l0), (1, l1), (2, s.1), (0, 0), (0, 0), (0, 0), (0, 0)] [] s.2 r) (K := (fun b r => r = b)) (fun s x r hs hx => TB_Mo_sumOf_4 hC hs hx) mN _ b r h hk
set_option maxRecDepth 100000 in
theorem T_Mo_sumOf_0 {G : Nat → List mV → mS → Option (Int × mS)} {d : Nat} (hC : ∀ k as σ p, C_Mo_sumOf G k as σ = some p → mEx d k as σ p) {l0 l1 : Int} {σ : mS} {b : Int × mS} {r : Int × mS} (h : B_Mo_sumOf G l0 l1 σ = some b) (hk : (fun b r => r = b) b r) : mG (d + 1) 102 0 (mInit 7 [(3, l0), (1, l1)]) [] σ r := by
  refine mblk_ok1 P_Mo_sumOf (F := F_Mo_sumOf_0 G) (fun b r => r = b) hC ?_ (fun v σ b r hb hk => by cases hb; exact hk) _ 0 (mInit 7 [(3, l0), (1, l1)]) [] σ b r ((E_Mo_sumOf_0 G l0 l1 σ).trans h) hk
  intro i L st σ b r hb hk
  unfold F_Mo_sumOf_0 at hb
  split at hb
  · have key : ∀ (k0 k1 k2 : Int) (k3 k4 k5 k6 : mV) (σ : mS) (b : Int × mS) (r : Int × mS), (M_Mo_sumOf_4 G k0 k1 k2 σ) = some b → (fun b r => r = b) b r → mG (d + 1) 102 4 [(3, k0), (1, k1), (2, k2), k3, k4, k5, k6] [] σ r := by
      intro k0 k1 k2 k3 k4 k5 k6 σ b r hb hk
      exact (T_Mo_sumOf_4 hC hb hk).lle (lle_cons (lle_cons (lle_cons (lle_dead (lle_dead (lle_dead (lle_dead lle_nil)))))))
    exact key _ _ _ _ _ _ _ σ b r hb hk
  · cases hb
set_option maxRecDepth 100000 in
theorem T_Mo_sumOf {G : Nat → List mV → mS → Option (Int × mS)} {d : Nat} (hG : ∀ k as σ p, G k as σ = some p → mEx d k as σ p) (hd : 2 ≤ d) {l0 l1 : Int} {σ : mS} {r : Int × mS} (h : B_Mo_sumOf G l0 l1 σ = some r) : mEx (d + 1) 102 [(3, l0), (1, l1)] σ r :=
  ⟨by rw [P_Mo_sumOf]; exact Nat.le_of_ble_eq_true rfl, by rw [P_Mo_sumOf]; exact T_Mo_sumOf_0 (TC_Mo_sumOf hG hd) h rfl⟩
set_option maxRecDepth 100000 in
theorem P_Mo_termOf : mProg 103 = (c_Mo_termOf, 7) := rfl
set_option maxRecDepth 100000 in
theorem TC_Mo_termOf {G : Nat → List mV → mS → Option (Int × mS)} {d : Nat} (hG : ∀ k as σ p, G k as σ = some p → mEx d k as σ p) (hd : 2 ≤ d) : ∀ k as σ p, C_Mo_termOf G k as σ = some p → mEx d k as σ p := by
  intro k as σ p hp
  unfold C_Mo_termOf at hp
  split at hp
  · exact (T_Mo_sign hp).up (Nat.le_trans (Nat.le_of_ble_eq_true rfl) hd)
  · exact (T_Mo_codeAt hp).up (Nat.le_trans (Nat.le_of_ble_eq_true rfl) hd)
  · exact (T_Mo_bounded hp).up (Nat.le_trans (Nat.le_of_ble_eq_true rfl) hd)
  · exact hG _ _ _ _ hp
  · cases hp
set_option maxRecDepth 100000 in
theorem T_Mo_termOf_57 {G : Nat → List mV → mS → Option (Int × mS)} {d : Nat} (hC : ∀ k as σ p, C_Mo_termOf G k as σ = some p → mEx d k as σ p) {l0 l1 l2 l4 l5 : Int} {σ : mS} {b : ((Int × mS) ⊕ (Int × mS))} {r : Int × mS} (h : M_Mo_termOf_57 G l0 l1 l2 l4 l5 σ = some b) (hk : (Sum.elim (fun (s : Int × mS) r => mG (d + 1) 103 4 [(3, l0), (1, l1), (2, s.1), (0, 0), (0, 0), (0, 0), (0, 0)] [] s.2 r) (fun b r => r = b)) b r) : mG (d + 1) 103 57 [(3, l0), (1, l1), (2, l2), (0, 0), (1, l4), (2, l5), (0, 0)] [] σ r := by
  refine mblk_ok2 P_Mo_termOf (F := F_Mo_termOf_57 G) (Sum.elim (fun (s : Int × mS) r => mG (d + 1) 103 4 [(3, l0), (1, l1), (2, s.1), (0, 0), (0, 0), (0, 0), (0, 0)] [] s.2 r) (fun b r => r = b)) [([(4, 70)], [0, 1])] [(57, 70)] [(3, l0), (1, l1), (2, l2), (0, 0), (1, l4), (2, l5), (0, 0)] (by decide +kernel) rfl hC ?_ (fun v σ b r hb hk => by cases hb; exact hk) _ 57 [(3, l0), (1, l1), (2, l2), (0, 0), (1, l4), (2, l5), (0, 0)] [] σ b r rfl (mJ_self _ _ _) ((E_Mo_termOf_57 G l0 l1 l2 l4 l5 σ).trans h) hk
  intro i L st σ b r hj hb hk
  unfold F_Mo_termOf_57 at hb
  split at hb
  · have key : ∀ (k0 k1 k2 : Int) (k3 k4 k5 k6 : mV) (σ : mS) (b : ((Int × mS) ⊕ (Int × mS))) (r : Int × mS), mJ [(3, l0), (1, l1), (2, l2), (0, 0), (1, l4), (2, l5), (0, 0)] 4 [(3, k0), (1, k1), (2, k2), k3, k4, k5, k6] [([(4, 70)], [0, 1])] → (some (.inl (k2, σ))) = some b → (Sum.elim (fun (s : Int × mS) r => mG (d + 1) 103 4 [(3, l0), (1, l1), (2, s.1), (0, 0), (0, 0), (0, 0), (0, 0)] [] s.2 r) (fun b r => r = b)) b r → mG (d + 1) 103 4 [(3, k0), (1, k1), (2, k2), k3, k4, k5, k6] [] σ r := by
      intro k0 k1 k2 k3 k4 k5 k6 σ b r hj hb hk
      have e0 : k0 = l0 := (Prod.mk.inj (Option.some.inj ((hj.1 rfl).1))).2
      subst e0
      have e1 : k1 = l1 := (Prod.mk.inj (Option.some.inj ((hj.1 rfl).2.1))).2
      subst e1
      cases hb
      exact mG.lle hk (lle_cons (lle_cons (lle_cons (lle_dead (lle_dead (lle_dead (lle_dead lle_nil)))))))
    exact key _ _ _ _ _ _ _ σ b r hj hb hk
  · cases hb
set_option maxRecDepth 100000 in
theorem T_Mo_termOf_54 {G : Nat → List mV → mS → Option (Int × mS)} {d : Nat} (hC : ∀ k as σ p, C_Mo_termOf G k as σ = some p → mEx d k as σ p) {l0 l1 l2 l4 s1 s0 : Int} {σ : mS} {b : ((Int × mS) ⊕ (Int × mS))} {r : Int × mS} (h : M_Mo_termOf_54 G l0 l1 l2 l4 s1 s0 σ = some b) (hk : (Sum.elim (fun (s : Int × mS) r => mG (d + 1) 103 4 [(3, l0), (1, l1), (2, s.1), (0, 0), (0, 0), (0, 0), (0, 0)] [] s.2 r) (fun b r => r = b)) b r) : mG (d + 1) 103 54 [(3, l0), (1, l1), (2, l2), (0, 0), (1, l4), (0, 0), (0, 0)] [(1, s1), (3, s0)] σ r := by
  refine mblk_ok2 P_Mo_termOf (F := F_Mo_termOf_54 G) (Sum.elim (fun (s : Int × mS) r => mG (d + 1) 103 4 [(3, l0), (1, l1), (2, s.1), (0, 0), (0, 0), (0, 0), (0, 0)] [] s.2 r) (fun b r => r = b)) [([(4, 70)], [0, 1])] [(54, 56)] [(3, l0), (1, l1), (2, l2), (0, 0), (1, l4), (0, 0), (0, 0)] (by decide +kernel) rfl hC ?_ (fun v σ b r hb hk => by cases hb; exact hk) _ 54 [(3, l0), (1, l1), (2, l2), (0, 0), (1, l4), (0, 0), (0, 0)] [(1, s1), (3, s0)] σ b r rfl (mJ_self _ _ _) ((E_Mo_termOf_54 G l0 l1 l2 l4 s1 s0 σ).trans h) hk
  intro i L st σ b r hj hb hk
  unfold F_Mo_termOf_54 at hb
  split at hb
  · have key : ∀ (k0 k1 k2 k4 k5 : Int) (k3 k6 : mV) (σ : mS) (b : ((Int × mS) ⊕ (Int × mS))) (r : Int × mS), mJ [(3, l0), (1, l1), (2, l2), (0, 0), (1, l4), (0, 0), (0, 0)] 57 [(3, k0), (1, k1), (2, k2), k3, (1, k4), (2, k5), k6] [([(4, 70)], [0, 1])] → (M_Mo_termOf_57 G k0 k1 k2 k4 k5 σ) = some b → (Sum.elim (fun (s : Int × mS) r => mG (d + 1) 103 4 [(3, l0), (1, l1), (2, s.1), (0, 0), (0, 0), (0, 0), (0, 0)] [] s.2 r) (fun b r => r = b)) b r → mG (d + 1) 103 57 [(3, k0), (1, k1), (2, k2), k3, (1, k4), (2, k5), k6] [] σ r := by
      intro k0 k1 k2 k4 k5 k3 k6 σ b r hj hb hk
      have e0 : k0 = l0 := (Prod.mk.inj (Option.some.inj ((hj.1 rfl).1))).2
      subst e0
      have e1 : k1 = l1 := (Prod.mk.inj (Option.some.inj ((hj.1 rfl).2.1))).2
      subst e1
      exact (T_Mo_termOf_57 hC hb hk).lle (lle_cons (lle_cons (lle_cons (lle_dead (lle_cons (lle_cons (lle_dead lle_nil)))))))
    exact key _ _ _ _ _ _ _ σ b r hj hb hk
  · cases hb
set_option maxRecDepth 100000 in
theorem T_Mo_termOf_51 {G : Nat → List mV → mS → Option (Int × mS)} {d : Nat} (hC : ∀ k as σ p, C_Mo_termOf G k as σ = some p → mEx d k as σ p) {l0 l1 l2 l4 s0 : Int} {σ : mS} {b : ((Int × mS) ⊕ (Int × mS))} {r : Int × mS} (h : M_Mo_termOf_51 G l0 l1 l2 l4 s0 σ = some b) (hk : (Sum.elim (fun (s : Int × mS) r => mG (d + 1) 103 4 [(3, l0), (1, l1), (2, s.1), (0, 0), (0, 0), (0, 0), (0, 0)] [] s.2 r) (fun b r => r = b)) b r) : mG (d + 1) 103 51 [(3, l0), (1, l1), (2, l2), (0, 0), (1, l4), (0, 0), (0, 0)] [(3, s0)] σ r := by
  refine mblk_ok2 P_Mo_termOf (F := F_Mo_termOf_51 G) (Sum.elim (fun (s : Int × mS) r => mG (d + 1) 103 4 [(3, l0), (1, l1), (2, s.1), (0, 0), (0, 0), (0, 0), (0, 0)] [] s.2 r) (fun b r => r = b)) [([(4, 70)], [0, 1])] [(51, 52)] [(3, l0), (1, l1), (2, l2), (0, 0), (1, l4), (0, 0), (0, 0)] (by decide +kernel) rfl hC ?_ (fun v σ b r hb hk => by cases hb; exact hk) _ 51 [(3, l0), (1, l1), (2, l2), (0, 0), (1, l4), (0, 0), (0, 0)] [(3, s0)] σ b r rfl (mJ_self _ _ _) ((E_Mo_termOf_51 G l0 l1 l2 l4 s0 σ).trans h) hk
  intro i L st σ b r hj hb hk
  unfold F_Mo_termOf_51 at hb
  split at hb
  · have key : ∀ (k0 k1 k2 k4 u1 u0 : Int) (k3 k5 k6 : mV) (σ : mS) (b : ((Int × mS) ⊕ (Int × mS))) (r : Int × mS), mJ [(3, l0), (1, l1), (2, l2), (0, 0), (1, l4), (0, 0), (0, 0)] 54 [(3, k0), (1, k1), (2, k2), k3, (1, k4), k5, k6] [([(4, 70)], [0, 1])] → (M_Mo_termOf_54 G k0 k1 k2 k4 u1 u0 σ) = some b → (Sum.elim (fun (s : Int × mS) r => mG (d + 1) 103 4 [(3, l0), (1, l1), (2, s.1), (0, 0), (0, 0), (0, 0), (0, 0)] [] s.2 r) (fun b r => r = b)) b r → mG (d + 1) 103 54 [(3, k0), (1, k1), (2, k2), k3, (1, k4), k5, k6] [(1, u1), (3, u0)] σ r := by
      intro k0 k1 k2 k4 u1 u0 k3 k5 k6 σ b r hj hb hk
      have e0 : k0 = l0 := (Prod.mk.inj (Option.some.inj ((hj.1 rfl).1))).2
      subst e0
      have e1 : k1 = l1 := (Prod.mk.inj (Option.some.inj ((hj.1 rfl).2.1))).2
      subst e1
      exact (T_Mo_termOf_54 hC hb hk).lle (lle_cons (lle_cons (lle_cons (lle_dead (lle_cons (lle_dead (lle_dead lle_nil)))))))
    exact key _ _ _ _ _ _ _ _ _ σ b r hj hb hk
  · cases hb
set_option maxRecDepth 100000 in
theorem T_Mo_termOf_28 {G : Nat → List mV → mS → Option (Int × mS)} {d : Nat} (hC : ∀ k as σ p, C_Mo_termOf G k as σ = some p → mEx d k as σ p) {l0 l1 l2 s0 : Int} {σ : mS} {b : ((Int × mS) ⊕ (Int × mS))} {r : Int × mS} (h : M_Mo_termOf_28 G l0 l1 l2 s0 σ = some b) (hk : (Sum.elim (fun (s : Int × mS) r => mG (d + 1) 103 4 [(3, l0), (1, l1), (2, s.1), (0, 0), (0, 0), (0, 0), (0, 0)] [] s.2 r) (fun b r => r = b)) b r) : mG (d + 1) 103 28 [(3, l0), (1, l1), (2, l2), (0, 0), (0, 0), (0, 0), (0, 0)] [(1, s0)] σ r := by
  refine mblk_ok2 P_Mo_termOf (F := F_Mo_termOf_28 G) (Sum.elim (fun (s : Int × mS) r => mG (d + 1) 103 4 [(3, l0), (1, l1), (2, s.1), (0, 0), (0, 0), (0, 0), (0, 0)] [] s.2 r) (fun b r => r = b)) [([(4, 70)], [0, 1])] [(28, 50), (53, 53)] [(3, l0), (1, l1), (2, l2), (0, 0), (0, 0), (0, 0), (0, 0)] (by decide +kernel) rfl hC ?_ (fun v σ b r hb hk => by cases hb; exact hk) _ 28 [(3, l0), (1, l1), (2, l2), (0, 0), (0, 0), (0, 0), (0, 0)] [(1, s0)] σ b r rfl (mJ_self _ _ _) ((E_Mo_termOf_28 G l0 l1 l2 s0 σ).trans h) hk
  intro i L st σ b r hj hb hk
  unfold F_Mo_termOf_28 at hb
  split at hb
  · have key : ∀ (k0 k1 k2 k4 u0 : Int) (k3 k5 k6 : mV) (σ : mS) (b : ((Int × mS) ⊕ (Int × mS))) (r : Int × mS), mJ [(3, l0), (1, l1), (2, l2), (0, 0), (0, 0), (0, 0), (0, 0)] 51 [(3, k0), (1, k1), (2, k2), k3, (1, k4), k5, k6] [([(4, 70)], [0, 1])] → (M_Mo_termOf_51 G k0 k1 k2 k4 u0 σ) = some b → (Sum.elim (fun (s : Int × mS) r => mG (d + 1) 103 4 [(3, l0), (1, l1), (2, s.1), (0, 0), (0, 0), (0, 0), (0, 0)] [] s.2 r) (fun b r => r = b)) b r → mG (d + 1) 103 51 [(3, k0), (1, k1), (2, k2), k3, (1, k4), k5, k6] [(3, u0)] σ r := by
      intro k0 k1 k2 k4 u0 k3 k5 k6 σ b r hj hb hk
      have e0 : k0 = l0 := (Prod.mk.inj (Option.some.inj ((hj.1 rfl).1))).2
      subst e0
      have e1 : k1 = l1 := (Prod.mk.inj (Option.some.inj ((hj.1 rfl).2.1))).2
      subst e1
      exact (T_Mo_termOf_51 hC hb hk).lle (lle_cons (lle_cons (lle_cons (lle_dead (lle_cons (lle_dead (lle_dead lle_nil)))))))
    exact key _ _ _ _ _ _ _ _ σ b r hj hb hk
  · have key : ∀ (k0 k1 k2 k4 u1 u0 : Int) (k3 k5 k6 : mV) (σ : mS) (b : ((Int × mS) ⊕ (Int × mS))) (r : Int × mS), mJ [(3, l0), (1, l1), (2, l2), (0, 0), (0, 0), (0, 0), (0, 0)] 54 [(3, k0), (1, k1), (2, k2), k3, (1, k4), k5, k6] [([(4, 70)], [0, 1])] → (M_Mo_termOf_54 G k0 k1 k2 k4 u1 u0 σ) = some b → (Sum.elim (fun (s : Int × mS) r => mG (d + 1) 103 4 [(3, l0), (1, l1), (2, s.1), (0, 0), (0, 0), (0, 0), (0, 0)] [] s.2 r) (fun b r => r = b)) b r → mG (d + 1) 103 54 [(3, k0), (1, k1), (2, k2), k3, (1, k4), k5, k6] [(1, u1), (3, u0)] σ r := by
      intro k0 k1 k2 k4 u1 u0 k3 k5 k6 σ b r hj hb hk
      have e0 : k0 = l0 := (Prod.mk.inj (Option.some.inj ((hj.1 rfl).1))).2
      subst e0
      have e1 : k1 = l1 := (Prod.mk.inj (Option.some.inj ((hj.1 rfl).2.1))).2
      subst e1
      exact (T_Mo_termOf_54 hC hb hk).lle (lle_cons (lle_cons (lle_cons (lle_dead (lle_cons (lle_dead (lle_dead lle_nil)))))))
    exact key _ _ _ _ _ _ _ _ _ σ b r hj hb hk
  · have key : ∀ (k0 k1 k2 k4 k5 : Int) (k3 k6 : mV) (σ : mS) (b : ((Int × mS) ⊕ (Int × mS))) (r : Int × mS), mJ [(3, l0), (1, l1), (2, l2), (0, 0), (0, 0), (0, 0), (0, 0)] 57 [(3, k0), (1, k1), (2, k2), k3, (1, k4), (2, k5), k6] [([(4, 70)], [0, 1])] → (M_Mo_termOf_57 G k0 k1 k2 k4 k5 σ) = some b → (Sum.elim (fun (s : Int × mS) r => mG (d + 1) 103 4 [(3, l0), (1, l1), (2, s.1), (0, 0), (0, 0), (0, 0), (0, 0)] [] s.2 r) (fun b r => r = b)) b r → mG (d + 1) 103 57 [(3, k0), (1, k1), (2, k2), k3, (1, k4), (2, k5), k6] [] σ r := by
      intro k0 k1 k2 k4 k5 k3 k6 σ b r hj hb hk
      have e0 : k0 = l0 := (Prod.mk.inj (Option.some.inj ((hj.1 rfl).1))).2
      subst e0
      have e1 : k1 = l1 := (Prod.mk.inj (Option.some.inj ((hj.1 rfl).2.1))).2
      subst e1
      exact (T_Mo_termOf_57 hC hb hk).lle (lle_cons (lle_cons (lle_cons (lle_dead (lle_cons (lle_cons (lle_dead lle_nil)))))))
    exact key _ _ _ _ _ _ _ σ b r hj hb hk
  · cases hb
set_option maxRecDepth 100000 in
theorem T_Mo_termOf_18 {G : Nat → List mV → mS → Option (Int × mS)} {d : Nat} (hC : ∀ k as σ p, C_Mo_termOf G k as σ = some p → mEx d k as σ p) {l0 l1 l2 : Int} {σ : mS} {b : ((Int × mS) ⊕ (Int × mS))} {r : Int × mS} (h : M_Mo_termOf_18 G l0 l1 l2 σ = some b) (hk : (Sum.elim (fun (s : Int × mS) r => mG (d + 1) 103 4 [(3, l0), (1, l1), (2, s.1), (0, 0), (0, 0), (0, 0), (0, 0)] [] s.2 r) (fun b r => r = b)) b r) : mG (d + 1) 103 18 [(3, l0), (1, l1), (2, l2), (0, 0), (0, 0), (0, 0), (0, 0)] [] σ r := by
  refine mblk_ok2 P_Mo_termOf (F := F_Mo_termOf_18 G) (Sum.elim (fun (s : Int × mS) r => mG (d + 1) 103 4 [(3, l0), (1, l1), (2, s.1), (0, 0), (0, 0), (0, 0), (0, 0)] [] s.2 r) (fun b r => r = b)) [([(4, 70)], [0, 1])] [(18, 27)] [(3, l0), (1, l1), (2, l2), (0, 0), (0, 0), (0, 0), (0, 0)] (by decide +kernel) rfl hC ?_ (fun v σ b r hb hk => by cases hb; exact hk) _ 18 [(3, l0), (1, l1), (2, l2), (0, 0), (0, 0), (0, 0), (0, 0)] [] σ b r rfl (mJ_self _ _ _) ((E_Mo_termOf_18 G l0 l1 l2 σ).trans h) hk
  intro i L st σ b r hj hb hk
  unfold F_Mo_termOf_18 at hb
  split at hb
  · have key : ∀ (k0 k1 k2 u0 : Int) (k3 k4 k5 k6 : mV) (σ : mS) (b : ((Int × mS) ⊕ (Int × mS))) (r : Int × mS), mJ [(3, l0), (1, l1), (2, l2), (0, 0), (0, 0), (0, 0), (0, 0)] 28 [(3, k0), (1, k1), (2, k2), k3, k4, k5, k6] [([(4, 70)], [0, 1])] → (M_Mo_termOf_28 G k0 k1 k2 u0 σ) = some b → (Sum.elim (fun (s : Int × mS) r => mG (d + 1) 103 4 [(3, l0), (1, l1), (2, s.1), (0, 0), (0, 0), (0, 0), (0, 0)] [] s.2 r) (fun b r => r = b)) b r → mG (d + 1) 103 28 [(3, k0), (1, k1), (2, k2), k3, k4, k5, k6] [(1, u0)] σ r := by
      intro k0 k1 k2 u0 k3 k4 k5 k6 σ b r hj hb hk
      have e0 : k0 = l0 := (Prod.mk.inj (Option.some.inj ((hj.1 rfl).1))).2
      subst e0
      have e1 : k1 = l1 := (Prod.mk.inj (Option.some.inj ((hj.1 rfl).2.1))).2
      subst e1
      exact (T_Mo_termOf_28 hC hb hk).lle (lle_cons (lle_cons (lle_cons (lle_dead (lle_dead (lle_dead (lle_dead lle_nil)))))))
    exact key _ _ _ _ _ _ _ _ σ b r hj hb hk
  · cases hb
set_option maxRecDepth 100000 in
theorem TB_Mo_termOf_4 {G : Nat → List mV → mS → Option (Int × mS)} {d : Nat} (hC : ∀ k as σ p, C_Mo_termOf G k as σ = some p → mEx d k as σ p) {l0 l1 l2 : Int} {σ : mS} {b : ((Int × mS) ⊕ (Int × mS))} {r : Int × mS} (h : B_Mo_termOf_4 G l0 l1 l2 σ = some b) (hk : (Sum.elim (fun (s : Int × mS) r => mG (d + 1) 103 4 [(3, l0), (1, l1), (2, s.1), (0, 0), (0, 0), (0, 0), (0, 0)] [] s.2 r) (fun b r => r = b)) b r) : mG (d + 1) 103 4 [(3, l0), (1, l1), (2, l2), (0, 0), (0, 0), (0, 0), (0, 0)] [] σ r := by
  refine mblk_ok2 P_Mo_termOf (F := F_Mo_termOf_4 G) (Sum.elim (fun (s : Int × mS) r => mG (d + 1) 103 4 [(3, l0), (1, l1), (2, s.1), (0, 0), (0, 0), (0, 0), (0, 0)] [] s.2 r) (fun b r => r = b)) [([(4, 70)], [0, 1])] [(4, 17), (71, 72)] [(3, l0), (1, l1), (2, l2), (0, 0), (0, 0), (0, 0), (0, 0)] (by decide +kernel) rfl hC ?_ (fun v σ b r hb hk => by cases hb; exact hk) _ 4 [(3, l0), (1, l1), (2, l2), (0, 0), (0, 0), (0, 0), (0, 0)] [] σ b r rfl (mJ_self _ _ _) ((E_Mo_termOf_4 G l0 l1 l2 σ).trans h) hk
  intro i L st σ b r hj hb hk
  unfold F_Mo_termOf_4 at hb
  split at hb
  · have key : ∀ (k0 k1 k2 : Int) (k3 k4 k5 k6 : mV) (σ : mS) (b : ((Int × mS) ⊕ (Int × mS))) (r : Int × mS), mJ [(3, l0), (1, l1), (2, l2), (0, 0), (0, 0), (0, 0), (0, 0)] 18 [(3, k0), (1, k1), (2, k2), k3, k4, k5, k6] [([(4, 70)], [0, 1])] → (M_Mo_termOf_18 G k0 k1 k2 σ) = some b → (Sum.elim (fun (s : Int × mS) r => mG (d + 1) 103 4 [(3, l0), (1, l1), (2, s.1), (0, 0), (0, 0), (0, 0), (0, 0)] [] s.2 r) (fun b r => r = b)) b r → mG (d + 1) 103 18 [(3, k0), (1, k1), (2, k2), k3, k4, k5, k6] [] σ r := by
      intro k0 k1 k2 k3 k4 k5 k6 σ b r hj hb hk
      have e0 : k0 = l0 := (Prod.mk.inj (Option.some.inj ((hj.1 rfl).1))).2
      subst e0
      have e1 : k1 = l1 := (Prod.mk.inj (Option.some.inj ((hj.1 rfl).2.1))).2
      subst e1
      exact (T_Mo_termOf_18 hC hb hk).lle (lle_cons (lle_cons (lle_cons (lle_dead (lle_dead (lle_dead (lle_dead lle_nil)))))))
    exact key _ _ _ _ _ _ _ σ b r hj hb hk
  · cases hb
set_option maxRecDepth 100000 in
theorem T_Mo_termOf_4 {G : Nat → List mV → mS → Option (Int × mS)} {d : Nat} (hC : ∀ k as σ p, C_Mo_termOf G k as σ = some p → mEx d k as σ p) {l0 l1 l2 : Int} {σ : mS} {b : Int × mS} {r : Int × mS} (h : M_Mo_termOf_4 G l0 l1 l2 σ = some b) (hk : (fun b r => r = b) b r) : mG (d + 1) 103 4 [(3, l0), (1, l1), (2, l2), (0, 0), (0, 0), (0, 0), (0, 0)] [] σ r :=
  miter_ok (G := fun (s : Int × mS) r => mG (d + 1) 103 4 [(3, l0), (1, l1), (2, s.1), (0, 0), (0, 0), (0, 0), (0, 0)] [] s.2 r) (K := (fun b r => r = b)) (fun s x r hs hx => TB_Mo_termOf_4 hC hs hx) mN _ b r h hk
set_option maxRecDepth 100000 in
theorem T_Mo_termOf_0 {G : Nat → List mV → mS → Option (Int × mS)} {d : Nat} (hC : ∀ k as σ p, C_Mo_termOf G k as σ = some p → mEx d k as σ p) {l0 l1 : Int} {σ : mS} {b : Int × mS} {r : Int × mS} (h : B_Mo_termOf G l0 l1 σ = some b) (hk : (fun b r => r = b) b r) : mG (d + 1) 103 0 (mInit 7 [(3, l0), (1, l1)]) [] σ r := by
  refine mblk_ok1 P_Mo_termOf (F := F_Mo_termOf_0 G) (fun b r => r = b) hC ?_ (fun v σ b r hb hk => by cases hb; exact hk) _ 0 (mInit 7 [(3, l0), (1, l1)]) [] σ b r ((E_Mo_termOf_0 G l0 l1 σ).trans h) hk
  intro i L st σ b r hb hk
  unfold F_Mo_termOf_0 at hb
  split at hb
  · have key : ∀ (k0 k1 k2 : Int) (k3 k4 k5 k6 : mV) (σ : mS) (b : Int × mS) (r : Int × mS), (M_Mo_termOf_4 G k0 k1 k2 σ) = some b → (fun b r => r = b) b r → mG (d + 1) 103 4 [(3, k0), (1, k1), (2, k2), k3, k4, k5, k6] [] σ r := by
      intro k0 k1 k2 k3 k4 k5 k6 σ b r hb hk
      exact (T_Mo_termOf_4 hC hb hk).lle (lle_cons (lle_cons (lle_cons (lle_dead (lle_dead (lle_dead (lle_dead lle_nil)))))))
    exact key _ _ _ _ _ _ _ σ b r hb hk
  · cases hb
set_option maxRecDepth 100000 in
theorem T_Mo_termOf {G : Nat → List mV → mS → Option (Int × mS)} {d : Nat} (hG : ∀ k as σ p, G k as σ = some p → mEx d k as σ p) (hd : 2 ≤ d) {l0 l1 : Int} {σ : mS} {r : Int × mS} (h : B_Mo_termOf G l0 l1 σ = some r) : mEx (d + 1) 103 [(3, l0), (1, l1)] σ r :=
  ⟨by rw [P_Mo_termOf]; exact Nat.le_of_ble_eq_true rfl, by rw [P_Mo_termOf]; exact T_Mo_termOf_0 (TC_Mo_termOf hG hd) h rfl⟩
set_option maxRecDepth 100000 in
theorem P_Mo_partOf : mProg 104 = (c_Mo_partOf, 4) := rfl
set_option maxRecDepth 100000 in
theorem TC_Mo_partOf {G : Nat → List mV → mS → Option (Int × mS)} {d : Nat} (hG : ∀ k as σ p, G k as σ = some p → mEx d k as σ p) (hd : 2 ≤ d) : ∀ k as σ p, C_Mo_partOf G k as σ = some p → mEx d k as σ p := by
  intro k as σ p hp
  unfold C_Mo_partOf at hp
  split at hp
  · exact (T_Mo_sign hp).up (Nat.le_trans (Nat.le_of_ble_eq_true rfl) hd)
  · exact (T_Mo_codeAt hp).up (Nat.le_trans (Nat.le_of_ble_eq_true rfl) hd)
  · exact (T_Mo_passes0 hp).up (Nat.le_trans (Nat.le_of_ble_eq_true rfl) hd)
  · exact hG _ _ _ _ hp
  · cases hp
set_option maxRecDepth 100000 in
theorem T_Mo_partOf_0 {G : Nat → List mV → mS → Option (Int × mS)} {d : Nat} (hC : ∀ k as σ p, C_Mo_partOf G k as σ = some p → mEx d k as σ p) {l0 l1 : Int} {σ : mS} {b : Int × mS} {r : Int × mS} (h : B_Mo_partOf G l0 l1 σ = some b) (hk : (fun b r => r = b) b r) : mG (d + 1) 104 0 (mInit 4 [(3, l0), (1, l1)]) [] σ r := by
  refine mblk_ok1 P_Mo_partOf (F := F_Mo_partOf_0 G) (fun b r => r = b) hC ?_ (fun v σ b r hb hk => by cases hb; exact hk) _ 0 (mInit 4 [(3, l0), (1, l1)]) [] σ b r ((E_Mo_partOf_0 G l0 l1 σ).trans h) hk
  intro i L st σ b r hb hk
  cases hb
set_option maxRecDepth 100000 in
theorem T_Mo_partOf {G : Nat → List mV → mS → Option (Int × mS)} {d : Nat} (hG : ∀ k as σ p, G k as σ = some p → mEx d k as σ p) (hd : 2 ≤ d) {l0 l1 : Int} {σ : mS} {r : Int × mS} (h : B_Mo_partOf G l0 l1 σ = some r) : mEx (d + 1) 104 [(3, l0), (1, l1)] σ r :=
  ⟨by rw [P_Mo_partOf]; exact Nat.le_of_ble_eq_true rfl, by rw [P_Mo_partOf]; exact T_Mo_partOf_0 (TC_Mo_partOf hG hd) h rfl⟩
set_option maxRecDepth 100000 in
theorem TR_Mo_sumOf : ∀ n k as σ r, R_Mo_sumOf n k as σ = some r → mEx (2 + n) k as σ r := by
  intro n
  induction n with
  | zero => intro k as σ r h; cases h
  | succ n ih =>
    intro k as σ r h
    unfold R_Mo_sumOf at h
    split at h
    · exact T_Mo_sumOf ih (Nat.le_add_right _ _) h
    · exact T_Mo_termOf ih (Nat.le_add_right _ _) h
    · exact T_Mo_partOf ih (Nat.le_add_right _ _) h
    · cases h
set_option maxRecDepth 100000 in
theorem P_Mo_testOf : mProg 105 = (c_Mo_testOf, 4) := rfl
set_option maxRecDepth 100000 in
theorem TC_Mo_testOf {G : Nat → List mV → mS → Option (Int × mS)} {d : Nat} (hG : ∀ k as σ p, G k as σ = some p → mEx d k as σ p) (hd : 62 ≤ d) : ∀ k as σ p, C_Mo_testOf G k as σ = some p → mEx d k as σ p := by
  intro k as σ p hp
  unfold C_Mo_testOf at hp
  split at hp
  · exact (T_Mo_passes0 hp).up (Nat.le_trans (Nat.le_of_ble_eq_true rfl) hd)
  · exact hG _ _ _ _ hp
  · cases hp
set_option maxRecDepth 100000 in
theorem T_Mo_testOf_16 {G : Nat → List mV → mS → Option (Int × mS)} {d : Nat} (hC : ∀ k as σ p, C_Mo_testOf G k as σ = some p → mEx d k as σ p) {l0 l1 l2 s1 s0 : Int} {σ : mS} {b : ((Int × mS) ⊕ (Int × mS))} {r : Int × mS} (h : M_Mo_testOf_16 G l0 l1 l2 s1 s0 σ = some b) (hk : (Sum.elim (fun (s : Int × mS) r => mG (d + 1) 105 4 [(3, l0), (1, l1), (1, s.1), (0, 0)] [] s.2 r) (fun b r => r = b)) b r) : mG (d + 1) 105 16 [(3, l0), (1, l1), (1, l2), (0, 0)] [(1, s1), (3, s0)] σ r := by
  refine mblk_ok2 P_Mo_testOf (F := F_Mo_testOf_16 G) (Sum.elim (fun (s : Int × mS) r => mG (d + 1) 105 4 [(3, l0), (1, l1), (1, s.1), (0, 0)] [] s.2 r) (fun b r => r = b)) [([(4, 26)], [0, 1])] [(16, 26)] [(3, l0), (1, l1), (1, l2), (0, 0)] (by decide +kernel) rfl hC ?_ (fun v σ b r hb hk => by cases hb; exact hk) _ 16 [(3, l0), (1, l1), (1, l2), (0, 0)] [(1, s1), (3, s0)] σ b r rfl (mJ_self _ _ _) ((E_Mo_testOf_16 G l0 l1 l2 s1 s0 σ).trans h) hk
  intro i L st σ b r hj hb hk
  unfold F_Mo_testOf_16 at hb
  split at hb
  · have key : ∀ (k0 k1 k2 : Int) (k3 : mV) (σ : mS) (b : ((Int × mS) ⊕ (Int × mS))) (r : Int × mS), mJ [(3, l0), (1, l1), (1, l2), (0, 0)] 4 [(3, k0), (1, k1), (1, k2), k3] [([(4, 26)], [0, 1])] → (some (.inl (k2, σ))) = some b → (Sum.elim (fun (s : Int × mS) r => mG (d + 1) 105 4 [(3, l0), (1, l1), (1, s.1), (0, 0)] [] s.2 r) (fun b r => r = b)) b r → mG (d + 1) 105 4 [(3, k0), (1, k1), (1, k2), k3] [] σ r := by
      intro k0 k1 k2 k3 σ b r hj hb hk
      have e0 : k0 = l0 := (Prod.mk.inj (Option.some.inj ((hj.1 rfl).1))).2
      subst e0
      have e1 : k1 = l1 := (Prod.mk.inj (Option.some.inj ((hj.1 rfl).2.1))).2
      subst e1
      cases hb
      exact mG.lle hk (lle_cons (lle_cons (lle_cons (lle_dead lle_nil))))
    exact key _ _ _ _ σ b r hj hb hk
  · cases hb
set_option maxRecDepth 100000 in
theorem T_Mo_testOf_15 {G : Nat → List mV → mS → Option (Int × mS)} {d : Nat} (hC : ∀ k as σ p, C_Mo_testOf G k as σ = some p → mEx d k as σ p) {l0 l1 l2 s0 : Int} {σ : mS} {b : ((Int × mS) ⊕ (Int × mS))} {r : Int × mS} (h : M_Mo_testOf_15 G l0 l1 l2 s0 σ = some b) (hk : (Sum.elim (fun (s : Int × mS) r => mG (d + 1) 105 4 [(3, l0), (1, l1), (1, s.1), (0, 0)] [] s.2 r) (fun b r => r = b)) b r) : mG (d + 1) 105 15 [(3, l0), (1, l1), (1, l2), (0, 0)] [(3, s0)] σ r := by
  refine mblk_ok2 P_Mo_testOf (F := F_Mo_testOf_15 G) (Sum.elim (fun (s : Int × mS) r => mG (d + 1) 105 4 [(3, l0), (1, l1), (1, s.1), (0, 0)] [] s.2 r) (fun b r => r = b)) [([(4, 26)], [0, 1])] [(15, 15)] [(3, l0), (1, l1), (1, l2), (0, 0)] (by decide +kernel) rfl hC ?_ (fun v σ b r hb hk => by cases hb; exact hk) _ 15 [(3, l0), (1, l1), (1, l2), (0, 0)] [(3, s0)] σ b r rfl (mJ_self _ _ _) ((E_Mo_testOf_15 G l0 l1 l2 s0 σ).trans h) hk
  intro i L st σ b r hj hb hk
  unfold F_Mo_testOf_15 at hb
  split at hb
  · have key : ∀ (k0 k1 k2 u1 u0 : Int) (k3 : mV) (σ : mS) (b : ((Int × mS) ⊕ (Int × mS))) (r : Int × mS), mJ [(3, l0), (1, l1), (1, l2), (0, 0)] 16 [(3, k0), (1, k1), (1, k2), k3] [([(4, 26)], [0, 1])] → (M_Mo_testOf_16 G k0 k1 k2 u1 u0 σ) = some b → (Sum.elim (fun (s : Int × mS) r => mG (d + 1) 105 4 [(3, l0), (1, l1), (1, s.1), (0, 0)] [] s.2 r) (fun b r => r = b)) b r → mG (d + 1) 105 16 [(3, k0), (1, k1), (1, k2), k3] [(1, u1), (3, u0)] σ r := by
      intro k0 k1 k2 u1 u0 k3 σ b r hj hb hk
      have e0 : k0 = l0 := (Prod.mk.inj (Option.some.inj ((hj.1 rfl).1))).2
      subst e0
      have e1 : k1 = l1 := (Prod.mk.inj (Option.some.inj ((hj.1 rfl).2.1))).2
      subst e1
      exact (T_Mo_testOf_16 hC hb hk).lle (lle_cons (lle_cons (lle_cons (lle_dead lle_nil))))
    exact key _ _ _ _ _ _ σ b r hj hb hk
  · cases hb
set_option maxRecDepth 100000 in
theorem TB_Mo_testOf_4 {G : Nat → List mV → mS → Option (Int × mS)} {d : Nat} (hC : ∀ k as σ p, C_Mo_testOf G k as σ = some p → mEx d k as σ p) {l0 l1 l2 : Int} {σ : mS} {b : ((Int × mS) ⊕ (Int × mS))} {r : Int × mS} (h : B_Mo_testOf_4 G l0 l1 l2 σ = some b) (hk : (Sum.elim (fun (s : Int × mS) r => mG (d + 1) 105 4 [(3, l0), (1, l1), (1, s.1), (0, 0)] [] s.2 r) (fun b r => r = b)) b r) : mG (d + 1) 105 4 [(3, l0), (1, l1), (1, l2), (0, 0)] [] σ r := by
  refine mblk_ok2 P_Mo_testOf (F := F_Mo_testOf_4 G) (Sum.elim (fun (s : Int × mS) r => mG (d + 1) 105 4 [(3, l0), (1, l1), (1, s.1), (0, 0)] [] s.2 r) (fun b r => r = b)) [([(4, 26)], [0, 1])] [(4, 14), (27, 28)] [(3, l0), (1, l1), (1, l2), (0, 0)] (by decide +kernel) rfl hC ?_ (fun v σ b r hb hk => by cases hb; exact hk) _ 4 [(3, l0), (1, l1), (1, l2), (0, 0)] [] σ b r rfl (mJ_self _ _ _) ((E_Mo_testOf_4 G l0 l1 l2 σ).trans h) hk
  intro i L st σ b r hj hb hk
  unfold F_Mo_testOf_4 at hb
  split at hb
  · have key : ∀ (k0 k1 k2 u0 : Int) (k3 : mV) (σ : mS) (b : ((Int × mS) ⊕ (Int × mS))) (r : Int × mS), mJ [(3, l0), (1, l1), (1, l2), (0, 0)] 15 [(3, k0), (1, k1), (1, k2), k3] [([(4, 26)], [0, 1])] → (M_Mo_testOf_15 G k0 k1 k2 u0 σ) = some b → (Sum.elim (fun (s : Int × mS) r => mG (d + 1) 105 4 [(3, l0), (1, l1), (1, s.1), (0, 0)] [] s.2 r) (fun b r => r = b)) b r → mG (d + 1) 105 15 [(3, k0), (1, k1), (1, k2), k3] [(3, u0)] σ r := by
      intro k0 k1 k2 u0 k3 σ b r hj hb hk
      have e0 : k0 = l0 := (Prod.mk.inj (Option.some.inj ((hj.1 rfl).1))).2
      subst e0
      have e1 : k1 = l1 := (Prod.mk.inj (Option.some.inj ((hj.1 rfl).2.1))).2
      subst e1
      exact (T_Mo_testOf_15 hC hb hk).lle (lle_cons (lle_cons (lle_cons (lle_dead lle_nil))))
    exact key _ _ _ _ _ σ b r hj hb hk
  · have key : ∀ (k0 k1 k2 u1 u0 : Int) (k3 : mV) (σ : mS) (b : ((Int × mS) ⊕ (Int × mS))) (r : Int × mS), mJ [(3, l0), (1, l1), (1, l2), (0, 0)] 16 [(3, k0), (1, k1), (1, k2), k3] [([(4, 26)], [0, 1])] → (M_Mo_testOf_16 G k0 k1 k2 u1 u0 σ) = some b → (Sum.elim (fun (s : Int × mS) r => mG (d + 1) 105 4 [(3, l0), (1, l1), (1, s.1), (0, 0)] [] s.2 r) (fun b r => r = b)) b r → mG (d + 1) 105 16 [(3, k0), (1, k1), (1, k2), k3] [(1, u1), (3, u0)] σ r := by
      intro k0 k1 k2 u1 u0 k3 σ b r hj hb hk
      have e0 : k0 = l0 := (Prod.mk.inj (Option.some.inj ((hj.1 rfl).1))).2
      subst e0
      have e1 : k1 = l1 := (Prod.mk.inj (Option.some.inj ((hj.1 rfl).2.1))).2
      subst e1
      exact (T_Mo_testOf_16 hC hb hk).lle (lle_cons (lle_cons (lle_cons (lle_dead lle_nil))))
    exact key _ _ _ _ _ _ σ b r hj hb hk
  · cases hb
set_option maxRecDepth 100000 in
theorem T_Mo_testOf_4 {G : Nat → List mV → mS → Option (Int × mS)} {d : Nat} (hC : ∀ k as σ p, C_Mo_testOf G k as σ = some p → mEx d k as σ p) {l0 l1 l2 : Int} {σ : mS} {b : Int × mS} {r : Int × mS} (h : M_Mo_testOf_4 G l0 l1 l2 σ = some b) (hk : (fun b r => r = b) b r) : mG (d + 1) 105 4 [(3, l0), (1, l1), (1, l2), (0, 0)] [] σ r :=
  miter_ok (G := fun (s : Int × mS) r => mG (d + 1) 105 4 [(3, l0), (1, l1), (1, s.1), (0, 0)] [] s.2 r) (K := (fun b r => r = b)) (fun s x r hs hx => TB_Mo_testOf_4 hC hs hx) mN _ b r h hk
set_option maxRecDepth 100000 in
theorem T_Mo_testOf_0 {G : Nat → List mV → mS → Option (Int × mS)} {d : Nat} (hC : ∀ k as σ p, C_Mo_testOf G k as σ = some p → mEx d k as σ p) {l0 l1 : Int} {σ : mS} {b : Int × mS} {r : Int × mS} (h : B_Mo_testOf G l0 l1 σ = some b) (hk : (fun b r => r = b) b r) : mG (d + 1) 105 0 (mInit 4 [(3, l0), (1, l1)]) [] σ r := by
  refine mblk_ok1 P_Mo_testOf (F := F_Mo_testOf_0 G) (fun b r => r = b) hC ?_ (fun v σ b r hb hk => by cases hb; exact hk) _ 0 (mInit 4 [(3, l0), (1, l1)]) [] σ b r ((E_Mo_testOf_0 G l0 l1 σ).trans h) hk
  intro i L st σ b r hb hk
  unfold F_Mo_testOf_0 at hb
  split at hb
  · have key : ∀ (k0 k1 k2 : Int) (k3 : mV) (σ : mS) (b : Int × mS) (r : Int × mS), (M_Mo_testOf_4 G k0 k1 k2 σ) = some b → (fun b r => r = b) b r → mG (d + 1) 105 4 [(3, k0), (1, k1), (1, k2), k3] [] σ r := by
      intro k0 k1 k2 k3 σ b r hb hk
      exact (T_Mo_testOf_4 hC hb hk).lle (lle_cons (lle_cons (lle_cons (lle_dead lle_nil))))
    exact key _ _ _ _ σ b r hb hk
  · cases hb
set_option maxRecDepth 100000 in
theorem T_Mo_testOf {G : Nat → List mV → mS → Option (Int × mS)} {d : Nat} (hG : ∀ k as σ p, G k as σ = some p → mEx d k as σ p) (hd : 62 ≤ d) {l0 l1 : Int} {σ : mS} {r : Int × mS} (h : B_Mo_testOf G l0 l1 σ = some r) : mEx (d + 1) 105 [(3, l0), (1, l1)] σ r :=
  ⟨by rw [P_Mo_testOf]; exact Nat.le_of_ble_eq_true rfl, by rw [P_Mo_testOf]; exact T_Mo_testOf_0 (TC_Mo_testOf hG hd) h rfl⟩
set_option maxRecDepth 100000 in
theorem P_Mo_bothOf : mProg 106 = (c_Mo_bothOf, 4) := rfl
set_option maxRecDepth 100000 in
theorem TC_Mo_bothOf {G : Nat → List mV → mS → Option (Int × mS)} {d : Nat} (hG : ∀ k as σ p, G k as σ = some p → mEx d k as σ p) (hd : 62 ≤ d) : ∀ k as σ p, C_Mo_bothOf G k as σ = some p → mEx d k as σ p := by
  intro k as σ p hp
  unfold C_Mo_bothOf at hp
  split at hp
  · exact (T_Mo_passes0 hp).up (Nat.le_trans (Nat.le_of_ble_eq_true rfl) hd)
  · exact hG _ _ _ _ hp
  · cases hp
set_option maxRecDepth 100000 in
theorem T_Mo_bothOf_16 {G : Nat → List mV → mS → Option (Int × mS)} {d : Nat} (hC : ∀ k as σ p, C_Mo_bothOf G k as σ = some p → mEx d k as σ p) {l0 l1 l2 s1 s0 : Int} {σ : mS} {b : ((Int × mS) ⊕ (Int × mS))} {r : Int × mS} (h : M_Mo_bothOf_16 G l0 l1 l2 s1 s0 σ = some b) (hk : (Sum.elim (fun (s : Int × mS) r => mG (d + 1) 106 4 [(3, l0), (1, l1), (1, s.1), (0, 0)] [] s.2 r) (fun b r => r = b)) b r) : mG (d + 1) 106 16 [(3, l0), (1, l1), (1, l2), (0, 0)] [(1, s1), (3, s0)] σ r := by
  refine mblk_ok2 P_Mo_bothOf (F := F_Mo_bothOf_16 G) (Sum.elim (fun (s : Int × mS) r => mG (d + 1) 106 4 [(3, l0), (1, l1), (1, s.1), (0, 0)] [] s.2 r) (fun b r => r = b)) [([(4, 26)], [0, 1])] [(16, 26)] [(3, l0), (1, l1), (1, l2), (0, 0)] (by decide +kernel) rfl hC ?_ (fun v σ b r hb hk => by cases hb; exact hk) _ 16 [(3, l0), (1, l1), (1, l2), (0, 0)] [(1, s1), (3, s0)] σ b r rfl (mJ_self _ _ _) ((E_Mo_bothOf_16 G l0 l1 l2 s1 s0 σ).trans h) hk
  intro i L st σ b r hj hb hk
  unfold F_Mo_bothOf_16 at hb
  split at hb
  · have key : ∀ (k0 k1 k2 : Int) (k3 : mV) (σ : mS) (b : ((Int × mS) ⊕ (Int × mS))) (r : Int × mS), mJ [(3, l0), (1, l1), (1, l2), (0, 0)] 4 [(3, k0), (1, k1), (1, k2), k3] [([(4, 26)], [0, 1])] → (some (.inl (k2, σ))) = some b → (Sum.elim (fun (s : Int × mS) r => mG (d + 1) 106 4 [(3, l0), (1, l1), (1, s.1), (0, 0)] [] s.2 r) (fun b r => r = b)) b r → mG (d + 1) 106 4 [(3, k0), (1, k1), (1, k2), k3] [] σ r := by
      intro k0 k1 k2 k3 σ b r hj hb hk
      have e0 : k0 = l0 := (Prod.mk.inj (Option.some.inj ((hj.1 rfl).1))).2
      subst e0
      have e1 : k1 = l1 := (Prod.mk.inj (Option.some.inj ((hj.1 rfl).2.1))).2
      subst e1
      cases hb
      exact mG.lle hk (lle_cons (lle_cons (lle_cons (lle_dead lle_nil))))
    exact key _ _ _ _ σ b r hj hb hk
  · cases hb
set_option maxRecDepth 100000 in
theorem T_Mo_bothOf_15 {G : Nat → List mV → mS → Option (Int × mS)} {d : Nat} (hC : ∀ k as σ p, C_Mo_bothOf G k as σ = some p → mEx d k as σ p) {l0 l1 l2 s0 : Int} {σ : mS} {b : ((Int × mS) ⊕ (Int × mS))} {r : Int × mS} (h : M_Mo_bothOf_15 G l0 l1 l2 s0 σ = some b) (hk : (Sum.elim (fun (s : Int × mS) r => mG (d + 1) 106 4 [(3, l0), (1, l1), (1, s.1), (0, 0)] [] s.2 r) (fun b r => r = b)) b r) : mG (d + 1) 106 15 [(3, l0), (1, l1), (1, l2), (0, 0)] [(3, s0)] σ r := by
  refine mblk_ok2 P_Mo_bothOf (F := F_Mo_bothOf_15 G) (Sum.elim (fun (s : Int × mS) r => mG (d + 1) 106 4 [(3, l0), (1, l1), (1, s.1), (0, 0)] [] s.2 r) (fun b r => r = b)) [([(4, 26)], [0, 1])] [(15, 15)] [(3, l0), (1, l1), (1, l2), (0, 0)] (by decide +kernel) rfl hC ?_ (fun v σ b r hb hk => by cases hb; exact hk) _ 15 [(3, l0), (1, l1), (1, l2), (0, 0)] [(3, s0)] σ b r rfl (mJ_self _ _ _) ((E_Mo_bothOf_15 G l0 l1 l2 s0 σ).trans h) hk
  intro i L st σ b r hj hb hk
  unfold F_Mo_bothOf_15 at hb
  split at hb
  · have key : ∀ (k0 k1 k2 u1 u0 : Int) (k3 : mV) (σ : mS) (b : ((Int × mS) ⊕ (Int × mS))) (r : Int × mS), mJ [(3, l0), (1, l1), (1, l2), (0, 0)] 16 [(3, k0), (1, k1), (1, k2), k3] [([(4, 26)], [0, 1])] → (M_Mo_bothOf_16 G k0 k1 k2 u1 u0 σ) = some b → (Sum.elim (fun (s : Int × mS) r => mG (d + 1) 106 4 [(3, l0), (1, l1), (1, s.1), (0, 0)] [] s.2 r) (fun b r => r = b)) b r → mG (d + 1) 106 16 [(3, k0), (1, k1), (1, k2), k3] [(1, u1), (3, u0)] σ r := by
      intro k0 k1 k2 u1 u0 k3 σ b r hj hb hk
      have e0 : k0 = l0 := (Prod.mk.inj (Option.some.inj ((hj.1 rfl).1))).2
      subst e0
      have e1 : k1 = l1 := (Prod.mk.inj (Option.some.inj ((hj.1 rfl).2.1))).2
      subst e1
      exact (T_Mo_bothOf_16 hC hb hk).lle (lle_cons (lle_cons (lle_cons (lle_dead lle_nil))))
    exact key _ _ _ _ _ _ σ b r hj hb hk
  · cases hb
set_option maxRecDepth 100000 in
theorem TB_Mo_bothOf_4 {G : Nat → List mV → mS → Option (Int × mS)} {d : Nat} (hC : ∀ k as σ p, C_Mo_bothOf G k as σ = some p → mEx d k as σ p) {l0 l1 l2 : Int} {σ : mS} {b : ((Int × mS) ⊕ (Int × mS))} {r : Int × mS} (h : B_Mo_bothOf_4 G l0 l1 l2 σ = some b) (hk : (Sum.elim (fun (s : Int × mS) r => mG (d + 1) 106 4 [(3, l0), (1, l1), (1, s.1), (0, 0)] [] s.2 r) (fun b r => r = b)) b r) : mG (d + 1) 106 4 [(3, l0), (1, l1), (1, l2), (0, 0)] [] σ r := by
  refine mblk_ok2 P_Mo_bothOf (F := F_Mo_bothOf_4 G) (Sum.elim (fun (s : Int × mS) r => mG (d + 1) 106 4 [(3, l0), (1, l1), (1, s.1), (0, 0)] [] s.2 r) (fun b r => r = b)) [([(4, 26)], [0, 1])] [(4, 14), (27, 28)] [(3, l0), (1, l1), (1, l2), (0, 0)] (by decide +kernel) rfl hC ?_ (fun v σ b r hb hk => by cases hb; exact hk) _ 4 [(3, l0), (1, l1), (1, l2), (0, 0)] [] σ b r rfl (mJ_self _ _ _) ((E_Mo_bothOf_4 G l0 l1 l2 σ).trans h) hk
  intro i L st σ b r hj hb hk
  unfold F_Mo_bothOf_4 at hb
  split at hb
  · have key : ∀ (k0 k1 k2 u0 : Int) (k3 : mV) (σ : mS) (b : ((Int × mS) ⊕ (Int × mS))) (r : Int × mS), mJ [(3, l0), (1, l1), (1, l2), (0, 0)] 15 [(3, k0), (1, k1), (1, k2), k3] [([(4, 26)], [0, 1])] → (M_Mo_bothOf_15 G k0 k1 k2 u0 σ) = some b → (Sum.elim (fun (s : Int × mS) r => mG (d + 1) 106 4 [(3, l0), (1, l1), (1, s.1), (0, 0)] [] s.2 r) (fun b r => r = b)) b r → mG (d + 1) 106 15 [(3, k0), (1, k1), (1, k2), k3] [(3, u0)] σ r := by
      intro k0 k1 k2 u0 k3 σ b r hj hb hk
      have e0 : k0 = l0 := (Prod.mk.inj (Option.some.inj ((hj.1 rfl).1))).2
      subst e0
      have e1 : k1 = l1 := (Prod.mk.inj (Option.some.inj ((hj.1 rfl).2.1))).2
      subst e1
      exact (T_Mo_bothOf_15 hC hb hk).lle (lle_cons (lle_cons (lle_cons (lle_dead lle_nil))))
    exact key _ _ _ _ _ σ b r hj hb hk
  · have key : ∀ (k0 k1 k2 u1 u0 : Int) (k3 : mV) (σ : mS) (b : ((Int × mS) ⊕ (Int × mS))) (r : Int × mS), mJ [(3, l0), (1, l1), (1, l2), (0, 0)] 16 [(3, k0), (1, k1), (1, k2), k3] [([(4, 26)], [0, 1])] → (M_Mo_bothOf_16 G k0 k1 k2 u1 u0 σ) = some b → (Sum.elim (fun (s : Int × mS) r => mG (d + 1) 106 4 [(3, l0), (1, l1), (1, s.1), (0, 0)] [] s.2 r) (fun b r => r = b)) b r → mG (d + 1) 106 16 [(3, k0), (1, k1), (1, k2), k3] [(1, u1), (3, u0)] σ r := by
      intro k0 k1 k2 u1 u0 k3 σ b r hj hb hk
      have e0 : k0 = l0 := (Prod.mk.inj (Option.some.inj ((hj.1 rfl).1))).2
      subst e0
      have e1 : k1 = l1 := (Prod.mk.inj (Option.some.inj ((hj.1 rfl).2.1))).2
      subst e1
      exact (T_Mo_bothOf_16 hC hb hk).lle (lle_cons (lle_cons (lle_cons (lle_dead lle_nil))))
    exact key _ _ _ _ _ _ σ b r hj hb hk
  · cases hb
set_option maxRecDepth 100000 in
theorem T_Mo_bothOf_4 {G : Nat → List mV → mS → Option (Int × mS)} {d : Nat} (hC : ∀ k as σ p, C_Mo_bothOf G k as σ = some p → mEx d k as σ p) {l0 l1 l2 : Int} {σ : mS} {b : Int × mS} {r : Int × mS} (h : M_Mo_bothOf_4 G l0 l1 l2 σ = some b) (hk : (fun b r => r = b) b r) : mG (d + 1) 106 4 [(3, l0), (1, l1), (1, l2), (0, 0)] [] σ r :=
  miter_ok (G := fun (s : Int × mS) r => mG (d + 1) 106 4 [(3, l0), (1, l1), (1, s.1), (0, 0)] [] s.2 r) (K := (fun b r => r = b)) (fun s x r hs hx => TB_Mo_bothOf_4 hC hs hx) mN _ b r h hk
set_option maxRecDepth 100000 in
theorem T_Mo_bothOf_0 {G : Nat → List mV → mS → Option (Int × mS)} {d : Nat} (hC : ∀ k as σ p, C_Mo_bothOf G k as σ = some p → mEx d k as σ p) {l0 l1 : Int} {σ : mS} {b : Int × mS} {r : Int × mS} (h : B_Mo_bothOf G l0 l1 σ = some b) (hk : (fun b r => r = b) b r) : mG (d + 1) 106 0 (mInit 4 [(3, l0), (1, l1)]) [] σ r := by
  refine mblk_ok1 P_Mo_bothOf (F := F_Mo_bothOf_0 G) (fun b r => r = b) hC ?_ (fun v σ b r hb hk => by cases hb; exact hk) _ 0 (mInit 4 [(3, l0), (1, l1)]) [] σ b r ((E_Mo_bothOf_0 G l0 l1 σ).trans h) hk
  intro i L st σ b r hb hk
  unfold F_Mo_bothOf_0 at hb
  split at hb
  · have key : ∀ (k0 k1 k2 : Int) (k3 : mV) (σ : mS) (b : Int × mS) (r : Int × mS), (M_Mo_bothOf_4 G k0 k1 k2 σ) = some b → (fun b r => r = b) b r → mG (d + 1) 106 4 [(3, k0), (1, k1), (1, k2), k3] [] σ r := by
      intro k0 k1 k2 k3 σ b r hb hk
      exact (T_Mo_bothOf_4 hC hb hk).lle (lle_cons (lle_cons (lle_cons (lle_dead lle_nil))))
    exact key _ _ _ _ σ b r hb hk
  · cases hb
set_option maxRecDepth 100000 in
theorem T_Mo_bothOf {G : Nat → List mV → mS → Option (Int × mS)} {d : Nat} (hG : ∀ k as σ p, G k as σ = some p → mEx d k as σ p) (hd : 62 ≤ d) {l0 l1 : Int} {σ : mS} {r : Int × mS} (h : B_Mo_bothOf G l0 l1 σ = some r) : mEx (d + 1) 106 [(3, l0), (1, l1)] σ r :=
  ⟨by rw [P_Mo_bothOf]; exact Nat.le_of_ble_eq_true rfl, by rw [P_Mo_bothOf]; exact T_Mo_bothOf_0 (TC_Mo_bothOf hG hd) h rfl⟩
set_option maxRecDepth 100000 in
theorem P_Mo_plainOf : mProg 107 = (c_Mo_plainOf, 3) := rfl
set_option maxRecDepth 100000 in
theorem TC_Mo_plainOf {G : Nat → List mV → mS → Option (Int × mS)} {d : Nat} (hG : ∀ k as σ p, G k as σ = some p → mEx d k as σ p) (hd : 62 ≤ d) : ∀ k as σ p, C_Mo_plainOf G k as σ = some p → mEx d k as σ p := by
  intro k as σ p hp
  unfold C_Mo_plainOf at hp
  split at hp
  · exact (T_Mo_passes0 hp).up (Nat.le_trans (Nat.le_of_ble_eq_true rfl) hd)
  · exact hG _ _ _ _ hp
  · cases hp
set_option maxRecDepth 100000 in
theorem TB_Mo_plainOf_2 {G : Nat → List mV → mS → Option (Int × mS)} {d : Nat} (hC : ∀ k as σ p, C_Mo_plainOf G k as σ = some p → mEx d k as σ p) {l0 l1 l2 : Int} {σ : mS} {b : ((Int × mS) ⊕ (Int × mS))} {r : Int × mS} (h : B_Mo_plainOf_2 G l0 l1 l2 σ = some b) (hk : (Sum.elim (fun (s : Int × mS) r => mG (d + 1) 107 2 [(3, l0), (1, l1), (1, s.1)] [] s.2 r) (fun b r => r = b)) b r) : mG (d + 1) 107 2 [(3, l0), (1, l1), (1, l2)] [] σ r := by
  refine mblk_ok2 P_Mo_plainOf (F := F_Mo_plainOf_2 G) (Sum.elim (fun (s : Int × mS) r => mG (d + 1) 107 2 [(3, l0), (1, l1), (1, s.1)] [] s.2 r) (fun b r => r = b)) [([(2, 12)], [0, 1])] [(2, 21)] [(3, l0), (1, l1), (1, l2)] (by decide +kernel) rfl hC ?_ (fun v σ b r hb hk => by cases hb; exact hk) _ 2 [(3, l0), (1, l1), (1, l2)] [] σ b r rfl (mJ_self _ _ _) ((E_Mo_plainOf_2 G l0 l1 l2 σ).trans h) hk
  intro i L st σ b r hj hb hk
  unfold F_Mo_plainOf_2 at hb
  split at hb
  · have key : ∀ (k0 k1 k2 : Int) (σ : mS) (b : ((Int × mS) ⊕ (Int × mS))) (r : Int × mS), mJ [(3, l0), (1, l1), (1, l2)] 2 [(3, k0), (1, k1), (1, k2)] [([(2, 12)], [0, 1])] → (some (.inl (k2, σ))) = some b → (Sum.elim (fun (s : Int × mS) r => mG (d + 1) 107 2 [(3, l0), (1, l1), (1, s.1)] [] s.2 r) (fun b r => r = b)) b r → mG (d + 1) 107 2 [(3, k0), (1, k1), (1, k2)] [] σ r := by
      intro k0 k1 k2 σ b r hj hb hk
      have e0 : k0 = l0 := (Prod.mk.inj (Option.some.inj ((hj.1 rfl).1))).2
      subst e0
      have e1 : k1 = l1 := (Prod.mk.inj (Option.some.inj ((hj.1 rfl).2.1))).2
      subst e1
      cases hb
      exact mG.lle hk (lle_cons (lle_cons (lle_cons lle_nil)))
    exact key _ _ _ σ b r hj hb hk
  · cases hb
set_option maxRecDepth 100000 in
theorem T_Mo_plainOf_2 {G : Nat → List mV → mS → Option (Int × mS)} {d : Nat} (hC : ∀ k as σ p, C_Mo_plainOf G k as σ = some p → mEx d k as σ p) {l0 l1 l2 : Int} {σ : mS} {b : Int × mS} {r : Int × mS} (h : M_Mo_plainOf_2 G l0 l1 l2 σ = some b) (hk : (fun b r => r = b) b r) : mG (d + 1) 107 2 [(3, l0), (1, l1), (1, l2)] [] σ r :=
  miter_ok (G := fun (s : Int × mS) r => mG (d + 1) 107 2 [(3, l0), (1, l1), (1, s.1)] [] s.2 r) (K := (fun b r => r = b)) (fun s x r hs hx => TB_Mo_plainOf_2 hC hs hx) mN _ b r h hk
set_option maxRecDepth 100000 in
theorem T_Mo_plainOf_0 {G : Nat → List mV → mS → Option (Int × mS)} {d : Nat} (hC : ∀ k as σ p, C_Mo_plainOf G k as σ = some p → mEx d k as σ p) {l0 l1 : Int} {σ : mS} {b : Int × mS} {r : Int × mS} (h : B_Mo_plainOf G l0 l1 σ = some b) (hk : (fun b r => r = b) b r) : mG (d + 1) 107 0 (mInit 3 [(3, l0), (1, l1)]) [] σ r := by
  refine mblk_ok1 P_Mo_plainOf (F := F_Mo_plainOf_0 G) (fun b r => r = b) hC ?_ (fun v σ b r hb hk => by cases hb; exact hk) _ 0 (mInit 3 [(3, l0), (1, l1)]) [] σ b r ((E_Mo_plainOf_0 G l0 l1 σ).trans h) hk
  intro i L st σ b r hb hk
  unfold F_Mo_plainOf_0 at hb
  split at hb
  · have key : ∀ (k0 k1 k2 : Int) (σ : mS) (b : Int × mS) (r : Int × mS), (M_Mo_plainOf_2 G k0 k1 k2 σ) = some b → (fun b r => r = b) b r → mG (d + 1) 107 2 [(3, k0), (1, k1), (1, k2)] [] σ r := by
      intro k0 k1 k2 σ b r hb hk
      exact (T_Mo_plainOf_2 hC hb hk).lle (lle_cons (lle_cons (lle_cons lle_nil)))
    exact key _ _ _ σ b r hb hk
  · cases hb
set_option maxRecDepth 100000 in
theorem T_Mo_plainOf {G : Nat → List mV → mS → Option (Int × mS)} {d : Nat} (hG : ∀ k as σ p, G k as σ = some p → mEx d k as σ p) (hd : 62 ≤ d) {l0 l1 : Int} {σ : mS} {r : Int × mS} (h : B_Mo_plainOf G l0 l1 σ = some r) : mEx (d + 1) 107 [(3, l0), (1, l1)] σ r :=
  ⟨by rw [P_Mo_plainOf]; exact Nat.le_of_ble_eq_true rfl, by rw [P_Mo_plainOf]; exact T_Mo_plainOf_0 (TC_Mo_plainOf hG hd) h rfl⟩
set_option maxRecDepth 100000 in
theorem P_Mo_positiveOf : mProg 108 = (c_Mo_positiveOf, 7) := rfl
set_option maxRecDepth 100000 in
theorem TC_Mo_positiveOf {G : Nat → List mV → mS → Option (Int × mS)} {d : Nat} (hG : ∀ k as σ p, G k as σ = some p → mEx d k as σ p) (hd : 62 ≤ d) : ∀ k as σ p, C_Mo_positiveOf G k as σ = some p → mEx d k as σ p := by
  intro k as σ p hp
  unfold C_Mo_positiveOf at hp
  split at hp
  · exact (T_Mo_sign hp).up (Nat.le_trans (Nat.le_of_ble_eq_true rfl) hd)
  · exact (T_Mo_codeAt hp).up (Nat.le_trans (Nat.le_of_ble_eq_true rfl) hd)
  · exact (T_Mo_passes0 hp).up (Nat.le_trans (Nat.le_of_ble_eq_true rfl) hd)
  · exact (TR_Mo_sumOf _ _ _ _ _ hp).up (by rw [mD_eq]; exact Nat.le_trans (Nat.le_of_ble_eq_true rfl) hd)
  · exact hG _ _ _ _ hp
  · cases hp
set_option maxRecDepth 100000 in
theorem T_Mo_positiveOf_0 {G : Nat → List mV → mS → Option (Int × mS)} {d : Nat} (hC : ∀ k as σ p, C_Mo_positiveOf G k as σ = some p → mEx d k as σ p) {l0 l1 : Int} {σ : mS} {b : Int × mS} {r : Int × mS} (h : B_Mo_positiveOf G l0 l1 σ = some b) (hk : (fun b r => r = b) b r) : mG (d + 1) 108 0 (mInit 7 [(3, l0), (1, l1)]) [] σ r := by
  refine mblk_ok1 P_Mo_positiveOf (F := F_Mo_positiveOf_0 G) (fun b r => r = b) hC ?_ (fun v σ b r hb hk => by cases hb; exact hk) _ 0 (mInit 7 [(3, l0), (1, l1)]) [] σ b r ((E_Mo_positiveOf_0 G l0 l1 σ).trans h) hk
  intro i L st σ b r hb hk
  cases hb
set_option maxRecDepth 100000 in
theorem T_Mo_positiveOf {G : Nat → List mV → mS → Option (Int × mS)} {d : Nat} (hG : ∀ k as σ p, G k as σ = some p → mEx d k as σ p) (hd : 62 ≤ d) {l0 l1 : Int} {σ : mS} {r : Int × mS} (h : B_Mo_positiveOf G l0 l1 σ = some r) : mEx (d + 1) 108 [(3, l0), (1, l1)] σ r :=
  ⟨by rw [P_Mo_positiveOf]; exact Nat.le_of_ble_eq_true rfl, by rw [P_Mo_positiveOf]; exact T_Mo_positiveOf_0 (TC_Mo_positiveOf hG hd) h rfl⟩
set_option maxRecDepth 100000 in
theorem TR_Mo_testOf : ∀ n k as σ r, R_Mo_testOf n k as σ = some r → mEx (62 + n) k as σ r := by
  intro n
  induction n with
  | zero => intro k as σ r h; cases h
  | succ n ih =>
    intro k as σ r h
    unfold R_Mo_testOf at h
    split at h
    · exact T_Mo_testOf ih (Nat.le_add_right _ _) h
    · exact T_Mo_bothOf ih (Nat.le_add_right _ _) h
    · exact T_Mo_plainOf ih (Nat.le_add_right _ _) h
    · exact T_Mo_positiveOf ih (Nat.le_add_right _ _) h
    · cases h
set_option maxRecDepth 100000 in
theorem P_Mo_warmthOf : mProg 109 = (c_Mo_warmthOf, 9) := rfl
set_option maxRecDepth 100000 in
theorem TC_Mo_warmthOf : ∀ k as σ p, C_Mo_warmthOf k as σ = some p → mEx 122 k as σ p := by
  intro k as σ p hp
  unfold C_Mo_warmthOf at hp
  split at hp
  · exact (T_Mo_riseOf hp).up (Nat.le_of_ble_eq_true rfl)
  · exact (T_Mo_passes0 hp).up (Nat.le_of_ble_eq_true rfl)
  · exact (TR_Mo_sumOf _ _ _ _ _ hp).up (by rw [mD_eq]; exact Nat.le_of_ble_eq_true rfl)
  · exact (TR_Mo_testOf _ _ _ _ _ hp).up (by rw [mD_eq]; exact Nat.le_of_ble_eq_true rfl)
  · cases hp
set_option maxRecDepth 100000 in
theorem T_Mo_warmthOf_131 {d : Nat} (hC : ∀ k as σ p, C_Mo_warmthOf k as σ = some p → mEx d k as σ p) {l0 l4 : Int} {σ : mS} {b : ((Int × mS) ⊕ (Int × mS))} {r : Int × mS} (h : M_Mo_warmthOf_131 l0 l4 σ = some b) (hk : (Sum.elim (fun (s : Int × mS) r => mG (d + 1) 109 73 [(3, l0), (0, 0), (0, 0), (0, 0), (1, s.1), (0, 0), (0, 0), (0, 0), (0, 0)] [] s.2 r) (fun b r => r = b)) b r) : mG (d + 1) 109 131 [(3, l0), (0, 0), (0, 0), (0, 0), (1, l4), (0, 0), (0, 0), (0, 0), (0, 0)] [] σ r := by
  refine mblk_ok2 P_Mo_warmthOf (F := F_Mo_warmthOf_131) (Sum.elim (fun (s : Int × mS) r => mG (d + 1) 109 73 [(3, l0), (0, 0), (0, 0), (0, 0), (1, s.1), (0, 0), (0, 0), (0, 0), (0, 0)] [] s.2 r) (fun b r => r = b)) [([(73, 137)], [0])] [(131, 137)] [(3, l0), (0, 0), (0, 0), (0, 0), (1, l4), (0, 0), (0, 0), (0, 0), (0, 0)] (by decide +kernel) rfl hC ?_ (fun v σ b r hb hk => by cases hb; exact hk) _ 131 [(3, l0), (0, 0), (0, 0), (0, 0), (1, l4), (0, 0), (0, 0), (0, 0), (0, 0)] [] σ b r rfl (mJ_self _ _ _) ((E_Mo_warmthOf_131 l0 l4 σ).trans h) hk
  intro i L st σ b r hj hb hk
  unfold F_Mo_warmthOf_131 at hb
  split at hb
  · have key : ∀ (k0 k4 : Int) (k1 k2 k3 k5 k6 k7 k8 : mV) (σ : mS) (b : ((Int × mS) ⊕ (Int × mS))) (r : Int × mS), mJ [(3, l0), (0, 0), (0, 0), (0, 0), (1, l4), (0, 0), (0, 0), (0, 0), (0, 0)] 73 [(3, k0), k1, k2, k3, (1, k4), k5, k6, k7, k8] [([(73, 137)], [0])] → (some (.inl (k4, σ))) = some b → (Sum.elim (fun (s : Int × mS) r => mG (d + 1) 109 73 [(3, l0), (0, 0), (0, 0), (0, 0), (1, s.1), (0, 0), (0, 0), (0, 0), (0, 0)] [] s.2 r) (fun b r => r = b)) b r → mG (d + 1) 109 73 [(3, k0), k1, k2, k3, (1, k4), k5, k6, k7, k8] [] σ r := by
      intro k0 k4 k1 k2 k3 k5 k6 k7 k8 σ b r hj hb hk
      have e0 : k0 = l0 := (Prod.mk.inj (Option.some.inj ((hj.1 rfl).1))).2
      subst e0
      cases hb
      exact mG.lle hk (lle_cons (lle_dead (lle_dead (lle_dead (lle_cons (lle_dead (lle_dead (lle_dead (lle_dead lle_nil)))))))))
    exact key _ _ _ _ _ _ _ _ _ σ b r hj hb hk
  · cases hb
set_option maxRecDepth 100000 in
theorem T_Mo_warmthOf_130 {d : Nat} (hC : ∀ k as σ p, C_Mo_warmthOf k as σ = some p → mEx d k as σ p) {l0 s0 : Int} {σ : mS} {b : ((Int × mS) ⊕ (Int × mS))} {r : Int × mS} (h : M_Mo_warmthOf_130 l0 s0 σ = some b) (hk : (Sum.elim (fun (s : Int × mS) r => mG (d + 1) 109 73 [(3, l0), (0, 0), (0, 0), (0, 0), (1, s.1), (0, 0), (0, 0), (0, 0), (0, 0)] [] s.2 r) (fun b r => r = b)) b r) : mG (d + 1) 109 130 [(3, l0), (0, 0), (0, 0), (0, 0), (0, 0), (0, 0), (0, 0), (0, 0), (0, 0)] [(1, s0)] σ r := by
  refine mblk_ok2 P_Mo_warmthOf (F := F_Mo_warmthOf_130) (Sum.elim (fun (s : Int × mS) r => mG (d + 1) 109 73 [(3, l0), (0, 0), (0, 0), (0, 0), (1, s.1), (0, 0), (0, 0), (0, 0), (0, 0)] [] s.2 r) (fun b r => r = b)) [([(73, 137)], [0])] [(130, 130)] [(3, l0), (0, 0), (0, 0), (0, 0), (0, 0), (0, 0), (0, 0), (0, 0), (0, 0)] (by decide +kernel) rfl hC ?_ (fun v σ b r hb hk => by cases hb; exact hk) _ 130 [(3, l0), (0, 0), (0, 0), (0, 0), (0, 0), (0, 0), (0, 0), (0, 0), (0, 0)] [(1, s0)] σ b r rfl (mJ_self _ _ _) ((E_Mo_warmthOf_130 l0 s0 σ).trans h) hk
  intro i L st σ b r hj hb hk
  unfold F_Mo_warmthOf_130 at hb
  split at hb
  · have key : ∀ (k0 k4 : Int) (k1 k2 k3 k5 k6 k7 k8 : mV) (σ : mS) (b : ((Int × mS) ⊕ (Int × mS))) (r : Int × mS), mJ [(3, l0), (0, 0), (0, 0), (0, 0), (0, 0), (0, 0), (0, 0), (0, 0), (0, 0)] 131 [(3, k0), k1, k2, k3, (1, k4), k5, k6, k7, k8] [([(73, 137)], [0])] → (M_Mo_warmthOf_131 k0 k4 σ) = some b → (Sum.elim (fun (s : Int × mS) r => mG (d + 1) 109 73 [(3, l0), (0, 0), (0, 0), (0, 0), (1, s.1), (0, 0), (0, 0), (0, 0), (0, 0)] [] s.2 r) (fun b r => r = b)) b r → mG (d + 1) 109 131 [(3, k0), k1, k2, k3, (1, k4), k5, k6, k7, k8] [] σ r := by
      intro k0 k4 k1 k2 k3 k5 k6 k7 k8 σ b r hj hb hk
      have e0 : k0 = l0 := (Prod.mk.inj (Option.some.inj ((hj.1 rfl).1))).2
      subst e0
      exact (T_Mo_warmthOf_131 hC hb hk).lle (lle_cons (lle_dead (lle_dead (lle_dead (lle_cons (lle_dead (lle_dead (lle_dead (lle_dead lle_nil)))))))))
    exact key _ _ _ _ _ _ _ _ _ σ b r hj hb hk
  · cases hb
set_option maxRecDepth 100000 in
theorem T_Mo_warmthOf_108 {d : Nat} (hC : ∀ k as σ p, C_Mo_warmthOf k as σ = some p → mEx d k as σ p) {l0 l4 l5 l7 s0 : Int} {σ : mS} {b : ((Int × mS) ⊕ (Int × mS))} {r : Int × mS} (h : M_Mo_warmthOf_108 l0 l4 l5 l7 s0 σ = some b) (hk : (Sum.elim (fun (s : Int × mS) r => mG (d + 1) 109 73 [(3, l0), (0, 0), (0, 0), (0, 0), (1, s.1), (0, 0), (0, 0), (0, 0), (0, 0)] [] s.2 r) (fun b r => r = b)) b r) : mG (d + 1) 109 108 [(3, l0), (0, 0), (0, 0), (0, 0), (1, l4), (2, l5), (0, 0), (1, l7), (0, 0)] [(1, s0)] σ r := by
  refine mblk_ok2 P_Mo_warmthOf (F := F_Mo_warmthOf_108) (Sum.elim (fun (s : Int × mS) r => mG (d + 1) 109 73 [(3, l0), (0, 0), (0, 0), (0, 0), (1, s.1), (0, 0), (0, 0), (0, 0), (0, 0)] [] s.2 r) (fun b r => r = b)) [([(73, 137)], [0])] [(108, 129)] [(3, l0), (0, 0), (0, 0), (0, 0), (1, l4), (2, l5), (0, 0), (1, l7), (0, 0)] (by decide +kernel) rfl hC ?_ (fun v σ b r hb hk => by cases hb; exact hk) _ 108 [(3, l0), (0, 0), (0, 0), (0, 0), (1, l4), (2, l5), (0, 0), (1, l7), (0, 0)] [(1, s0)] σ b r rfl (mJ_self _ _ _) ((E_Mo_warmthOf_108 l0 l4 l5 l7 s0 σ).trans h) hk
  intro i L st σ b r hj hb hk
  unfold F_Mo_warmthOf_108 at hb
  split at hb
  · have key : ∀ (k0 u0 : Int) (k1 k2 k3 k4 k5 k6 k7 k8 : mV) (σ : mS) (b : ((Int × mS) ⊕ (Int × mS))) (r : Int × mS), mJ [(3, l0), (0, 0), (0, 0), (0, 0), (1, l4), (2, l5), (0, 0), (1, l7), (0, 0)] 130 [(3, k0), k1, k2, k3, k4, k5, k6, k7, k8] [([(73, 137)], [0])] → (M_Mo_warmthOf_130 k0 u0 σ) = some b → (Sum.elim (fun (s : Int × mS) r => mG (d + 1) 109 73 [(3, l0), (0, 0), (0, 0), (0, 0), (1, s.1), (0, 0), (0, 0), (0, 0), (0, 0)] [] s.2 r) (fun b r => r = b)) b r → mG (d + 1) 109 130 [(3, k0), k1, k2, k3, k4, k5, k6, k7, k8] [(1, u0)] σ r := by
      intro k0 u0 k1 k2 k3 k4 k5 k6 k7 k8 σ b r hj hb hk
      have e0 : k0 = l0 := (Prod.mk.inj (Option.some.inj ((hj.1 rfl).1))).2
      subst e0
      exact (T_Mo_warmthOf_130 hC hb hk).lle (lle_cons (lle_dead (lle_dead (lle_dead (lle_dead (lle_dead (lle_dead (lle_dead (lle_dead lle_nil)))))))))
    exact key _ _ _ _ _ _ _ _ _ _ σ b r hj hb hk
  · have key : ∀ (k0 k4 : Int) (k1 k2 k3 k5 k6 k7 k8 : mV) (σ : mS) (b : ((Int × mS) ⊕ (Int × mS))) (r : Int × mS), mJ [(3, l0), (0, 0), (0, 0), (0, 0), (1, l4), (2, l5), (0, 0), (1, l7), (0, 0)] 131 [(3, k0), k1, k2, k3, (1, k4), k5, k6, k7, k8] [([(73, 137)], [0])] → (M_Mo_warmthOf_131 k0 k4 σ) = some b → (Sum.elim (fun (s : Int × mS) r => mG (d + 1) 109 73 [(3, l0), (0, 0), (0, 0), (0, 0), (1, s.1), (0, 0), (0, 0), (0, 0), (0, 0)] [] s.2 r) (fun b r => r = b)) b r → mG (d + 1) 109 131 [(3, k0), k1, k2, k3, (1, k4), k5, k6, k7, k8] [] σ r := by
      intro k0 k4 k1 k2 k3 k5 k6 k7 k8 σ b r hj hb hk
      have e0 : k0 = l0 := (Prod.mk.inj (Option.some.inj ((hj.1 rfl).1))).2
      subst e0
      exact (T_Mo_warmthOf_131 hC hb hk).lle (lle_cons (lle_dead (lle_dead (lle_dead (lle_cons (lle_dead (lle_dead (lle_dead (lle_dead lle_nil)))))))))
    exact key _ _ _ _ _ _ _ _ _ σ b r hj hb hk
  · cases hb
set_option maxRecDepth 100000 in
theorem T_Mo_warmthOf_105 {d : Nat} (hC : ∀ k as σ p, C_Mo_warmthOf k as σ = some p → mEx d k as σ p) {l0 l4 l5 l7 : Int} {σ : mS} {b : ((Int × mS) ⊕ (Int × mS))} {r : Int × mS} (h : M_Mo_warmthOf_105 l0 l4 l5 l7 σ = some b) (hk : (Sum.elim (fun (s : Int × mS) r => mG (d + 1) 109 73 [(3, l0), (0, 0), (0, 0), (0, 0), (1, s.1), (0, 0), (0, 0), (0, 0), (0, 0)] [] s.2 r) (fun b r => r = b)) b r) : mG (d + 1) 109 105 [(3, l0), (0, 0), (0, 0), (0, 0), (1, l4), (2, l5), (0, 0), (1, l7), (0, 0)] [] σ r := by
  refine mblk_ok2 P_Mo_warmthOf (F := F_Mo_warmthOf_105) (Sum.elim (fun (s : Int × mS) r => mG (d + 1) 109 73 [(3, l0), (0, 0), (0, 0), (0, 0), (1, s.1), (0, 0), (0, 0), (0, 0), (0, 0)] [] s.2 r) (fun b r => r = b)) [([(73, 137)], [0])] [(105, 106)] [(3, l0), (0, 0), (0, 0), (0, 0), (1, l4), (2, l5), (0, 0), (1, l7), (0, 0)] (by decide +kernel) rfl hC ?_ (fun v σ b r hb hk => by cases hb; exact hk) _ 105 [(3, l0), (0, 0), (0, 0), (0, 0), (1, l4), (2, l5), (0, 0), (1, l7), (0, 0)] [] σ b r rfl (mJ_self _ _ _) ((E_Mo_warmthOf_105 l0 l4 l5 l7 σ).trans h) hk
  intro i L st σ b r hj hb hk
  unfold F_Mo_warmthOf_105 at hb
  split at hb
  · have key : ∀ (k0 k4 k5 k7 u0 : Int) (k1 k2 k3 k6 k8 : mV) (σ : mS) (b : ((Int × mS) ⊕ (Int × mS))) (r : Int × mS), mJ [(3, l0), (0, 0), (0, 0), (0, 0), (1, l4), (2, l5), (0, 0), (1, l7), (0, 0)] 108 [(3, k0), k1, k2, k3, (1, k4), (2, k5), k6, (1, k7), k8] [([(73, 137)], [0])] → (M_Mo_warmthOf_108 k0 k4 k5 k7 u0 σ) = some b → (Sum.elim (fun (s : Int × mS) r => mG (d + 1) 109 73 [(3, l0), (0, 0), (0, 0), (0, 0), (1, s.1), (0, 0), (0, 0), (0, 0), (0, 0)] [] s.2 r) (fun b r => r = b)) b r → mG (d + 1) 109 108 [(3, k0), k1, k2, k3, (1, k4), (2, k5), k6, (1, k7), k8] [(1, u0)] σ r := by
      intro k0 k4 k5 k7 u0 k1 k2 k3 k6 k8 σ b r hj hb hk
      have e0 : k0 = l0 := (Prod.mk.inj (Option.some.inj ((hj.1 rfl).1))).2
      subst e0
      exact (T_Mo_warmthOf_108 hC hb hk).lle (lle_cons (lle_dead (lle_dead (lle_dead (lle_cons (lle_cons (lle_dead (lle_cons (lle_dead lle_nil)))))))))
    exact key _ _ _ _ _ _ _ _ _ _ σ b r hj hb hk
  · cases hb
set_option maxRecDepth 100000 in
theorem TB_Mo_warmthOf_73 {d : Nat} (hC : ∀ k as σ p, C_Mo_warmthOf k as σ = some p → mEx d k as σ p) {l0 l4 : Int} {σ : mS} {b : ((Int × mS) ⊕ (Int × mS))} {r : Int × mS} (h : B_Mo_warmthOf_73 l0 l4 σ = some b) (hk : (Sum.elim (fun (s : Int × mS) r => mG (d + 1) 109 73 [(3, l0), (0, 0), (0, 0), (0, 0), (1, s.1), (0, 0), (0, 0), (0, 0), (0, 0)] [] s.2 r) (fun b r => r = b)) b r) : mG (d + 1) 109 73 [(3, l0), (0, 0), (0, 0), (0, 0), (1, l4), (0, 0), (0, 0), (0, 0), (0, 0)] [] σ r := by
  refine mblk_ok2 P_Mo_warmthOf (F := F_Mo_warmthOf_73) (Sum.elim (fun (s : Int × mS) r => mG (d + 1) 109 73 [(3, l0), (0, 0), (0, 0), (0, 0), (1, s.1), (0, 0), (0, 0), (0, 0), (0, 0)] [] s.2 r) (fun b r => r = b)) [([(73, 137)], [0])] [(73, 104), (107, 107), (138, 139)] [(3, l0), (0, 0), (0, 0), (0, 0), (1, l4), (0, 0), (0, 0), (0, 0), (0, 0)] (by decide +kernel) rfl hC ?_ (fun v σ b r hb hk => by cases hb; exact hk) _ 73 [(3, l0), (0, 0), (0, 0), (0, 0), (1, l4), (0, 0), (0, 0), (0, 0), (0, 0)] [] σ b r rfl (mJ_self _ _ _) ((E_Mo_warmthOf_73 l0 l4 σ).trans h) hk
  intro i L st σ b r hj hb hk
  unfold F_Mo_warmthOf_73 at hb
  split at hb
  · have key : ∀ (k0 k4 k5 k7 : Int) (k1 k2 k3 k6 k8 : mV) (σ : mS) (b : ((Int × mS) ⊕ (Int × mS))) (r : Int × mS), mJ [(3, l0), (0, 0), (0, 0), (0, 0), (1, l4), (0, 0), (0, 0), (0, 0), (0, 0)] 105 [(3, k0), k1, k2, k3, (1, k4), (2, k5), k6, (1, k7), k8] [([(73, 137)], [0])] → (M_Mo_warmthOf_105 k0 k4 k5 k7 σ) = some b → (Sum.elim (fun (s : Int × mS) r => mG (d + 1) 109 73 [(3, l0), (0, 0), (0, 0), (0, 0), (1, s.1), (0, 0), (0, 0), (0, 0), (0, 0)] [] s.2 r) (fun b r => r = b)) b r → mG (d + 1) 109 105 [(3, k0), k1, k2, k3, (1, k4), (2, k5), k6, (1, k7), k8] [] σ r := by
      intro k0 k4 k5 k7 k1 k2 k3 k6 k8 σ b r hj hb hk
      have e0 : k0 = l0 := (Prod.mk.inj (Option.some.inj ((hj.1 rfl).1))).2
      subst e0
      exact (T_Mo_warmthOf_105 hC hb hk).lle (lle_cons (lle_dead (lle_dead (lle_dead (lle_cons (lle_cons (lle_dead (lle_cons (lle_dead lle_nil)))))))))
    exact key _ _ _ _ _ _ _ _ _ σ b r hj hb hk
  · have key : ∀ (k0 k4 k5 k7 u0 : Int) (k1 k2 k3 k6 k8 : mV) (σ : mS) (b : ((Int × mS) ⊕ (Int × mS))) (r : Int × mS), mJ [(3, l0), (0, 0), (0, 0), (0, 0), (1, l4), (0, 0), (0, 0), (0, 0), (0, 0)] 108 [(3, k0), k1, k2, k3, (1, k4), (2, k5), k6, (1, k7), k8] [([(73, 137)], [0])] → (M_Mo_warmthOf_108 k0 k4 k5 k7 u0 σ) = some b → (Sum.elim (fun (s : Int × mS) r => mG (d + 1) 109 73 [(3, l0), (0, 0), (0, 0), (0, 0), (1, s.1), (0, 0), (0, 0), (0, 0), (0, 0)] [] s.2 r) (fun b r => r = b)) b r → mG (d + 1) 109 108 [(3, k0), k1, k2, k3, (1, k4), (2, k5), k6, (1, k7), k8] [(1, u0)] σ r := by
      intro k0 k4 k5 k7 u0 k1 k2 k3 k6 k8 σ b r hj hb hk
      have e0 : k0 = l0 := (Prod.mk.inj (Option.some.inj ((hj.1 rfl).1))).2
      subst e0
      exact (T_Mo_warmthOf_108 hC hb hk).lle (lle_cons (lle_dead (lle_dead (lle_dead (lle_cons (lle_cons (lle_dead (lle_cons (lle_dead lle_nil)))))))))
    exact key _ _ _ _ _ _ _ _ _ _ σ b r hj hb hk
  · cases hb
set_option maxRecDepth 100000 in
theorem T_Mo_warmthOf_73 {d : Nat} (hC : ∀ k as σ p, C_Mo_warmthOf k as σ = some p → mEx d k as σ p) {l0 l4 : Int} {σ : mS} {b : Int × mS} {r : Int × mS} (h : M_Mo_warmthOf_73 l0 l4 σ = some b) (hk : (fun b r => r = b) b r) : mG (d + 1) 109 73 [(3, l0), (0, 0), (0, 0), (0, 0), (1, l4), (0, 0), (0, 0), (0, 0), (0, 0)] [] σ r :=
  miter_ok (G := fun (s : Int × mS) r => mG (d + 1) 109 73 [(3, l0), (0, 0), (0, 0), (0, 0), (1, s.1), (0, 0), (0, 0), (0, 0), (0, 0)] [] s.2 r) (K := (fun b r => r = b)) (fun s x r hs hx => TB_Mo_warmthOf_73 hC hs hx) mN _ b r h hk
set_option maxRecDepth 100000 in
theorem T_Mo_warmthOf_0 {d : Nat} (hC : ∀ k as σ p, C_Mo_warmthOf k as σ = some p → mEx d k as σ p) {l0 l1 l2 l3 : Int} {σ : mS} {b : Int × mS} {r : Int × mS} (h : M_Mo_warmthOf l0 l1 l2 l3 σ = some b) (hk : (fun b r => r = b) b r) : mG (d + 1) 109 0 (mInit 9 [(3, l0), (1, l1), (1, l2), (1, l3)]) [] σ r := by
  refine mblk_ok1 P_Mo_warmthOf (F := F_Mo_warmthOf_0) (fun b r => r = b) hC ?_ (fun v σ b r hb hk => by cases hb; exact hk) _ 0 (mInit 9 [(3, l0), (1, l1), (1, l2), (1, l3)]) [] σ b r ((E_Mo_warmthOf_0 l0 l1 l2 l3 σ).trans h) hk
  intro i L st σ b r hb hk
  unfold F_Mo_warmthOf_0 at hb
  split at hb
  · have key : ∀ (k0 k4 : Int) (k1 k2 k3 k5 k6 k7 k8 : mV) (σ : mS) (b : Int × mS) (r : Int × mS), (M_Mo_warmthOf_73 k0 k4 σ) = some b → (fun b r => r = b) b r → mG (d + 1) 109 73 [(3, k0), k1, k2, k3, (1, k4), k5, k6, k7, k8] [] σ r := by
      intro k0 k4 k1 k2 k3 k5 k6 k7 k8 σ b r hb hk
      exact (T_Mo_warmthOf_73 hC hb hk).lle (lle_cons (lle_dead (lle_dead (lle_dead (lle_cons (lle_dead (lle_dead (lle_dead (lle_dead lle_nil)))))))))
    exact key _ _ _ _ _ _ _ _ _ σ b r hb hk
  · cases hb
set_option maxRecDepth 100000 in
theorem T_Mo_warmthOf {l0 l1 l2 l3 : Int} {σ : mS} {r : Int × mS} (h : M_Mo_warmthOf l0 l1 l2 l3 σ = some r) : mEx 123 109 [(3, l0), (1, l1), (1, l2), (1, l3)] σ r :=
  ⟨by rw [P_Mo_warmthOf]; exact Nat.le_of_ble_eq_true rfl, by rw [P_Mo_warmthOf]; exact T_Mo_warmthOf_0 TC_Mo_warmthOf h rfl⟩
set_option maxRecDepth 100000 in
theorem P_Mo_warms : mProg 110 = (c_Mo_warms, 4) := rfl
set_option maxRecDepth 100000 in
theorem TC_Mo_warms : ∀ k as σ p, C_Mo_warms k as σ = some p → mEx 123 k as σ p := by
  intro k as σ p hp
  unfold C_Mo_warms at hp
  split at hp
  · exact (T_Mo_warmthOf hp).up (Nat.le_of_ble_eq_true rfl)
  · cases hp
set_option maxRecDepth 100000 in
theorem TB_Mo_warms_39 {d : Nat} (hC : ∀ k as σ p, C_Mo_warms k as σ = some p → mEx d k as σ p) {l0 l1 l2 l3 : Int} {σ : mS} {b : ((Int × mS) ⊕ ((Int × mS) ⊕ (Int × mS)))} {r : Int × mS} (h : B_Mo_warms_39 l0 l1 l2 l3 σ = some b) (hk : (Sum.elim (fun (s : Int × mS) r => mG (d + 1) 110 39 [(3, l0), (1, l1), (1, l2), (1, s.1)] [] s.2 r) (Sum.elim (fun (s : Int × mS) r => mG (d + 1) 110 34 [(3, l0), (1, l1), (1, s.1), (0, 0)] [] s.2 r) (fun b r => r = b))) b r) : mG (d + 1) 110 39 [(3, l0), (1, l1), (1, l2), (1, l3)] [] σ r := by
  refine mblk_ok2 P_Mo_warms (F := F_Mo_warms_39) (Sum.elim (fun (s : Int × mS) r => mG (d + 1) 110 39 [(3, l0), (1, l1), (1, l2), (1, s.1)] [] s.2 r) (Sum.elim (fun (s : Int × mS) r => mG (d + 1) 110 34 [(3, l0), (1, l1), (1, s.1), (0, 0)] [] s.2 r) (fun b r => r = b))) [([(39, 60)], [0, 1, 2]), ([(34, 62)], [0, 1])] [(39, 62)] [(3, l0), (1, l1), (1, l2), (1, l3)] (by decide +kernel) rfl hC ?_ (fun v σ b r hb hk => by cases hb; exact hk) _ 39 [(3, l0), (1, l1), (1, l2), (1, l3)] [] σ b r rfl (mJ_self _ _ _) ((E_Mo_warms_39 l0 l1 l2 l3 σ).trans h) hk
  intro i L st σ b r hj hb hk
  unfold F_Mo_warms_39 at hb
  split at hb
  · have key : ∀ (k0 k1 k2 : Int) (k3 : mV) (σ : mS) (b : ((Int × mS) ⊕ ((Int × mS) ⊕ (Int × mS)))) (r : Int × mS), mJ [(3, l0), (1, l1), (1, l2), (1, l3)] 34 [(3, k0), (1, k1), (1, k2), k3] [([(39, 60)], [0, 1, 2]), ([(34, 62)], [0, 1])] → (some (.inr (.inl (k2, σ)))) = some b → (Sum.elim (fun (s : Int × mS) r => mG (d + 1) 110 39 [(3, l0), (1, l1), (1, l2), (1, s.1)] [] s.2 r) (Sum.elim (fun (s : Int × mS) r => mG (d + 1) 110 34 [(3, l0), (1, l1), (1, s.1), (0, 0)] [] s.2 r) (fun b r => r = b))) b r → mG (d + 1) 110 34 [(3, k0), (1, k1), (1, k2), k3] [] σ r := by
      intro k0 k1 k2 k3 σ b r hj hb hk
      have e0 : k0 = l0 := (Prod.mk.inj (Option.some.inj ((hj.2.1 rfl).1))).2
      subst e0
      have e1 : k1 = l1 := (Prod.mk.inj (Option.some.inj ((hj.2.1 rfl).2.1))).2
      subst e1
      cases hb
      exact mG.lle hk (lle_cons (lle_cons (lle_cons (lle_dead lle_nil))))
    exact key _ _ _ _ σ b r hj hb hk
  · have key : ∀ (k0 k1 k2 k3 : Int) (σ : mS) (b : ((Int × mS) ⊕ ((Int × mS) ⊕ (Int × mS)))) (r : Int × mS), mJ [(3, l0), (1, l1), (1, l2), (1, l3)] 39 [(3, k0), (1, k1), (1, k2), (1, k3)] [([(39, 60)], [0, 1, 2]), ([(34, 62)], [0, 1])] → (some (.inl (k3, σ))) = some b → (Sum.elim (fun (s : Int × mS) r => mG (d + 1) 110 39 [(3, l0), (1, l1), (1, l2), (1, s.1)] [] s.2 r) (Sum.elim (fun (s : Int × mS) r => mG (d + 1) 110 34 [(3, l0), (1, l1), (1, s.1), (0, 0)] [] s.2 r) (fun b r => r = b))) b r → mG (d + 1) 110 39 [(3, k0), (1, k1), (1, k2), (1, k3)] [] σ r := by
      intro k0 k1 k2 k3 σ b r hj hb hk
      have e0 : k0 = l0 := (Prod.mk.inj (Option.some.inj ((hj.1 rfl).1))).2
      subst e0
      have e1 : k1 = l1 := (Prod.mk.inj (Option.some.inj ((hj.1 rfl).2.1))).2
      subst e1
      have e2 : k2 = l2 := (Prod.mk.inj (Option.some.inj ((hj.1 rfl).2.2.1))).2
      subst e2
      cases hb
      exact mG.lle hk (lle_cons (lle_cons (lle_cons (lle_cons lle_nil))))
    exact key _ _ _ _ σ b r hj hb hk
  · cases hb
set_option maxRecDepth 100000 in
theorem T_Mo_warms_39 {d : Nat} (hC : ∀ k as σ p, C_Mo_warms k as σ = some p → mEx d k as σ p) {l0 l1 l2 l3 : Int} {σ : mS} {b : ((Int × mS) ⊕ (Int × mS))} {r : Int × mS} (h : M_Mo_warms_39 l0 l1 l2 l3 σ = some b) (hk : (Sum.elim (fun (s : Int × mS) r => mG (d + 1) 110 34 [(3, l0), (1, l1), (1, s.1), (0, 0)] [] s.2 r) (fun b r => r = b)) b r) : mG (d + 1) 110 39 [(3, l0), (1, l1), (1, l2), (1, l3)] [] σ r :=
  miter_ok (G := fun (s : Int × mS) r => mG (d + 1) 110 39 [(3, l0), (1, l1), (1, l2), (1, s.1)] [] s.2 r) (K := (Sum.elim (fun (s : Int × mS) r => mG (d + 1) 110 34 [(3, l0), (1, l1), (1, s.1), (0, 0)] [] s.2 r) (fun b r => r = b))) (fun s x r hs hx => TB_Mo_warms_39 hC hs hx) mN _ b r h hk
set_option maxRecDepth 100000 in
theorem TB_Mo_warms_34 {d : Nat} (hC : ∀ k as σ p, C_Mo_warms k as σ = some p → mEx d k as σ p) {l0 l1 l2 : Int} {σ : mS} {b : ((Int × mS) ⊕ (Int × mS))} {r : Int × mS} (h : B_Mo_warms_34 l0 l1 l2 σ = some b) (hk : (Sum.elim (fun (s : Int × mS) r => mG (d + 1) 110 34 [(3, l0), (1, l1), (1, s.1), (0, 0)] [] s.2 r) (fun b r => r = b)) b r) : mG (d + 1) 110 34 [(3, l0), (1, l1), (1, l2), (0, 0)] [] σ r := by
  refine mblk_ok2 P_Mo_warms (F := F_Mo_warms_34) (Sum.elim (fun (s : Int × mS) r => mG (d + 1) 110 34 [(3, l0), (1, l1), (1, s.1), (0, 0)] [] s.2 r) (fun b r => r = b)) [([(34, 62)], [0, 1])] [(34, 38), (63, 63)] [(3, l0), (1, l1), (1, l2), (0, 0)] (by decide +kernel) rfl hC ?_ (fun v σ b r hb hk => by cases hb; exact hk) _ 34 [(3, l0), (1, l1), (1, l2), (0, 0)] [] σ b r rfl (mJ_self _ _ _) ((E_Mo_warms_34 l0 l1 l2 σ).trans h) hk
  intro i L st σ b r hj hb hk
  unfold F_Mo_warms_34 at hb
  split at hb
  · have key : ∀ (k0 k1 k2 k3 : Int) (σ : mS) (b : ((Int × mS) ⊕ (Int × mS))) (r : Int × mS), mJ [(3, l0), (1, l1), (1, l2), (0, 0)] 39 [(3, k0), (1, k1), (1, k2), (1, k3)] [([(34, 62)], [0, 1])] → (M_Mo_warms_39 k0 k1 k2 k3 σ) = some b → (Sum.elim (fun (s : Int × mS) r => mG (d + 1) 110 34 [(3, l0), (1, l1), (1, s.1), (0, 0)] [] s.2 r) (fun b r => r = b)) b r → mG (d + 1) 110 39 [(3, k0), (1, k1), (1, k2), (1, k3)] [] σ r := by
      intro k0 k1 k2 k3 σ b r hj hb hk
      have e0 : k0 = l0 := (Prod.mk.inj (Option.some.inj ((hj.1 rfl).1))).2
      subst e0
      have e1 : k1 = l1 := (Prod.mk.inj (Option.some.inj ((hj.1 rfl).2.1))).2
      subst e1
      exact (T_Mo_warms_39 hC hb hk).lle (lle_cons (lle_cons (lle_cons (lle_cons lle_nil))))
    exact key _ _ _ _ σ b r hj hb hk
  · cases hb
set_option maxRecDepth 100000 in
theorem T_Mo_warms_34 {d : Nat} (hC : ∀ k as σ p, C_Mo_warms k as σ = some p → mEx d k as σ p) {l0 l1 l2 : Int} {σ : mS} {b : Int × mS} {r : Int × mS} (h : M_Mo_warms_34 l0 l1 l2 σ = some b) (hk : (fun b r => r = b) b r) : mG (d + 1) 110 34 [(3, l0), (1, l1), (1, l2), (0, 0)] [] σ r :=
  miter_ok (G := fun (s : Int × mS) r => mG (d + 1) 110 34 [(3, l0), (1, l1), (1, s.1), (0, 0)] [] s.2 r) (K := (fun b r => r = b)) (fun s x r hs hx => TB_Mo_warms_34 hC hs hx) mN _ b r h hk
set_option maxRecDepth 100000 in
theorem T_Mo_warms_15 {d : Nat} (hC : ∀ k as σ p, C_Mo_warms k as σ = some p → mEx d k as σ p) {l0 l1 : Int} {σ : mS} {b : Int × mS} {r : Int × mS} (h : M_Mo_warms_15 l0 l1 σ = some b) (hk : (fun b r => r = b) b r) : mG (d + 1) 110 15 [(3, l0), (1, l1), (0, 0), (0, 0)] [] σ r := by
  refine mblk_ok1 P_Mo_warms (F := F_Mo_warms_15) (fun b r => r = b) hC ?_ (fun v σ b r hb hk => by cases hb; exact hk) _ 15 [(3, l0), (1, l1), (0, 0), (0, 0)] [] σ b r ((E_Mo_warms_15 l0 l1 σ).trans h) hk
  intro i L st σ b r hb hk
  unfold F_Mo_warms_15 at hb
  split at hb
  · have key : ∀ (k0 k1 k2 : Int) (k3 : mV) (σ : mS) (b : Int × mS) (r : Int × mS), (M_Mo_warms_34 k0 k1 k2 σ) = some b → (fun b r => r = b) b r → mG (d + 1) 110 34 [(3, k0), (1, k1), (1, k2), k3] [] σ r := by
      intro k0 k1 k2 k3 σ b r hb hk
      exact (T_Mo_warms_34 hC hb hk).lle (lle_cons (lle_cons (lle_cons (lle_dead lle_nil))))
    exact key _ _ _ _ σ b r hb hk
  · cases hb
set_option maxRecDepth 100000 in
theorem TB_Mo_warms_5 {d : Nat} (hC : ∀ k as σ p, C_Mo_warms k as σ = some p → mEx d k as σ p) {l0 l1 l2 : Int} {σ : mS} {b : ((Int × mS) ⊕ (Int × mS))} {r : Int × mS} (h : B_Mo_warms_5 l0 l1 l2 σ = some b) (hk : (Sum.elim (fun (s : Int × mS) r => mG (d + 1) 110 5 [(3, l0), (1, l1), (1, s.1), (0, 0)] [] s.2 r) (fun b r => r = b)) b r) : mG (d + 1) 110 5 [(3, l0), (1, l1), (1, l2), (0, 0)] [] σ r := by
  refine mblk_ok2 P_Mo_warms (F := F_Mo_warms_5) (Sum.elim (fun (s : Int × mS) r => mG (d + 1) 110 5 [(3, l0), (1, l1), (1, s.1), (0, 0)] [] s.2 r) (fun b r => r = b)) [([(5, 14)], [0, 1])] [(5, 14)] [(3, l0), (1, l1), (1, l2), (0, 0)] (by decide +kernel) rfl hC ?_ (fun v σ b r hb hk => by cases hb; exact hk) _ 5 [(3, l0), (1, l1), (1, l2), (0, 0)] [] σ b r rfl (mJ_self _ _ _) ((E_Mo_warms_5 l0 l1 l2 σ).trans h) hk
  intro i L st σ b r hj hb hk
  unfold F_Mo_warms_5 at hb
  split at hb
  · have key : ∀ (k0 k1 k2 : Int) (k3 : mV) (σ : mS) (b : ((Int × mS) ⊕ (Int × mS))) (r : Int × mS), mJ [(3, l0), (1, l1), (1, l2), (0, 0)] 5 [(3, k0), (1, k1), (1, k2), k3] [([(5, 14)], [0, 1])] → (some (.inl (k2, σ))) = some b → (Sum.elim (fun (s : Int × mS) r => mG (d + 1) 110 5 [(3, l0), (1, l1), (1, s.1), (0, 0)] [] s.2 r) (fun b r => r = b)) b r → mG (d + 1) 110 5 [(3, k0), (1, k1), (1, k2), k3] [] σ r := by
      intro k0 k1 k2 k3 σ b r hj hb hk
      have e0 : k0 = l0 := (Prod.mk.inj (Option.some.inj ((hj.1 rfl).1))).2
      subst e0
      have e1 : k1 = l1 := (Prod.mk.inj (Option.some.inj ((hj.1 rfl).2.1))).2
      subst e1
      cases hb
      exact mG.lle hk (lle_cons (lle_cons (lle_cons (lle_dead lle_nil))))
    exact key _ _ _ _ σ b r hj hb hk
  · have key : ∀ (k0 k1 : Int) (k2 k3 : mV) (σ : mS) (b : ((Int × mS) ⊕ (Int × mS))) (r : Int × mS), mJ [(3, l0), (1, l1), (1, l2), (0, 0)] 15 [(3, k0), (1, k1), k2, k3] [([(5, 14)], [0, 1])] → ((M_Mo_warms_15 k0 k1 σ).bind fun z => some (.inr z)) = some b → (Sum.elim (fun (s : Int × mS) r => mG (d + 1) 110 5 [(3, l0), (1, l1), (1, s.1), (0, 0)] [] s.2 r) (fun b r => r = b)) b r → mG (d + 1) 110 15 [(3, k0), (1, k1), k2, k3] [] σ r := by
      intro k0 k1 k2 k3 σ b r hj hb hk
      obtain ⟨z, hz, e⟩ := Option.bind_eq_some_iff.mp hb
      cases e
      exact (T_Mo_warms_15 hC hz hk).lle (lle_cons (lle_cons (lle_dead (lle_dead lle_nil))))
    exact key _ _ _ _ σ b r hj hb hk
  · cases hb
set_option maxRecDepth 100000 in
theorem T_Mo_warms_5 {d : Nat} (hC : ∀ k as σ p, C_Mo_warms k as σ = some p → mEx d k as σ p) {l0 l1 l2 : Int} {σ : mS} {b : Int × mS} {r : Int × mS} (h : M_Mo_warms_5 l0 l1 l2 σ = some b) (hk : (fun b r => r = b) b r) : mG (d + 1) 110 5 [(3, l0), (1, l1), (1, l2), (0, 0)] [] σ r :=
  miter_ok (G := fun (s : Int × mS) r => mG (d + 1) 110 5 [(3, l0), (1, l1), (1, s.1), (0, 0)] [] s.2 r) (K := (fun b r => r = b)) (fun s x r hs hx => TB_Mo_warms_5 hC hs hx) mN _ b r h hk
set_option maxRecDepth 100000 in
theorem T_Mo_warms_0 {d : Nat} (hC : ∀ k as σ p, C_Mo_warms k as σ = some p → mEx d k as σ p) {l0 l1 : Int} {σ : mS} {b : Int × mS} {r : Int × mS} (h : M_Mo_warms l0 l1 σ = some b) (hk : (fun b r => r = b) b r) : mG (d + 1) 110 0 (mInit 4 [(3, l0), (1, l1)]) [] σ r := by
  refine mblk_ok1 P_Mo_warms (F := F_Mo_warms_0) (fun b r => r = b) hC ?_ (fun v σ b r hb hk => by cases hb; exact hk) _ 0 (mInit 4 [(3, l0), (1, l1)]) [] σ b r ((E_Mo_warms_0 l0 l1 σ).trans h) hk
  intro i L st σ b r hb hk
  unfold F_Mo_warms_0 at hb
  split at hb
  · have key : ∀ (k0 k1 k2 : Int) (k3 : mV) (σ : mS) (b : Int × mS) (r : Int × mS), (M_Mo_warms_5 k0 k1 k2 σ) = some b → (fun b r => r = b) b r → mG (d + 1) 110 5 [(3, k0), (1, k1), (1, k2), k3] [] σ r := by
      intro k0 k1 k2 k3 σ b r hb hk
      exact (T_Mo_warms_5 hC hb hk).lle (lle_cons (lle_cons (lle_cons (lle_dead lle_nil))))
    exact key _ _ _ _ σ b r hb hk
  · have key : ∀ (k0 k1 : Int) (k2 k3 : mV) (σ : mS) (b : Int × mS) (r : Int × mS), (M_Mo_warms_15 k0 k1 σ) = some b → (fun b r => r = b) b r → mG (d + 1) 110 15 [(3, k0), (1, k1), k2, k3] [] σ r := by
      intro k0 k1 k2 k3 σ b r hb hk
      exact (T_Mo_warms_15 hC hb hk).lle (lle_cons (lle_cons (lle_dead (lle_dead lle_nil))))
    exact key _ _ _ _ σ b r hb hk
  · cases hb
set_option maxRecDepth 100000 in
theorem T_Mo_warms {l0 l1 : Int} {σ : mS} {r : Int × mS} (h : M_Mo_warms l0 l1 σ = some r) : mEx 124 110 [(3, l0), (1, l1)] σ r :=
  ⟨by rw [P_Mo_warms]; exact Nat.le_of_ble_eq_true rfl, by rw [P_Mo_warms]; exact T_Mo_warms_0 TC_Mo_warms h rfl⟩
