/-! the functions beside the machine: written by gen/corr.py -/
set_option maxRecDepth 100000 in
theorem P_Survey_crossing : mProg 227 = (c_Survey_crossing, 6) := rfl
set_option maxRecDepth 100000 in
theorem TC_Survey_crossing : ∀ k as σ p, C_Survey_crossing k as σ = some p → mEx 6 k as σ p := by
  intro k as σ p hp
  unfold C_Survey_crossing at hp
  split at hp
  · exact (T_Light_send hp).up (Nat.le_of_ble_eq_true rfl)
  · cases hp
set_option maxRecDepth 100000 in
theorem TB_Survey_crossing_33 {d : Nat} (hC : ∀ k as σ p, C_Survey_crossing k as σ = some p → mEx d k as σ p) {l0 l4 l5 : Int} {σ : mS} {b : ((Int × mS) ⊕ (Int × mS))} {r : Int × mS} (h : B_Survey_crossing_33 l0 l4 l5 σ = some b) (hk : (Sum.elim (fun (s : Int × mS) r => mG (d + 1) 227 33 [(3, l0), (0, 0), (0, 0), (0, 0), (1, l4), (1, s.1)] [] s.2 r) (fun b r => r = b)) b r) : mG (d + 1) 227 33 [(3, l0), (0, 0), (0, 0), (0, 0), (1, l4), (1, l5)] [] σ r := by
  refine mblk_ok2 P_Survey_crossing (F := F_Survey_crossing_33) (Sum.elim (fun (s : Int × mS) r => mG (d + 1) 227 33 [(3, l0), (0, 0), (0, 0), (0, 0), (1, l4), (1, s.1)] [] s.2 r) (fun b r => r = b)) [([(33, 45), (48, 49)], [0, 4])] [(33, 51)] [(3, l0), (0, 0), (0, 0), (0, 0), (1, l4), (1, l5)] (by decide +kernel) rfl hC ?_ (fun v σ b r hb hk => by cases hb; exact hk) _ 33 [(3, l0), (0, 0), (0, 0), (0, 0), (1, l4), (1, l5)] [] σ b r rfl (mJ_self _ _ _) ((E_Survey_crossing_33 l0 l4 l5 σ).trans h) hk
  intro i L st σ b r hj hb hk
  unfold F_Survey_crossing_33 at hb
  split at hb
  · have key : ∀ (k0 k4 k5 : Int) (k1 k2 k3 : mV) (σ : mS) (b : ((Int × mS) ⊕ (Int × mS))) (r : Int × mS), mJ [(3, l0), (0, 0), (0, 0), (0, 0), (1, l4), (1, l5)] 33 [(3, k0), k1, k2, k3, (1, k4), (1, k5)] [([(33, 45), (48, 49)], [0, 4])] → (some (.inl (k5, σ))) = some b → (Sum.elim (fun (s : Int × mS) r => mG (d + 1) 227 33 [(3, l0), (0, 0), (0, 0), (0, 0), (1, l4), (1, s.1)] [] s.2 r) (fun b r => r = b)) b r → mG (d + 1) 227 33 [(3, k0), k1, k2, k3, (1, k4), (1, k5)] [] σ r := by
      intro k0 k4 k5 k1 k2 k3 σ b r hj hb hk
      have e0 : k0 = l0 := (Prod.mk.inj (Option.some.inj ((hj.1 rfl).1))).2
      subst e0
      have e4 : k4 = l4 := (Prod.mk.inj (Option.some.inj ((hj.1 rfl).2.1))).2
      subst e4
      cases hb
      exact mG.lle hk (lle_cons (lle_dead (lle_dead (lle_dead (lle_cons (lle_cons lle_nil))))))
    exact key _ _ _ _ _ _ σ b r hj hb hk
  · cases hb
set_option maxRecDepth 100000 in
theorem T_Survey_crossing_33 {d : Nat} (hC : ∀ k as σ p, C_Survey_crossing k as σ = some p → mEx d k as σ p) {l0 l4 l5 : Int} {σ : mS} {b : Int × mS} {r : Int × mS} (h : M_Survey_crossing_33 l0 l4 l5 σ = some b) (hk : (fun b r => r = b) b r) : mG (d + 1) 227 33 [(3, l0), (0, 0), (0, 0), (0, 0), (1, l4), (1, l5)] [] σ r :=
  miter_ok (G := fun (s : Int × mS) r => mG (d + 1) 227 33 [(3, l0), (0, 0), (0, 0), (0, 0), (1, l4), (1, s.1)] [] s.2 r) (K := (fun b r => r = b)) (fun s x r hs hx => TB_Survey_crossing_33 hC hs hx) mN _ b r h hk
set_option maxRecDepth 100000 in
theorem T_Survey_crossing_0 {d : Nat} (hC : ∀ k as σ p, C_Survey_crossing k as σ = some p → mEx d k as σ p) {l0 l1 l2 : Int} {σ : mS} {b : Int × mS} {r : Int × mS} (h : M_Survey_crossing l0 l1 l2 σ = some b) (hk : (fun b r => r = b) b r) : mG (d + 1) 227 0 (mInit 6 [(3, l0), (1, l1), (1, l2)]) [] σ r := by
  refine mblk_ok1 P_Survey_crossing (F := F_Survey_crossing_0) (fun b r => r = b) hC ?_ (fun v σ b r hb hk => by cases hb; exact hk) _ 0 (mInit 6 [(3, l0), (1, l1), (1, l2)]) [] σ b r ((E_Survey_crossing_0 l0 l1 l2 σ).trans h) hk
  intro i L st σ b r hb hk
  unfold F_Survey_crossing_0 at hb
  split at hb
  · have key : ∀ (k0 k4 k5 : Int) (k1 k2 k3 : mV) (σ : mS) (b : Int × mS) (r : Int × mS), (M_Survey_crossing_33 k0 k4 k5 σ) = some b → (fun b r => r = b) b r → mG (d + 1) 227 33 [(3, k0), k1, k2, k3, (1, k4), (1, k5)] [] σ r := by
      intro k0 k4 k5 k1 k2 k3 σ b r hb hk
      exact (T_Survey_crossing_33 hC hb hk).lle (lle_cons (lle_dead (lle_dead (lle_dead (lle_cons (lle_cons lle_nil))))))
    exact key _ _ _ _ _ _ σ b r hb hk
  · cases hb
set_option maxRecDepth 100000 in
theorem T_Survey_crossing {l0 l1 l2 : Int} {σ : mS} {r : Int × mS} (h : M_Survey_crossing l0 l1 l2 σ = some r) : mEx 7 227 [(3, l0), (1, l1), (1, l2)] σ r :=
  ⟨by rw [P_Survey_crossing]; exact Nat.le_of_ble_eq_true rfl, by rw [P_Survey_crossing]; exact T_Survey_crossing_0 TC_Survey_crossing h rfl⟩
set_option maxRecDepth 100000 in
theorem P_RW_cross : mProg 26 = (c_RW_cross, 3) := rfl
set_option maxRecDepth 100000 in
theorem TC_RW_cross : ∀ k as σ p, C_RW_cross k as σ = some p → mEx 7 k as σ p := by
  intro k as σ p hp
  unfold C_RW_cross at hp
  split at hp
  · exact (T_RW_isAngle hp).up (Nat.le_of_ble_eq_true rfl)
  · exact (T_Light_standByTerms hp).up (Nat.le_of_ble_eq_true rfl)
  · exact (T_Survey_crossing hp).up (Nat.le_of_ble_eq_true rfl)
  · cases hp
set_option maxRecDepth 100000 in
theorem T_RW_cross_0 {d : Nat} (hC : ∀ k as σ p, C_RW_cross k as σ = some p → mEx d k as σ p) {l0 l1 l2 : Int} {σ : mS} {b : Int × mS} {r : Int × mS} (h : M_RW_cross l0 l1 l2 σ = some b) (hk : (fun b r => r = b) b r) : mG (d + 1) 26 0 (mInit 3 [(3, l0), (1, l1), (1, l2)]) [] σ r := by
  refine mblk_ok1 P_RW_cross (F := F_RW_cross_0) (fun b r => r = b) hC ?_ (fun v σ b r hb hk => by cases hb; exact hk) _ 0 (mInit 3 [(3, l0), (1, l1), (1, l2)]) [] σ b r ((E_RW_cross_0 l0 l1 l2 σ).trans h) hk
  intro i L st σ b r hb hk
  cases hb
set_option maxRecDepth 100000 in
theorem T_RW_cross {l0 l1 l2 : Int} {σ : mS} {r : Int × mS} (h : M_RW_cross l0 l1 l2 σ = some r) : mEx 8 26 [(3, l0), (1, l1), (1, l2)] σ r :=
  ⟨by rw [P_RW_cross]; exact Nat.le_of_ble_eq_true rfl, by rw [P_RW_cross]; exact T_RW_cross_0 TC_RW_cross h rfl⟩
set_option maxRecDepth 100000 in
theorem P_RW_hours : mProg 27 = (c_RW_hours, 4) := rfl
set_option maxRecDepth 100000 in
theorem TC_RW_hours : ∀ k as σ p, C_RW_hours k as σ = some p → mEx 7 k as σ p := by
  intro k as σ p hp
  unfold C_RW_hours at hp
  split at hp
  · exact (T_Field_look hp).up (Nat.le_of_ble_eq_true rfl)
  · exact (T_Field_raysTo hp).up (Nat.le_of_ble_eq_true rfl)
  · exact (T_Light_standByTerms hp).up (Nat.le_of_ble_eq_true rfl)
  · exact (T_Light_turnTo hp).up (Nat.le_of_ble_eq_true rfl)
  · exact (T_Road_hasThing hp).up (Nat.le_of_ble_eq_true rfl)
  · cases hp
set_option maxRecDepth 100000 in
theorem TB_RW_hours_14 {d : Nat} (hC : ∀ k as σ p, C_RW_hours k as σ = some p → mEx d k as σ p) {l0 l1 l2 l3 : Int} {σ : mS} {b : ((Int × Int × mS) ⊕ (Int × mS))} {r : Int × mS} (h : B_RW_hours_14 l0 l1 l2 l3 σ = some b) (hk : (Sum.elim (fun (s : Int × Int × mS) r => mG (d + 1) 27 14 [(3, l0), (1, l1), (1, s.1), (1, s.2.1)] [] s.2.2 r) (fun b r => r = b)) b r) : mG (d + 1) 27 14 [(3, l0), (1, l1), (1, l2), (1, l3)] [] σ r := by
  refine mblk_ok2 P_RW_hours (F := F_RW_hours_14) (Sum.elim (fun (s : Int × Int × mS) r => mG (d + 1) 27 14 [(3, l0), (1, l1), (1, s.1), (1, s.2.1)] [] s.2.2 r) (fun b r => r = b)) [([(14, 36)], [0, 1])] [(14, 38)] [(3, l0), (1, l1), (1, l2), (1, l3)] (by decide +kernel) rfl hC ?_ (fun v σ b r hb hk => by cases hb; exact hk) _ 14 [(3, l0), (1, l1), (1, l2), (1, l3)] [] σ b r rfl (mJ_self _ _ _) ((E_RW_hours_14 l0 l1 l2 l3 σ).trans h) hk
  intro i L st σ b r hj hb hk
  unfold F_RW_hours_14 at hb
  split at hb
  · have key : ∀ (k0 k1 k2 k3 : Int) (σ : mS) (b : ((Int × Int × mS) ⊕ (Int × mS))) (r : Int × mS), mJ [(3, l0), (1, l1), (1, l2), (1, l3)] 14 [(3, k0), (1, k1), (1, k2), (1, k3)] [([(14, 36)], [0, 1])] → (some (.inl (k2, k3, σ))) = some b → (Sum.elim (fun (s : Int × Int × mS) r => mG (d + 1) 27 14 [(3, l0), (1, l1), (1, s.1), (1, s.2.1)] [] s.2.2 r) (fun b r => r = b)) b r → mG (d + 1) 27 14 [(3, k0), (1, k1), (1, k2), (1, k3)] [] σ r := by
      intro k0 k1 k2 k3 σ b r hj hb hk
      have e0 : k0 = l0 := (Prod.mk.inj (Option.some.inj ((hj.1 rfl).1))).2
      subst e0
      have e1 : k1 = l1 := (Prod.mk.inj (Option.some.inj ((hj.1 rfl).2.1))).2
      subst e1
      cases hb
      exact mG.lle hk (lle_cons (lle_cons (lle_cons (lle_cons lle_nil))))
    exact key _ _ _ _ σ b r hj hb hk
  · cases hb
set_option maxRecDepth 100000 in
theorem T_RW_hours_14 {d : Nat} (hC : ∀ k as σ p, C_RW_hours k as σ = some p → mEx d k as σ p) {l0 l1 l2 l3 : Int} {σ : mS} {b : Int × mS} {r : Int × mS} (h : M_RW_hours_14 l0 l1 l2 l3 σ = some b) (hk : (fun b r => r = b) b r) : mG (d + 1) 27 14 [(3, l0), (1, l1), (1, l2), (1, l3)] [] σ r :=
  miter_ok (G := fun (s : Int × Int × mS) r => mG (d + 1) 27 14 [(3, l0), (1, l1), (1, s.1), (1, s.2.1)] [] s.2.2 r) (K := (fun b r => r = b)) (fun s x r hs hx => TB_RW_hours_14 hC hs hx) mN _ b r h hk
set_option maxRecDepth 100000 in
theorem T_RW_hours_0 {d : Nat} (hC : ∀ k as σ p, C_RW_hours k as σ = some p → mEx d k as σ p) {l0 l1 : Int} {σ : mS} {b : Int × mS} {r : Int × mS} (h : M_RW_hours l0 l1 σ = some b) (hk : (fun b r => r = b) b r) : mG (d + 1) 27 0 (mInit 4 [(3, l0), (1, l1)]) [] σ r := by
  refine mblk_ok1 P_RW_hours (F := F_RW_hours_0) (fun b r => r = b) hC ?_ (fun v σ b r hb hk => by cases hb; exact hk) _ 0 (mInit 4 [(3, l0), (1, l1)]) [] σ b r ((E_RW_hours_0 l0 l1 σ).trans h) hk
  intro i L st σ b r hb hk
  unfold F_RW_hours_0 at hb
  split at hb
  · have key : ∀ (k0 k1 k2 k3 : Int) (σ : mS) (b : Int × mS) (r : Int × mS), (M_RW_hours_14 k0 k1 k2 k3 σ) = some b → (fun b r => r = b) b r → mG (d + 1) 27 14 [(3, k0), (1, k1), (1, k2), (1, k3)] [] σ r := by
      intro k0 k1 k2 k3 σ b r hb hk
      exact (T_RW_hours_14 hC hb hk).lle (lle_cons (lle_cons (lle_cons (lle_cons lle_nil))))
    exact key _ _ _ _ σ b r hb hk
  · cases hb
set_option maxRecDepth 100000 in
theorem T_RW_hours {l0 l1 : Int} {σ : mS} {r : Int × mS} (h : M_RW_hours l0 l1 σ = some r) : mEx 8 27 [(3, l0), (1, l1)] σ r :=
  ⟨by rw [P_RW_hours]; exact Nat.le_of_ble_eq_true rfl, by rw [P_RW_hours]; exact T_RW_hours_0 TC_RW_hours h rfl⟩
set_option maxRecDepth 100000 in
theorem P_Survey_begin : mProg 228 = (c_Survey_begin, 1) := rfl
set_option maxRecDepth 100000 in
theorem TC_Survey_begin : ∀ k as σ p, C_Survey_begin k as σ = some p → mEx 1 k as σ p := by
  intro k as σ p hp
  unfold C_Survey_begin at hp
  split at hp
  · exact (T_JA_fill hp).up (Nat.le_of_ble_eq_true rfl)
  · cases hp
set_option maxRecDepth 100000 in
theorem T_Survey_begin_0 {d : Nat} (hC : ∀ k as σ p, C_Survey_begin k as σ = some p → mEx d k as σ p) {l0 : Int} {σ : mS} {b : Int × mS} {r : Int × mS} (h : M_Survey_begin l0 σ = some b) (hk : (fun b r => r = b) b r) : mG (d + 1) 228 0 (mInit 1 [(3, l0)]) [] σ r := by
  refine mblk_ok1 P_Survey_begin (F := F_Survey_begin_0) (fun b r => r = b) hC ?_ (fun v σ b r hb hk => by cases hb; exact hk) _ 0 (mInit 1 [(3, l0)]) [] σ b r ((E_Survey_begin_0 l0 σ).trans h) hk
  intro i L st σ b r hb hk
  cases hb
set_option maxRecDepth 100000 in
theorem T_Survey_begin {l0 : Int} {σ : mS} {r : Int × mS} (h : M_Survey_begin l0 σ = some r) : mEx 2 228 [(3, l0)] σ r :=
  ⟨by rw [P_Survey_begin]; exact Nat.le_of_ble_eq_true rfl, by rw [P_Survey_begin]; exact T_Survey_begin_0 TC_Survey_begin h rfl⟩
set_option maxRecDepth 100000 in
theorem P_Survey_wouldEndIn : mProg 229 = (c_Survey_wouldEndIn, 5) := rfl
set_option maxRecDepth 100000 in
theorem TC_Survey_wouldEndIn : ∀ k as σ p, C_Survey_wouldEndIn k as σ = some p → mEx 1 k as σ p := by
  intro k as σ p hp
  unfold C_Survey_wouldEndIn at hp
  split at hp
  · exact (T_Light_comesTo hp).up (Nat.le_of_ble_eq_true rfl)
  · cases hp
set_option maxRecDepth 100000 in
theorem T_Survey_wouldEndIn_0 {d : Nat} (hC : ∀ k as σ p, C_Survey_wouldEndIn k as σ = some p → mEx d k as σ p) {l0 l1 l2 : Int} {σ : mS} {b : Int × mS} {r : Int × mS} (h : M_Survey_wouldEndIn l0 l1 l2 σ = some b) (hk : (fun b r => r = b) b r) : mG (d + 1) 229 0 (mInit 5 [(3, l0), (1, l1), (1, l2)]) [] σ r := by
  refine mblk_ok1 P_Survey_wouldEndIn (F := F_Survey_wouldEndIn_0) (fun b r => r = b) hC ?_ (fun v σ b r hb hk => by cases hb; exact hk) _ 0 (mInit 5 [(3, l0), (1, l1), (1, l2)]) [] σ b r ((E_Survey_wouldEndIn_0 l0 l1 l2 σ).trans h) hk
  intro i L st σ b r hb hk
  cases hb
set_option maxRecDepth 100000 in
theorem T_Survey_wouldEndIn {l0 l1 l2 : Int} {σ : mS} {r : Int × mS} (h : M_Survey_wouldEndIn l0 l1 l2 σ = some r) : mEx 2 229 [(3, l0), (1, l1), (1, l2)] σ r :=
  ⟨by rw [P_Survey_wouldEndIn]; exact Nat.le_of_ble_eq_true rfl, by rw [P_Survey_wouldEndIn]; exact T_Survey_wouldEndIn_0 TC_Survey_wouldEndIn h rfl⟩
set_option maxRecDepth 100000 in
theorem P_Survey_addHours : mProg 230 = (c_Survey_addHours, 5) := rfl
set_option maxRecDepth 100000 in
theorem TC_Survey_addHours : ∀ k as σ p, C_Survey_addHours k as σ = some p → mEx 6 k as σ p := by
  intro k as σ p hp
  unfold C_Survey_addHours at hp
  split at hp
  · exact (T_Light_send hp).up (Nat.le_of_ble_eq_true rfl)
  · exact (T_Survey_wouldEndIn hp).up (Nat.le_of_ble_eq_true rfl)
  · cases hp
set_option maxRecDepth 100000 in
theorem TB_Survey_addHours_15 {d : Nat} (hC : ∀ k as σ p, C_Survey_addHours k as σ = some p → mEx d k as σ p) {l0 l1 l2 l3 l4 : Int} {σ : mS} {b : ((Int × mS) ⊕ ((Int × mS) ⊕ (Int × mS)))} {r : Int × mS} (h : B_Survey_addHours_15 l0 l1 l2 l3 l4 σ = some b) (hk : (Sum.elim (fun (s : Int × mS) r => mG (d + 1) 230 15 [(3, l0), (1, l1), (1, l2), (1, l3), (1, s.1)] [] s.2 r) (Sum.elim (fun (s : Int × mS) r => mG (d + 1) 230 2 [(3, l0), (1, l1), (1, l2), (1, s.1), (0, 0)] [] s.2 r) (fun b r => r = b))) b r) : mG (d + 1) 230 15 [(3, l0), (1, l1), (1, l2), (1, l3), (1, l4)] [] σ r := by
  refine mblk_ok2 P_Survey_addHours (F := F_Survey_addHours_15) (Sum.elim (fun (s : Int × mS) r => mG (d + 1) 230 15 [(3, l0), (1, l1), (1, l2), (1, l3), (1, s.1)] [] s.2 r) (Sum.elim (fun (s : Int × mS) r => mG (d + 1) 230 2 [(3, l0), (1, l1), (1, l2), (1, s.1), (0, 0)] [] s.2 r) (fun b r => r = b))) [([(15, 34)], [0, 1, 2, 3]), ([(2, 36)], [0, 1, 2])] [(15, 36)] [(3, l0), (1, l1), (1, l2), (1, l3), (1, l4)] (by decide +kernel) rfl hC ?_ (fun v σ b r hb hk => by cases hb; exact hk) _ 15 [(3, l0), (1, l1), (1, l2), (1, l3), (1, l4)] [] σ b r rfl (mJ_self _ _ _) ((E_Survey_addHours_15 l0 l1 l2 l3 l4 σ).trans h) hk
  intro i L st σ b r hj hb hk
  unfold F_Survey_addHours_15 at hb
  split at hb
  · have key : ∀ (k0 k1 k2 k3 : Int) (k4 : mV) (σ : mS) (b : ((Int × mS) ⊕ ((Int × mS) ⊕ (Int × mS)))) (r : Int × mS), mJ [(3, l0), (1, l1), (1, l2), (1, l3), (1, l4)] 2 [(3, k0), (1, k1), (1, k2), (1, k3), k4] [([(15, 34)], [0, 1, 2, 3]), ([(2, 36)], [0, 1, 2])] → (some (.inr (.inl (k3, σ)))) = some b → (Sum.elim (fun (s : Int × mS) r => mG (d + 1) 230 15 [(3, l0), (1, l1), (1, l2), (1, l3), (1, s.1)] [] s.2 r) (Sum.elim (fun (s : Int × mS) r => mG (d + 1) 230 2 [(3, l0), (1, l1), (1, l2), (1, s.1), (0, 0)] [] s.2 r) (fun b r => r = b))) b r → mG (d + 1) 230 2 [(3, k0), (1, k1), (1, k2), (1, k3), k4] [] σ r := by
      intro k0 k1 k2 k3 k4 σ b r hj hb hk
      have e0 : k0 = l0 := (Prod.mk.inj (Option.some.inj ((hj.2.1 rfl).1))).2
      subst e0
      have e1 : k1 = l1 := (Prod.mk.inj (Option.some.inj ((hj.2.1 rfl).2.1))).2
      subst e1
      have e2 : k2 = l2 := (Prod.mk.inj (Option.some.inj ((hj.2.1 rfl).2.2.1))).2
      subst e2
      cases hb
      exact mG.lle hk (lle_cons (lle_cons (lle_cons (lle_cons (lle_dead lle_nil)))))
    exact key _ _ _ _ _ σ b r hj hb hk
  · have key : ∀ (k0 k1 k2 k3 k4 : Int) (σ : mS) (b : ((Int × mS) ⊕ ((Int × mS) ⊕ (Int × mS)))) (r : Int × mS), mJ [(3, l0), (1, l1), (1, l2), (1, l3), (1, l4)] 15 [(3, k0), (1, k1), (1, k2), (1, k3), (1, k4)] [([(15, 34)], [0, 1, 2, 3]), ([(2, 36)], [0, 1, 2])] → (some (.inl (k4, σ))) = some b → (Sum.elim (fun (s : Int × mS) r => mG (d + 1) 230 15 [(3, l0), (1, l1), (1, l2), (1, l3), (1, s.1)] [] s.2 r) (Sum.elim (fun (s : Int × mS) r => mG (d + 1) 230 2 [(3, l0), (1, l1), (1, l2), (1, s.1), (0, 0)] [] s.2 r) (fun b r => r = b))) b r → mG (d + 1) 230 15 [(3, k0), (1, k1), (1, k2), (1, k3), (1, k4)] [] σ r := by
      intro k0 k1 k2 k3 k4 σ b r hj hb hk
      have e0 : k0 = l0 := (Prod.mk.inj (Option.some.inj ((hj.1 rfl).1))).2
      subst e0
      have e1 : k1 = l1 := (Prod.mk.inj (Option.some.inj ((hj.1 rfl).2.1))).2
      subst e1
      have e2 : k2 = l2 := (Prod.mk.inj (Option.some.inj ((hj.1 rfl).2.2.1))).2
      subst e2
      have e3 : k3 = l3 := (Prod.mk.inj (Option.some.inj ((hj.1 rfl).2.2.2.1))).2
      subst e3
      cases hb
      exact mG.lle hk (lle_cons (lle_cons (lle_cons (lle_cons (lle_cons lle_nil)))))
    exact key _ _ _ _ _ σ b r hj hb hk
  · cases hb
set_option maxRecDepth 100000 in
theorem T_Survey_addHours_15 {d : Nat} (hC : ∀ k as σ p, C_Survey_addHours k as σ = some p → mEx d k as σ p) {l0 l1 l2 l3 l4 : Int} {σ : mS} {b : ((Int × mS) ⊕ (Int × mS))} {r : Int × mS} (h : M_Survey_addHours_15 l0 l1 l2 l3 l4 σ = some b) (hk : (Sum.elim (fun (s : Int × mS) r => mG (d + 1) 230 2 [(3, l0), (1, l1), (1, l2), (1, s.1), (0, 0)] [] s.2 r) (fun b r => r = b)) b r) : mG (d + 1) 230 15 [(3, l0), (1, l1), (1, l2), (1, l3), (1, l4)] [] σ r :=
  miter_ok (G := fun (s : Int × mS) r => mG (d + 1) 230 15 [(3, l0), (1, l1), (1, l2), (1, l3), (1, s.1)] [] s.2 r) (K := (Sum.elim (fun (s : Int × mS) r => mG (d + 1) 230 2 [(3, l0), (1, l1), (1, l2), (1, s.1), (0, 0)] [] s.2 r) (fun b r => r = b))) (fun s x r hs hx => TB_Survey_addHours_15 hC hs hx) mN _ b r h hk
set_option maxRecDepth 100000 in
theorem TB_Survey_addHours_2 {d : Nat} (hC : ∀ k as σ p, C_Survey_addHours k as σ = some p → mEx d k as σ p) {l0 l1 l2 l3 : Int} {σ : mS} {b : ((Int × mS) ⊕ (Int × mS))} {r : Int × mS} (h : B_Survey_addHours_2 l0 l1 l2 l3 σ = some b) (hk : (Sum.elim (fun (s : Int × mS) r => mG (d + 1) 230 2 [(3, l0), (1, l1), (1, l2), (1, s.1), (0, 0)] [] s.2 r) (fun b r => r = b)) b r) : mG (d + 1) 230 2 [(3, l0), (1, l1), (1, l2), (1, l3), (0, 0)] [] σ r := by
  refine mblk_ok2 P_Survey_addHours (F := F_Survey_addHours_2) (Sum.elim (fun (s : Int × mS) r => mG (d + 1) 230 2 [(3, l0), (1, l1), (1, l2), (1, s.1), (0, 0)] [] s.2 r) (fun b r => r = b)) [([(2, 36)], [0, 1, 2])] [(2, 14), (37, 37)] [(3, l0), (1, l1), (1, l2), (1, l3), (0, 0)] (by decide +kernel) rfl hC ?_ (fun v σ b r hb hk => by cases hb; exact hk) _ 2 [(3, l0), (1, l1), (1, l2), (1, l3), (0, 0)] [] σ b r rfl (mJ_self _ _ _) ((E_Survey_addHours_2 l0 l1 l2 l3 σ).trans h) hk
  intro i L st σ b r hj hb hk
  unfold F_Survey_addHours_2 at hb
  split at hb
  · have key : ∀ (k0 k1 k2 k3 k4 : Int) (σ : mS) (b : ((Int × mS) ⊕ (Int × mS))) (r : Int × mS), mJ [(3, l0), (1, l1), (1, l2), (1, l3), (0, 0)] 15 [(3, k0), (1, k1), (1, k2), (1, k3), (1, k4)] [([(2, 36)], [0, 1, 2])] → (M_Survey_addHours_15 k0 k1 k2 k3 k4 σ) = some b → (Sum.elim (fun (s : Int × mS) r => mG (d + 1) 230 2 [(3, l0), (1, l1), (1, l2), (1, s.1), (0, 0)] [] s.2 r) (fun b r => r = b)) b r → mG (d + 1) 230 15 [(3, k0), (1, k1), (1, k2), (1, k3), (1, k4)] [] σ r := by
      intro k0 k1 k2 k3 k4 σ b r hj hb hk
      have e0 : k0 = l0 := (Prod.mk.inj (Option.some.inj ((hj.1 rfl).1))).2
      subst e0
      have e1 : k1 = l1 := (Prod.mk.inj (Option.some.inj ((hj.1 rfl).2.1))).2
      subst e1
      have e2 : k2 = l2 := (Prod.mk.inj (Option.some.inj ((hj.1 rfl).2.2.1))).2
      subst e2
      exact (T_Survey_addHours_15 hC hb hk).lle (lle_cons (lle_cons (lle_cons (lle_cons (lle_cons lle_nil)))))
    exact key _ _ _ _ _ σ b r hj hb hk
  · cases hb
set_option maxRecDepth 100000 in
theorem T_Survey_addHours_2 {d : Nat} (hC : ∀ k as σ p, C_Survey_addHours k as σ = some p → mEx d k as σ p) {l0 l1 l2 l3 : Int} {σ : mS} {b : Int × mS} {r : Int × mS} (h : M_Survey_addHours_2 l0 l1 l2 l3 σ = some b) (hk : (fun b r => r = b) b r) : mG (d + 1) 230 2 [(3, l0), (1, l1), (1, l2), (1, l3), (0, 0)] [] σ r :=
  miter_ok (G := fun (s : Int × mS) r => mG (d + 1) 230 2 [(3, l0), (1, l1), (1, l2), (1, s.1), (0, 0)] [] s.2 r) (K := (fun b r => r = b)) (fun s x r hs hx => TB_Survey_addHours_2 hC hs hx) mN _ b r h hk
set_option maxRecDepth 100000 in
theorem T_Survey_addHours_0 {d : Nat} (hC : ∀ k as σ p, C_Survey_addHours k as σ = some p → mEx d k as σ p) {l0 l1 l2 : Int} {σ : mS} {b : Int × mS} {r : Int × mS} (h : M_Survey_addHours l0 l1 l2 σ = some b) (hk : (fun b r => r = b) b r) : mG (d + 1) 230 0 (mInit 5 [(3, l0), (1, l1), (1, l2)]) [] σ r := by
  refine mblk_ok1 P_Survey_addHours (F := F_Survey_addHours_0) (fun b r => r = b) hC ?_ (fun v σ b r hb hk => by cases hb; exact hk) _ 0 (mInit 5 [(3, l0), (1, l1), (1, l2)]) [] σ b r ((E_Survey_addHours_0 l0 l1 l2 σ).trans h) hk
  intro i L st σ b r hb hk
  unfold F_Survey_addHours_0 at hb
  split at hb
  · have key : ∀ (k0 k1 k2 k3 : Int) (k4 : mV) (σ : mS) (b : Int × mS) (r : Int × mS), (M_Survey_addHours_2 k0 k1 k2 k3 σ) = some b → (fun b r => r = b) b r → mG (d + 1) 230 2 [(3, k0), (1, k1), (1, k2), (1, k3), k4] [] σ r := by
      intro k0 k1 k2 k3 k4 σ b r hb hk
      exact (T_Survey_addHours_2 hC hb hk).lle (lle_cons (lle_cons (lle_cons (lle_cons (lle_dead lle_nil)))))
    exact key _ _ _ _ _ σ b r hb hk
  · cases hb
set_option maxRecDepth 100000 in
theorem T_Survey_addHours {l0 l1 l2 : Int} {σ : mS} {r : Int × mS} (h : M_Survey_addHours l0 l1 l2 σ = some r) : mEx 7 230 [(3, l0), (1, l1), (1, l2)] σ r :=
  ⟨by rw [P_Survey_addHours]; exact Nat.le_of_ble_eq_true rfl, by rw [P_Survey_addHours]; exact T_Survey_addHours_0 TC_Survey_addHours h rfl⟩
set_option maxRecDepth 100000 in
theorem P_JI_bitCount : mProg 238 = (c_JI_bitCount, 1) := rfl
set_option maxRecDepth 100000 in
theorem TC_JI_bitCount : ∀ k as σ p, C_JI_bitCount k as σ = some p → mEx 0 k as σ p := by
  intro k as σ p hp
  cases hp
set_option maxRecDepth 100000 in
theorem T_JI_bitCount_0 {d : Nat} (hC : ∀ k as σ p, C_JI_bitCount k as σ = some p → mEx d k as σ p) {l0 : Int} {σ : mS} {b : Int × mS} {r : Int × mS} (h : M_JI_bitCount l0 σ = some b) (hk : (fun b r => r = b) b r) : mG (d + 1) 238 0 (mInit 1 [(1, l0)]) [] σ r := by
  refine mblk_ok1 P_JI_bitCount (F := F_JI_bitCount_0) (fun b r => r = b) hC ?_ (fun v σ b r hb hk => by cases hb; exact hk) _ 0 (mInit 1 [(1, l0)]) [] σ b r ((E_JI_bitCount_0 l0 σ).trans h) hk
  intro i L st σ b r hb hk
  cases hb
set_option maxRecDepth 100000 in
theorem T_JI_bitCount {l0 : Int} {σ : mS} {r : Int × mS} (h : M_JI_bitCount l0 σ = some r) : mEx 1 238 [(1, l0)] σ r :=
  ⟨by rw [P_JI_bitCount]; exact Nat.le_of_ble_eq_true rfl, by rw [P_JI_bitCount]; exact T_JI_bitCount_0 TC_JI_bitCount h rfl⟩
set_option maxRecDepth 100000 in
theorem P_Survey_hoursAt : mProg 231 = (c_Survey_hoursAt, 2) := rfl
set_option maxRecDepth 100000 in
theorem TC_Survey_hoursAt : ∀ k as σ p, C_Survey_hoursAt k as σ = some p → mEx 1 k as σ p := by
  intro k as σ p hp
  unfold C_Survey_hoursAt at hp
  split at hp
  · exact (T_JI_bitCount hp).up (Nat.le_of_ble_eq_true rfl)
  · cases hp
set_option maxRecDepth 100000 in
theorem T_Survey_hoursAt_0 {d : Nat} (hC : ∀ k as σ p, C_Survey_hoursAt k as σ = some p → mEx d k as σ p) {l0 l1 : Int} {σ : mS} {b : Int × mS} {r : Int × mS} (h : M_Survey_hoursAt l0 l1 σ = some b) (hk : (fun b r => r = b) b r) : mG (d + 1) 231 0 (mInit 2 [(3, l0), (1, l1)]) [] σ r := by
  refine mblk_ok1 P_Survey_hoursAt (F := F_Survey_hoursAt_0) (fun b r => r = b) hC ?_ (fun v σ b r hb hk => by cases hb; exact hk) _ 0 (mInit 2 [(3, l0), (1, l1)]) [] σ b r ((E_Survey_hoursAt_0 l0 l1 σ).trans h) hk
  intro i L st σ b r hb hk
  cases hb
set_option maxRecDepth 100000 in
theorem T_Survey_hoursAt {l0 l1 : Int} {σ : mS} {r : Int × mS} (h : M_Survey_hoursAt l0 l1 σ = some r) : mEx 2 231 [(3, l0), (1, l1)] σ r :=
  ⟨by rw [P_Survey_hoursAt]; exact Nat.le_of_ble_eq_true rfl, by rw [P_Survey_hoursAt]; exact T_Survey_hoursAt_0 TC_Survey_hoursAt h rfl⟩
set_option maxRecDepth 100000 in
theorem P_Survey_placeOfMostHours : mProg 232 = (c_Survey_placeOfMostHours, 3) := rfl
set_option maxRecDepth 100000 in
theorem TC_Survey_placeOfMostHours : ∀ k as σ p, C_Survey_placeOfMostHours k as σ = some p → mEx 2 k as σ p := by
  intro k as σ p hp
  unfold C_Survey_placeOfMostHours at hp
  split at hp
  · exact (T_Survey_hoursAt hp).up (Nat.le_of_ble_eq_true rfl)
  · cases hp
set_option maxRecDepth 100000 in
theorem TB_Survey_placeOfMostHours_8 {d : Nat} (hC : ∀ k as σ p, C_Survey_placeOfMostHours k as σ = some p → mEx d k as σ p) {l0 l1 l2 : Int} {σ : mS} {b : ((Int × Int × mS) ⊕ (Int × mS))} {r : Int × mS} (h : B_Survey_placeOfMostHours_8 l0 l1 l2 σ = some b) (hk : (Sum.elim (fun (s : Int × Int × mS) r => mG (d + 1) 232 8 [(3, l0), (1, s.1), (1, s.2.1)] [] s.2.2 r) (fun b r => r = b)) b r) : mG (d + 1) 232 8 [(3, l0), (1, l1), (1, l2)] [] σ r := by
  refine mblk_ok2 P_Survey_placeOfMostHours (F := F_Survey_placeOfMostHours_8) (Sum.elim (fun (s : Int × Int × mS) r => mG (d + 1) 232 8 [(3, l0), (1, s.1), (1, s.2.1)] [] s.2.2 r) (fun b r => r = b)) [([(8, 31)], [0])] [(8, 33)] [(3, l0), (1, l1), (1, l2)] (by decide +kernel) rfl hC ?_ (fun v σ b r hb hk => by cases hb; exact hk) _ 8 [(3, l0), (1, l1), (1, l2)] [] σ b r rfl (mJ_self _ _ _) ((E_Survey_placeOfMostHours_8 l0 l1 l2 σ).trans h) hk
  intro i L st σ b r hj hb hk
  unfold F_Survey_placeOfMostHours_8 at hb
  split at hb
  · have key : ∀ (k0 k1 k2 : Int) (σ : mS) (b : ((Int × Int × mS) ⊕ (Int × mS))) (r : Int × mS), mJ [(3, l0), (1, l1), (1, l2)] 8 [(3, k0), (1, k1), (1, k2)] [([(8, 31)], [0])] → (some (.inl (k1, k2, σ))) = some b → (Sum.elim (fun (s : Int × Int × mS) r => mG (d + 1) 232 8 [(3, l0), (1, s.1), (1, s.2.1)] [] s.2.2 r) (fun b r => r = b)) b r → mG (d + 1) 232 8 [(3, k0), (1, k1), (1, k2)] [] σ r := by
      intro k0 k1 k2 σ b r hj hb hk
      have e0 : k0 = l0 := (Prod.mk.inj (Option.some.inj ((hj.1 rfl).1))).2
      subst e0
      cases hb
      exact mG.lle hk (lle_cons (lle_cons (lle_cons lle_nil)))
    exact key _ _ _ σ b r hj hb hk
  · cases hb
set_option maxRecDepth 100000 in
theorem T_Survey_placeOfMostHours_8 {d : Nat} (hC : ∀ k as σ p, C_Survey_placeOfMostHours k as σ = some p → mEx d k as σ p) {l0 l1 l2 : Int} {σ : mS} {b : Int × mS} {r : Int × mS} (h : M_Survey_placeOfMostHours_8 l0 l1 l2 σ = some b) (hk : (fun b r => r = b) b r) : mG (d + 1) 232 8 [(3, l0), (1, l1), (1, l2)] [] σ r :=
  miter_ok (G := fun (s : Int × Int × mS) r => mG (d + 1) 232 8 [(3, l0), (1, s.1), (1, s.2.1)] [] s.2.2 r) (K := (fun b r => r = b)) (fun s x r hs hx => TB_Survey_placeOfMostHours_8 hC hs hx) mN _ b r h hk
set_option maxRecDepth 100000 in
theorem T_Survey_placeOfMostHours_0 {d : Nat} (hC : ∀ k as σ p, C_Survey_placeOfMostHours k as σ = some p → mEx d k as σ p) {l0 : Int} {σ : mS} {b : Int × mS} {r : Int × mS} (h : M_Survey_placeOfMostHours l0 σ = some b) (hk : (fun b r => r = b) b r) : mG (d + 1) 232 0 (mInit 3 [(3, l0)]) [] σ r := by
  refine mblk_ok1 P_Survey_placeOfMostHours (F := F_Survey_placeOfMostHours_0) (fun b r => r = b) hC ?_ (fun v σ b r hb hk => by cases hb; exact hk) _ 0 (mInit 3 [(3, l0)]) [] σ b r ((E_Survey_placeOfMostHours_0 l0 σ).trans h) hk
  intro i L st σ b r hb hk
  unfold F_Survey_placeOfMostHours_0 at hb
  split at hb
  · have key : ∀ (k0 k1 k2 : Int) (σ : mS) (b : Int × mS) (r : Int × mS), (M_Survey_placeOfMostHours_8 k0 k1 k2 σ) = some b → (fun b r => r = b) b r → mG (d + 1) 232 8 [(3, k0), (1, k1), (1, k2)] [] σ r := by
      intro k0 k1 k2 σ b r hb hk
      exact (T_Survey_placeOfMostHours_8 hC hb hk).lle (lle_cons (lle_cons (lle_cons lle_nil)))
    exact key _ _ _ σ b r hb hk
  · cases hb
set_option maxRecDepth 100000 in
theorem T_Survey_placeOfMostHours {l0 : Int} {σ : mS} {r : Int × mS} (h : M_Survey_placeOfMostHours l0 σ = some r) : mEx 3 232 [(3, l0)] σ r :=
  ⟨by rw [P_Survey_placeOfMostHours]; exact Nat.le_of_ble_eq_true rfl, by rw [P_Survey_placeOfMostHours]; exact T_Survey_placeOfMostHours_0 TC_Survey_placeOfMostHours h rfl⟩
set_option maxRecDepth 100000 in
theorem P_RW_mark : mProg 28 = (c_RW_mark, 5) := rfl
set_option maxRecDepth 100000 in
theorem TC_RW_mark : ∀ k as σ p, C_RW_mark k as σ = some p → mEx 7 k as σ p := by
  intro k as σ p hp
  unfold C_RW_mark at hp
  split at hp
  · exact (T_RW_isWithin hp).up (Nat.le_of_ble_eq_true rfl)
  · exact (T_RW_isTall hp).up (Nat.le_of_ble_eq_true rfl)
  · exact (T_Air_differsByHour hp).up (Nat.le_of_ble_eq_true rfl)
  · exact (T_Light_standByTerms hp).up (Nat.le_of_ble_eq_true rfl)
  · exact (T_Light_turnTo hp).up (Nat.le_of_ble_eq_true rfl)
  · exact (T_Survey_begin hp).up (Nat.le_of_ble_eq_true rfl)
  · exact (T_Survey_addHours hp).up (Nat.le_of_ble_eq_true rfl)
  · exact (T_Survey_hoursAt hp).up (Nat.le_of_ble_eq_true rfl)
  · exact (T_Survey_placeOfMostHours hp).up (Nat.le_of_ble_eq_true rfl)
  · cases hp
set_option maxRecDepth 100000 in
theorem TB_RW_mark_26 {d : Nat} (hC : ∀ k as σ p, C_RW_mark k as σ = some p → mEx d k as σ p) {l0 l1 l2 l3 l4 : Int} {σ : mS} {b : ((Int × mS) ⊕ (Int × mS))} {r : Int × mS} (h : B_RW_mark_26 l0 l1 l2 l3 l4 σ = some b) (hk : (Sum.elim (fun (s : Int × mS) r => mG (d + 1) 28 26 [(3, l0), (1, l1), (1, l2), (1, l3), (1, s.1)] [] s.2 r) (fun b r => r = b)) b r) : mG (d + 1) 28 26 [(3, l0), (1, l1), (1, l2), (1, l3), (1, l4)] [] σ r := by
  refine mblk_ok2 P_RW_mark (F := F_RW_mark_26) (Sum.elim (fun (s : Int × mS) r => mG (d + 1) 28 26 [(3, l0), (1, l1), (1, l2), (1, l3), (1, s.1)] [] s.2 r) (fun b r => r = b)) [([(26, 46)], [0, 1, 2, 3])] [(26, 62)] [(3, l0), (1, l1), (1, l2), (1, l3), (1, l4)] (by decide +kernel) rfl hC ?_ (fun v σ b r hb hk => by cases hb; exact hk) _ 26 [(3, l0), (1, l1), (1, l2), (1, l3), (1, l4)] [] σ b r rfl (mJ_self _ _ _) ((E_RW_mark_26 l0 l1 l2 l3 l4 σ).trans h) hk
  intro i L st σ b r hj hb hk
  unfold F_RW_mark_26 at hb
  split at hb
  · have key : ∀ (k0 k1 k2 k3 k4 : Int) (σ : mS) (b : ((Int × mS) ⊕ (Int × mS))) (r : Int × mS), mJ [(3, l0), (1, l1), (1, l2), (1, l3), (1, l4)] 26 [(3, k0), (1, k1), (1, k2), (1, k3), (1, k4)] [([(26, 46)], [0, 1, 2, 3])] → (some (.inl (k4, σ))) = some b → (Sum.elim (fun (s : Int × mS) r => mG (d + 1) 28 26 [(3, l0), (1, l1), (1, l2), (1, l3), (1, s.1)] [] s.2 r) (fun b r => r = b)) b r → mG (d + 1) 28 26 [(3, k0), (1, k1), (1, k2), (1, k3), (1, k4)] [] σ r := by
      intro k0 k1 k2 k3 k4 σ b r hj hb hk
      have e0 : k0 = l0 := (Prod.mk.inj (Option.some.inj ((hj.1 rfl).1))).2
      subst e0
      have e1 : k1 = l1 := (Prod.mk.inj (Option.some.inj ((hj.1 rfl).2.1))).2
      subst e1
      have e2 : k2 = l2 := (Prod.mk.inj (Option.some.inj ((hj.1 rfl).2.2.1))).2
      subst e2
      have e3 : k3 = l3 := (Prod.mk.inj (Option.some.inj ((hj.1 rfl).2.2.2.1))).2
      subst e3
      cases hb
      exact mG.lle hk (lle_cons (lle_cons (lle_cons (lle_cons (lle_cons lle_nil)))))
    exact key _ _ _ _ _ σ b r hj hb hk
  · cases hb
set_option maxRecDepth 100000 in
theorem T_RW_mark_26 {d : Nat} (hC : ∀ k as σ p, C_RW_mark k as σ = some p → mEx d k as σ p) {l0 l1 l2 l3 l4 : Int} {σ : mS} {b : Int × mS} {r : Int × mS} (h : M_RW_mark_26 l0 l1 l2 l3 l4 σ = some b) (hk : (fun b r => r = b) b r) : mG (d + 1) 28 26 [(3, l0), (1, l1), (1, l2), (1, l3), (1, l4)] [] σ r :=
  miter_ok (G := fun (s : Int × mS) r => mG (d + 1) 28 26 [(3, l0), (1, l1), (1, l2), (1, l3), (1, s.1)] [] s.2 r) (K := (fun b r => r = b)) (fun s x r hs hx => TB_RW_mark_26 hC hs hx) mN _ b r h hk
set_option maxRecDepth 100000 in
theorem T_RW_mark_0 {d : Nat} (hC : ∀ k as σ p, C_RW_mark k as σ = some p → mEx d k as σ p) {l0 l1 l2 : Int} {σ : mS} {b : Int × mS} {r : Int × mS} (h : M_RW_mark l0 l1 l2 σ = some b) (hk : (fun b r => r = b) b r) : mG (d + 1) 28 0 (mInit 5 [(3, l0), (1, l1), (1, l2)]) [] σ r := by
  refine mblk_ok1 P_RW_mark (F := F_RW_mark_0) (fun b r => r = b) hC ?_ (fun v σ b r hb hk => by cases hb; exact hk) _ 0 (mInit 5 [(3, l0), (1, l1), (1, l2)]) [] σ b r ((E_RW_mark_0 l0 l1 l2 σ).trans h) hk
  intro i L st σ b r hb hk
  unfold F_RW_mark_0 at hb
  split at hb
  · have key : ∀ (k0 k1 k2 k3 k4 : Int) (σ : mS) (b : Int × mS) (r : Int × mS), (M_RW_mark_26 k0 k1 k2 k3 k4 σ) = some b → (fun b r => r = b) b r → mG (d + 1) 28 26 [(3, k0), (1, k1), (1, k2), (1, k3), (1, k4)] [] σ r := by
      intro k0 k1 k2 k3 k4 σ b r hb hk
      exact (T_RW_mark_26 hC hb hk).lle (lle_cons (lle_cons (lle_cons (lle_cons (lle_cons lle_nil)))))
    exact key _ _ _ _ _ σ b r hb hk
  · cases hb
set_option maxRecDepth 100000 in
theorem T_RW_mark {l0 l1 l2 : Int} {σ : mS} {r : Int × mS} (h : M_RW_mark l0 l1 l2 σ = some r) : mEx 8 28 [(3, l0), (1, l1), (1, l2)] σ r :=
  ⟨by rw [P_RW_mark]; exact Nat.le_of_ble_eq_true rfl, by rw [P_RW_mark]; exact T_RW_mark_0 TC_RW_mark h rfl⟩
set_option maxRecDepth 100000 in
theorem P_Light_levelError : mProg 196 = (c_Light_levelError, 2) := rfl
set_option maxRecDepth 100000 in
theorem TC_Light_levelError : ∀ k as σ p, C_Light_levelError k as σ = some p → mEx 6 k as σ p := by
  intro k as σ p hp
  unfold C_Light_levelError at hp
  split at hp
  · exact (T_Light_send hp).up (Nat.le_of_ble_eq_true rfl)
  · exact (T_Light_comesTo hp).up (Nat.le_of_ble_eq_true rfl)
  · cases hp
set_option maxRecDepth 100000 in
theorem T_Light_levelError_0 {d : Nat} (hC : ∀ k as σ p, C_Light_levelError k as σ = some p → mEx d k as σ p) {l0 l1 : Int} {σ : mS} {b : Int × mS} {r : Int × mS} (h : M_Light_levelError l0 l1 σ = some b) (hk : (fun b r => r = b) b r) : mG (d + 1) 196 0 (mInit 2 [(3, l0), (1, l1)]) [] σ r := by
  refine mblk_ok1 P_Light_levelError (F := F_Light_levelError_0) (fun b r => r = b) hC ?_ (fun v σ b r hb hk => by cases hb; exact hk) _ 0 (mInit 2 [(3, l0), (1, l1)]) [] σ b r ((E_Light_levelError_0 l0 l1 σ).trans h) hk
  intro i L st σ b r hb hk
  cases hb
set_option maxRecDepth 100000 in
theorem T_Light_levelError {l0 l1 : Int} {σ : mS} {r : Int × mS} (h : M_Light_levelError l0 l1 σ = some r) : mEx 7 196 [(3, l0), (1, l1)] σ r :=
  ⟨by rw [P_Light_levelError]; exact Nat.le_of_ble_eq_true rfl, by rw [P_Light_levelError]; exact T_Light_levelError_0 TC_Light_levelError h rfl⟩
set_option maxRecDepth 100000 in
theorem P_RW_level : mProg 29 = (c_RW_level, 2) := rfl
set_option maxRecDepth 100000 in
theorem TC_RW_level : ∀ k as σ p, C_RW_level k as σ = some p → mEx 7 k as σ p := by
  intro k as σ p hp
  unfold C_RW_level at hp
  split at hp
  · exact (T_RW_isPlace hp).up (Nat.le_of_ble_eq_true rfl)
  · exact (T_Light_standByTerms hp).up (Nat.le_of_ble_eq_true rfl)
  · exact (T_Light_levelError hp).up (Nat.le_of_ble_eq_true rfl)
  · cases hp
set_option maxRecDepth 100000 in
theorem T_RW_level_0 {d : Nat} (hC : ∀ k as σ p, C_RW_level k as σ = some p → mEx d k as σ p) {l0 l1 : Int} {σ : mS} {b : Int × mS} {r : Int × mS} (h : M_RW_level l0 l1 σ = some b) (hk : (fun b r => r = b) b r) : mG (d + 1) 29 0 (mInit 2 [(3, l0), (1, l1)]) [] σ r := by
  refine mblk_ok1 P_RW_level (F := F_RW_level_0) (fun b r => r = b) hC ?_ (fun v σ b r hb hk => by cases hb; exact hk) _ 0 (mInit 2 [(3, l0), (1, l1)]) [] σ b r ((E_RW_level_0 l0 l1 σ).trans h) hk
  intro i L st σ b r hb hk
  cases hb
set_option maxRecDepth 100000 in
theorem T_RW_level {l0 l1 : Int} {σ : mS} {r : Int × mS} (h : M_RW_level l0 l1 σ = some r) : mEx 8 29 [(3, l0), (1, l1)] σ r :=
  ⟨by rw [P_RW_level]; exact Nat.le_of_ble_eq_true rfl, by rw [P_RW_level]; exact T_RW_level_0 TC_RW_level h rfl⟩
set_option maxRecDepth 100000 in
theorem P_RW_best : mProg 30 = (c_RW_best, 6) := rfl
set_option maxRecDepth 100000 in
theorem TC_RW_best : ∀ k as σ p, C_RW_best k as σ = some p → mEx 7 k as σ p := by
  intro k as σ p hp
  unfold C_RW_best at hp
  split at hp
  · exact (T_RW_isPlace hp).up (Nat.le_of_ble_eq_true rfl)
  · exact (T_Light_standByTerms hp).up (Nat.le_of_ble_eq_true rfl)
  · exact (T_Light_turnTo hp).up (Nat.le_of_ble_eq_true rfl)
  · exact (T_Light_levelError hp).up (Nat.le_of_ble_eq_true rfl)
  · cases hp
set_option maxRecDepth 100000 in
theorem T_RW_best_36 {d : Nat} (hC : ∀ k as σ p, C_RW_best k as σ = some p → mEx d k as σ p) {l0 l1 l4 l5 : Int} {σ : mS} {b : ((Int × Int × Int × mS) ⊕ (Int × mS))} {r : Int × mS} (h : M_RW_best_36 l0 l1 l4 l5 σ = some b) (hk : (Sum.elim (fun (s : Int × Int × Int × mS) r => mG (d + 1) 30 14 [(3, l0), (1, l1), (1, s.1), (1, s.2.1), (1, s.2.2.1), (0, 0)] [] s.2.2.2 r) (fun b r => r = b)) b r) : mG (d + 1) 30 36 [(3, l0), (1, l1), (0, 0), (0, 0), (1, l4), (1, l5)] [] σ r := by
  refine mblk_ok2 P_RW_best (F := F_RW_best_36) (Sum.elim (fun (s : Int × Int × Int × mS) r => mG (d + 1) 30 14 [(3, l0), (1, l1), (1, s.1), (1, s.2.1), (1, s.2.2.1), (0, 0)] [] s.2.2.2 r) (fun b r => r = b)) [([(14, 42)], [0, 1])] [(36, 42)] [(3, l0), (1, l1), (0, 0), (0, 0), (1, l4), (1, l5)] (by decide +kernel) rfl hC ?_ (fun v σ b r hb hk => by cases hb; exact hk) _ 36 [(3, l0), (1, l1), (0, 0), (0, 0), (1, l4), (1, l5)] [] σ b r rfl (mJ_self _ _ _) ((E_RW_best_36 l0 l1 l4 l5 σ).trans h) hk
  intro i L st σ b r hj hb hk
  unfold F_RW_best_36 at hb
  split at hb
  · have key : ∀ (k0 k1 k2 k3 k4 : Int) (k5 : mV) (σ : mS) (b : ((Int × Int × Int × mS) ⊕ (Int × mS))) (r : Int × mS), mJ [(3, l0), (1, l1), (0, 0), (0, 0), (1, l4), (1, l5)] 14 [(3, k0), (1, k1), (1, k2), (1, k3), (1, k4), k5] [([(14, 42)], [0, 1])] → (some (.inl (k2, k3, k4, σ))) = some b → (Sum.elim (fun (s : Int × Int × Int × mS) r => mG (d + 1) 30 14 [(3, l0), (1, l1), (1, s.1), (1, s.2.1), (1, s.2.2.1), (0, 0)] [] s.2.2.2 r) (fun b r => r = b)) b r → mG (d + 1) 30 14 [(3, k0), (1, k1), (1, k2), (1, k3), (1, k4), k5] [] σ r := by
      intro k0 k1 k2 k3 k4 k5 σ b r hj hb hk
      have e0 : k0 = l0 := (Prod.mk.inj (Option.some.inj ((hj.1 rfl).1))).2
      subst e0
      have e1 : k1 = l1 := (Prod.mk.inj (Option.some.inj ((hj.1 rfl).2.1))).2
      subst e1
      cases hb
      exact mG.lle hk (lle_cons (lle_cons (lle_cons (lle_cons (lle_cons (lle_dead lle_nil))))))
    exact key _ _ _ _ _ _ σ b r hj hb hk
  · cases hb
set_option maxRecDepth 100000 in
theorem TB_RW_best_14 {d : Nat} (hC : ∀ k as σ p, C_RW_best k as σ = some p → mEx d k as σ p) {l0 l1 l2 l3 l4 : Int} {σ : mS} {b : ((Int × Int × Int × mS) ⊕ (Int × mS))} {r : Int × mS} (h : B_RW_best_14 l0 l1 l2 l3 l4 σ = some b) (hk : (Sum.elim (fun (s : Int × Int × Int × mS) r => mG (d + 1) 30 14 [(3, l0), (1, l1), (1, s.1), (1, s.2.1), (1, s.2.2.1), (0, 0)] [] s.2.2.2 r) (fun b r => r = b)) b r) : mG (d + 1) 30 14 [(3, l0), (1, l1), (1, l2), (1, l3), (1, l4), (0, 0)] [] σ r := by
  refine mblk_ok2 P_RW_best (F := F_RW_best_14) (Sum.elim (fun (s : Int × Int × Int × mS) r => mG (d + 1) 30 14 [(3, l0), (1, l1), (1, s.1), (1, s.2.1), (1, s.2.2.1), (0, 0)] [] s.2.2.2 r) (fun b r => r = b)) [([(14, 42)], [0, 1])] [(14, 35), (41, 44)] [(3, l0), (1, l1), (1, l2), (1, l3), (1, l4), (0, 0)] (by decide +kernel) rfl hC ?_ (fun v σ b r hb hk => by cases hb; exact hk) _ 14 [(3, l0), (1, l1), (1, l2), (1, l3), (1, l4), (0, 0)] [] σ b r rfl (mJ_self _ _ _) ((E_RW_best_14 l0 l1 l2 l3 l4 σ).trans h) hk
  intro i L st σ b r hj hb hk
  unfold F_RW_best_14 at hb
  split at hb
  · have key : ∀ (k0 k1 k2 k3 k4 : Int) (k5 : mV) (σ : mS) (b : ((Int × Int × Int × mS) ⊕ (Int × mS))) (r : Int × mS), mJ [(3, l0), (1, l1), (1, l2), (1, l3), (1, l4), (0, 0)] 14 [(3, k0), (1, k1), (1, k2), (1, k3), (1, k4), k5] [([(14, 42)], [0, 1])] → (some (.inl (k2, k3, k4, σ))) = some b → (Sum.elim (fun (s : Int × Int × Int × mS) r => mG (d + 1) 30 14 [(3, l0), (1, l1), (1, s.1), (1, s.2.1), (1, s.2.2.1), (0, 0)] [] s.2.2.2 r) (fun b r => r = b)) b r → mG (d + 1) 30 14 [(3, k0), (1, k1), (1, k2), (1, k3), (1, k4), k5] [] σ r := by
      intro k0 k1 k2 k3 k4 k5 σ b r hj hb hk
      have e0 : k0 = l0 := (Prod.mk.inj (Option.some.inj ((hj.1 rfl).1))).2
      subst e0
      have e1 : k1 = l1 := (Prod.mk.inj (Option.some.inj ((hj.1 rfl).2.1))).2
      subst e1
      cases hb
      exact mG.lle hk (lle_cons (lle_cons (lle_cons (lle_cons (lle_cons (lle_dead lle_nil))))))
    exact key _ _ _ _ _ _ σ b r hj hb hk
  · have key : ∀ (k0 k1 k4 k5 : Int) (k2 k3 : mV) (σ : mS) (b : ((Int × Int × Int × mS) ⊕ (Int × mS))) (r : Int × mS), mJ [(3, l0), (1, l1), (1, l2), (1, l3), (1, l4), (0, 0)] 36 [(3, k0), (1, k1), k2, k3, (1, k4), (1, k5)] [([(14, 42)], [0, 1])] → (M_RW_best_36 k0 k1 k4 k5 σ) = some b → (Sum.elim (fun (s : Int × Int × Int × mS) r => mG (d + 1) 30 14 [(3, l0), (1, l1), (1, s.1), (1, s.2.1), (1, s.2.2.1), (0, 0)] [] s.2.2.2 r) (fun b r => r = b)) b r → mG (d + 1) 30 36 [(3, k0), (1, k1), k2, k3, (1, k4), (1, k5)] [] σ r := by
      intro k0 k1 k4 k5 k2 k3 σ b r hj hb hk
      have e0 : k0 = l0 := (Prod.mk.inj (Option.some.inj ((hj.1 rfl).1))).2
      subst e0
      have e1 : k1 = l1 := (Prod.mk.inj (Option.some.inj ((hj.1 rfl).2.1))).2
      subst e1
      exact (T_RW_best_36 hC hb hk).lle (lle_cons (lle_cons (lle_dead (lle_dead (lle_cons (lle_cons lle_nil))))))
    exact key _ _ _ _ _ _ σ b r hj hb hk
  · cases hb
set_option maxRecDepth 100000 in
theorem T_RW_best_14 {d : Nat} (hC : ∀ k as σ p, C_RW_best k as σ = some p → mEx d k as σ p) {l0 l1 l2 l3 l4 : Int} {σ : mS} {b : Int × mS} {r : Int × mS} (h : M_RW_best_14 l0 l1 l2 l3 l4 σ = some b) (hk : (fun b r => r = b) b r) : mG (d + 1) 30 14 [(3, l0), (1, l1), (1, l2), (1, l3), (1, l4), (0, 0)] [] σ r :=
  miter_ok (G := fun (s : Int × Int × Int × mS) r => mG (d + 1) 30 14 [(3, l0), (1, l1), (1, s.1), (1, s.2.1), (1, s.2.2.1), (0, 0)] [] s.2.2.2 r) (K := (fun b r => r = b)) (fun s x r hs hx => TB_RW_best_14 hC hs hx) mN _ b r h hk
set_option maxRecDepth 100000 in
theorem T_RW_best_0 {d : Nat} (hC : ∀ k as σ p, C_RW_best k as σ = some p → mEx d k as σ p) {l0 l1 : Int} {σ : mS} {b : Int × mS} {r : Int × mS} (h : M_RW_best l0 l1 σ = some b) (hk : (fun b r => r = b) b r) : mG (d + 1) 30 0 (mInit 6 [(3, l0), (1, l1)]) [] σ r := by
  refine mblk_ok1 P_RW_best (F := F_RW_best_0) (fun b r => r = b) hC ?_ (fun v σ b r hb hk => by cases hb; exact hk) _ 0 (mInit 6 [(3, l0), (1, l1)]) [] σ b r ((E_RW_best_0 l0 l1 σ).trans h) hk
  intro i L st σ b r hb hk
  unfold F_RW_best_0 at hb
  split at hb
  · have key : ∀ (k0 k1 k2 k3 k4 : Int) (k5 : mV) (σ : mS) (b : Int × mS) (r : Int × mS), (M_RW_best_14 k0 k1 k2 k3 k4 σ) = some b → (fun b r => r = b) b r → mG (d + 1) 30 14 [(3, k0), (1, k1), (1, k2), (1, k3), (1, k4), k5] [] σ r := by
      intro k0 k1 k2 k3 k4 k5 σ b r hb hk
      exact (T_RW_best_14 hC hb hk).lle (lle_cons (lle_cons (lle_cons (lle_cons (lle_cons (lle_dead lle_nil))))))
    exact key _ _ _ _ _ _ σ b r hb hk
  · cases hb
set_option maxRecDepth 100000 in
theorem T_RW_best {l0 l1 : Int} {σ : mS} {r : Int × mS} (h : M_RW_best l0 l1 σ = some r) : mEx 8 30 [(3, l0), (1, l1)] σ r :=
  ⟨by rw [P_RW_best]; exact Nat.le_of_ble_eq_true rfl, by rw [P_RW_best]; exact T_RW_best_0 TC_RW_best h rfl⟩
set_option maxRecDepth 100000 in
theorem P_RW_eyes : mProg 31 = (c_RW_eyes, 6) := rfl
set_option maxRecDepth 100000 in
theorem TC_RW_eyes : ∀ k as σ p, C_RW_eyes k as σ = some p → mEx 7 k as σ p := by
  intro k as σ p hp
  unfold C_RW_eyes at hp
  split at hp
  · exact (T_RW_isWithin hp).up (Nat.le_of_ble_eq_true rfl)
  · exact (T_Field_look hp).up (Nat.le_of_ble_eq_true rfl)
  · exact (T_Field_raysTo hp).up (Nat.le_of_ble_eq_true rfl)
  · exact (T_Field_picturesOf hp).up (Nat.le_of_ble_eq_true rfl)
  · exact (T_Field_hiddenInches hp).up (Nat.le_of_ble_eq_true rfl)
  · exact (T_Light_standByTerms hp).up (Nat.le_of_ble_eq_true rfl)
  · exact (T_Road_hasThing hp).up (Nat.le_of_ble_eq_true rfl)
  · exact (T_Road_inchesThere hp).up (Nat.le_of_ble_eq_true rfl)
  · cases hp
set_option maxRecDepth 100000 in
theorem T_RW_eyes_60 {d : Nat} (hC : ∀ k as σ p, C_RW_eyes k as σ = some p → mEx d k as σ p) {l0 l1 l2 l3 l4 s0 : Int} {σ : mS} {b : ((Int × Int × mS) ⊕ (Int × mS))} {r : Int × mS} (h : M_RW_eyes_60 l0 l1 l2 l3 l4 s0 σ = some b) (hk : (Sum.elim (fun (s : Int × Int × mS) r => mG (d + 1) 31 19 [(3, l0), (1, l1), (1, l2), (1, s.1), (1, s.2.1), (0, 0)] [] s.2.2 r) (fun b r => r = b)) b r) : mG (d + 1) 31 60 [(3, l0), (1, l1), (1, l2), (1, l3), (1, l4), (0, 0)] [(1, s0)] σ r := by
  refine mblk_ok2 P_RW_eyes (F := F_RW_eyes_60) (Sum.elim (fun (s : Int × Int × mS) r => mG (d + 1) 31 19 [(3, l0), (1, l1), (1, l2), (1, s.1), (1, s.2.1), (0, 0)] [] s.2.2 r) (fun b r => r = b)) [([(19, 65)], [0, 1, 2])] [(60, 65)] [(3, l0), (1, l1), (1, l2), (1, l3), (1, l4), (0, 0)] (by decide +kernel) rfl hC ?_ (fun v σ b r hb hk => by cases hb; exact hk) _ 60 [(3, l0), (1, l1), (1, l2), (1, l3), (1, l4), (0, 0)] [(1, s0)] σ b r rfl (mJ_self _ _ _) ((E_RW_eyes_60 l0 l1 l2 l3 l4 s0 σ).trans h) hk
  intro i L st σ b r hj hb hk
  unfold F_RW_eyes_60 at hb
  split at hb
  · have key : ∀ (k0 k1 k2 k3 k4 : Int) (k5 : mV) (σ : mS) (b : ((Int × Int × mS) ⊕ (Int × mS))) (r : Int × mS), mJ [(3, l0), (1, l1), (1, l2), (1, l3), (1, l4), (0, 0)] 19 [(3, k0), (1, k1), (1, k2), (1, k3), (1, k4), k5] [([(19, 65)], [0, 1, 2])] → (some (.inl (k3, k4, σ))) = some b → (Sum.elim (fun (s : Int × Int × mS) r => mG (d + 1) 31 19 [(3, l0), (1, l1), (1, l2), (1, s.1), (1, s.2.1), (0, 0)] [] s.2.2 r) (fun b r => r = b)) b r → mG (d + 1) 31 19 [(3, k0), (1, k1), (1, k2), (1, k3), (1, k4), k5] [] σ r := by
      intro k0 k1 k2 k3 k4 k5 σ b r hj hb hk
      have e0 : k0 = l0 := (Prod.mk.inj (Option.some.inj ((hj.1 rfl).1))).2
      subst e0
      have e1 : k1 = l1 := (Prod.mk.inj (Option.some.inj ((hj.1 rfl).2.1))).2
      subst e1
      have e2 : k2 = l2 := (Prod.mk.inj (Option.some.inj ((hj.1 rfl).2.2.1))).2
      subst e2
      cases hb
      exact mG.lle hk (lle_cons (lle_cons (lle_cons (lle_cons (lle_cons (lle_dead lle_nil))))))
    exact key _ _ _ _ _ _ σ b r hj hb hk
  · cases hb
set_option maxRecDepth 100000 in
theorem T_RW_eyes_57 {d : Nat} (hC : ∀ k as σ p, C_RW_eyes k as σ = some p → mEx d k as σ p) {l0 l1 l2 l3 l4 : Int} {σ : mS} {b : ((Int × Int × mS) ⊕ (Int × mS))} {r : Int × mS} (h : M_RW_eyes_57 l0 l1 l2 l3 l4 σ = some b) (hk : (Sum.elim (fun (s : Int × Int × mS) r => mG (d + 1) 31 19 [(3, l0), (1, l1), (1, l2), (1, s.1), (1, s.2.1), (0, 0)] [] s.2.2 r) (fun b r => r = b)) b r) : mG (d + 1) 31 57 [(3, l0), (1, l1), (1, l2), (1, l3), (1, l4), (0, 0)] [] σ r := by
  refine mblk_ok2 P_RW_eyes (F := F_RW_eyes_57) (Sum.elim (fun (s : Int × Int × mS) r => mG (d + 1) 31 19 [(3, l0), (1, l1), (1, l2), (1, s.1), (1, s.2.1), (0, 0)] [] s.2.2 r) (fun b r => r = b)) [([(19, 65)], [0, 1, 2])] [(57, 58)] [(3, l0), (1, l1), (1, l2), (1, l3), (1, l4), (0, 0)] (by decide +kernel) rfl hC ?_ (fun v σ b r hb hk => by cases hb; exact hk) _ 57 [(3, l0), (1, l1), (1, l2), (1, l3), (1, l4), (0, 0)] [] σ b r rfl (mJ_self _ _ _) ((E_RW_eyes_57 l0 l1 l2 l3 l4 σ).trans h) hk
  intro i L st σ b r hj hb hk
  unfold F_RW_eyes_57 at hb
  split at hb
  · have key : ∀ (k0 k1 k2 k3 k4 u0 : Int) (k5 : mV) (σ : mS) (b : ((Int × Int × mS) ⊕ (Int × mS))) (r : Int × mS), mJ [(3, l0), (1, l1), (1, l2), (1, l3), (1, l4), (0, 0)] 60 [(3, k0), (1, k1), (1, k2), (1, k3), (1, k4), k5] [([(19, 65)], [0, 1, 2])] → (M_RW_eyes_60 k0 k1 k2 k3 k4 u0 σ) = some b → (Sum.elim (fun (s : Int × Int × mS) r => mG (d + 1) 31 19 [(3, l0), (1, l1), (1, l2), (1, s.1), (1, s.2.1), (0, 0)] [] s.2.2 r) (fun b r => r = b)) b r → mG (d + 1) 31 60 [(3, k0), (1, k1), (1, k2), (1, k3), (1, k4), k5] [(1, u0)] σ r := by
      intro k0 k1 k2 k3 k4 u0 k5 σ b r hj hb hk
      have e0 : k0 = l0 := (Prod.mk.inj (Option.some.inj ((hj.1 rfl).1))).2
      subst e0
      have e1 : k1 = l1 := (Prod.mk.inj (Option.some.inj ((hj.1 rfl).2.1))).2
      subst e1
      have e2 : k2 = l2 := (Prod.mk.inj (Option.some.inj ((hj.1 rfl).2.2.1))).2
      subst e2
      exact (T_RW_eyes_60 hC hb hk).lle (lle_cons (lle_cons (lle_cons (lle_cons (lle_cons (lle_dead lle_nil))))))
    exact key _ _ _ _ _ _ _ σ b r hj hb hk
  · cases hb
set_option maxRecDepth 100000 in
theorem T_RW_eyes_59 {d : Nat} (hC : ∀ k as σ p, C_RW_eyes k as σ = some p → mEx d k as σ p) {l0 l1 l2 l3 l4 : Int} {σ : mS} {b : ((Int × Int × mS) ⊕ (Int × mS))} {r : Int × mS} (h : M_RW_eyes_59 l0 l1 l2 l3 l4 σ = some b) (hk : (Sum.elim (fun (s : Int × Int × mS) r => mG (d + 1) 31 19 [(3, l0), (1, l1), (1, l2), (1, s.1), (1, s.2.1), (0, 0)] [] s.2.2 r) (fun b r => r = b)) b r) : mG (d + 1) 31 59 [(3, l0), (1, l1), (1, l2), (1, l3), (1, l4), (0, 0)] [] σ r := by
  refine mblk_ok2 P_RW_eyes (F := F_RW_eyes_59) (Sum.elim (fun (s : Int × Int × mS) r => mG (d + 1) 31 19 [(3, l0), (1, l1), (1, l2), (1, s.1), (1, s.2.1), (0, 0)] [] s.2.2 r) (fun b r => r = b)) [([(19, 65)], [0, 1, 2])] [(59, 59)] [(3, l0), (1, l1), (1, l2), (1, l3), (1, l4), (0, 0)] (by decide +kernel) rfl hC ?_ (fun v σ b r hb hk => by cases hb; exact hk) _ 59 [(3, l0), (1, l1), (1, l2), (1, l3), (1, l4), (0, 0)] [] σ b r rfl (mJ_self _ _ _) ((E_RW_eyes_59 l0 l1 l2 l3 l4 σ).trans h) hk
  intro i L st σ b r hj hb hk
  unfold F_RW_eyes_59 at hb
  split at hb
  · have key : ∀ (k0 k1 k2 k3 k4 u0 : Int) (k5 : mV) (σ : mS) (b : ((Int × Int × mS) ⊕ (Int × mS))) (r : Int × mS), mJ [(3, l0), (1, l1), (1, l2), (1, l3), (1, l4), (0, 0)] 60 [(3, k0), (1, k1), (1, k2), (1, k3), (1, k4), k5] [([(19, 65)], [0, 1, 2])] → (M_RW_eyes_60 k0 k1 k2 k3 k4 u0 σ) = some b → (Sum.elim (fun (s : Int × Int × mS) r => mG (d + 1) 31 19 [(3, l0), (1, l1), (1, l2), (1, s.1), (1, s.2.1), (0, 0)] [] s.2.2 r) (fun b r => r = b)) b r → mG (d + 1) 31 60 [(3, k0), (1, k1), (1, k2), (1, k3), (1, k4), k5] [(1, u0)] σ r := by
      intro k0 k1 k2 k3 k4 u0 k5 σ b r hj hb hk
      have e0 : k0 = l0 := (Prod.mk.inj (Option.some.inj ((hj.1 rfl).1))).2
      subst e0
      have e1 : k1 = l1 := (Prod.mk.inj (Option.some.inj ((hj.1 rfl).2.1))).2
      subst e1
      have e2 : k2 = l2 := (Prod.mk.inj (Option.some.inj ((hj.1 rfl).2.2.1))).2
      subst e2
      exact (T_RW_eyes_60 hC hb hk).lle (lle_cons (lle_cons (lle_cons (lle_cons (lle_cons (lle_dead lle_nil))))))
    exact key _ _ _ _ _ _ _ σ b r hj hb hk
  · cases hb
set_option maxRecDepth 100000 in
theorem T_RW_eyes_48 {d : Nat} (hC : ∀ k as σ p, C_RW_eyes k as σ = some p → mEx d k as σ p) {l0 l1 l2 l3 l4 : Int} {σ : mS} {b : ((Int × Int × mS) ⊕ (Int × mS))} {r : Int × mS} (h : M_RW_eyes_48 l0 l1 l2 l3 l4 σ = some b) (hk : (Sum.elim (fun (s : Int × Int × mS) r => mG (d + 1) 31 19 [(3, l0), (1, l1), (1, l2), (1, s.1), (1, s.2.1), (0, 0)] [] s.2.2 r) (fun b r => r = b)) b r) : mG (d + 1) 31 48 [(3, l0), (1, l1), (1, l2), (1, l3), (1, l4), (0, 0)] [] σ r := by
  refine mblk_ok2 P_RW_eyes (F := F_RW_eyes_48) (Sum.elim (fun (s : Int × Int × mS) r => mG (d + 1) 31 19 [(3, l0), (1, l1), (1, l2), (1, s.1), (1, s.2.1), (0, 0)] [] s.2.2 r) (fun b r => r = b)) [([(19, 65)], [0, 1, 2])] [(48, 56)] [(3, l0), (1, l1), (1, l2), (1, l3), (1, l4), (0, 0)] (by decide +kernel) rfl hC ?_ (fun v σ b r hb hk => by cases hb; exact hk) _ 48 [(3, l0), (1, l1), (1, l2), (1, l3), (1, l4), (0, 0)] [] σ b r rfl (mJ_self _ _ _) ((E_RW_eyes_48 l0 l1 l2 l3 l4 σ).trans h) hk
  intro i L st σ b r hj hb hk
  unfold F_RW_eyes_48 at hb
  split at hb
  · have key : ∀ (k0 k1 k2 k3 k4 : Int) (k5 : mV) (σ : mS) (b : ((Int × Int × mS) ⊕ (Int × mS))) (r : Int × mS), mJ [(3, l0), (1, l1), (1, l2), (1, l3), (1, l4), (0, 0)] 57 [(3, k0), (1, k1), (1, k2), (1, k3), (1, k4), k5] [([(19, 65)], [0, 1, 2])] → (M_RW_eyes_57 k0 k1 k2 k3 k4 σ) = some b → (Sum.elim (fun (s : Int × Int × mS) r => mG (d + 1) 31 19 [(3, l0), (1, l1), (1, l2), (1, s.1), (1, s.2.1), (0, 0)] [] s.2.2 r) (fun b r => r = b)) b r → mG (d + 1) 31 57 [(3, k0), (1, k1), (1, k2), (1, k3), (1, k4), k5] [] σ r := by
      intro k0 k1 k2 k3 k4 k5 σ b r hj hb hk
      have e0 : k0 = l0 := (Prod.mk.inj (Option.some.inj ((hj.1 rfl).1))).2
      subst e0
      have e1 : k1 = l1 := (Prod.mk.inj (Option.some.inj ((hj.1 rfl).2.1))).2
      subst e1
      have e2 : k2 = l2 := (Prod.mk.inj (Option.some.inj ((hj.1 rfl).2.2.1))).2
      subst e2
      exact (T_RW_eyes_57 hC hb hk).lle (lle_cons (lle_cons (lle_cons (lle_cons (lle_cons (lle_dead lle_nil))))))
    exact key _ _ _ _ _ _ σ b r hj hb hk
  · have key : ∀ (k0 k1 k2 k3 k4 : Int) (k5 : mV) (σ : mS) (b : ((Int × Int × mS) ⊕ (Int × mS))) (r : Int × mS), mJ [(3, l0), (1, l1), (1, l2), (1, l3), (1, l4), (0, 0)] 59 [(3, k0), (1, k1), (1, k2), (1, k3), (1, k4), k5] [([(19, 65)], [0, 1, 2])] → (M_RW_eyes_59 k0 k1 k2 k3 k4 σ) = some b → (Sum.elim (fun (s : Int × Int × mS) r => mG (d + 1) 31 19 [(3, l0), (1, l1), (1, l2), (1, s.1), (1, s.2.1), (0, 0)] [] s.2.2 r) (fun b r => r = b)) b r → mG (d + 1) 31 59 [(3, k0), (1, k1), (1, k2), (1, k3), (1, k4), k5] [] σ r := by
      intro k0 k1 k2 k3 k4 k5 σ b r hj hb hk
      have e0 : k0 = l0 := (Prod.mk.inj (Option.some.inj ((hj.1 rfl).1))).2
      subst e0
      have e1 : k1 = l1 := (Prod.mk.inj (Option.some.inj ((hj.1 rfl).2.1))).2
      subst e1
      have e2 : k2 = l2 := (Prod.mk.inj (Option.some.inj ((hj.1 rfl).2.2.1))).2
      subst e2
      exact (T_RW_eyes_59 hC hb hk).lle (lle_cons (lle_cons (lle_cons (lle_cons (lle_cons (lle_dead lle_nil))))))
    exact key _ _ _ _ _ _ σ b r hj hb hk
  · cases hb
set_option maxRecDepth 100000 in
theorem T_RW_eyes_36 {d : Nat} (hC : ∀ k as σ p, C_RW_eyes k as σ = some p → mEx d k as σ p) {l0 l1 l2 l3 l4 : Int} {σ : mS} {b : ((Int × Int × mS) ⊕ (Int × mS))} {r : Int × mS} (h : M_RW_eyes_36 l0 l1 l2 l3 l4 σ = some b) (hk : (Sum.elim (fun (s : Int × Int × mS) r => mG (d + 1) 31 19 [(3, l0), (1, l1), (1, l2), (1, s.1), (1, s.2.1), (0, 0)] [] s.2.2 r) (fun b r => r = b)) b r) : mG (d + 1) 31 36 [(3, l0), (1, l1), (1, l2), (1, l3), (1, l4), (0, 0)] [] σ r := by
  refine mblk_ok2 P_RW_eyes (F := F_RW_eyes_36) (Sum.elim (fun (s : Int × Int × mS) r => mG (d + 1) 31 19 [(3, l0), (1, l1), (1, l2), (1, s.1), (1, s.2.1), (0, 0)] [] s.2.2 r) (fun b r => r = b)) [([(19, 65)], [0, 1, 2])] [(36, 47)] [(3, l0), (1, l1), (1, l2), (1, l3), (1, l4), (0, 0)] (by decide +kernel) rfl hC ?_ (fun v σ b r hb hk => by cases hb; exact hk) _ 36 [(3, l0), (1, l1), (1, l2), (1, l3), (1, l4), (0, 0)] [] σ b r rfl (mJ_self _ _ _) ((E_RW_eyes_36 l0 l1 l2 l3 l4 σ).trans h) hk
  intro i L st σ b r hj hb hk
  unfold F_RW_eyes_36 at hb
  split at hb
  · have key : ∀ (k0 k1 k2 k3 k4 : Int) (k5 : mV) (σ : mS) (b : ((Int × Int × mS) ⊕ (Int × mS))) (r : Int × mS), mJ [(3, l0), (1, l1), (1, l2), (1, l3), (1, l4), (0, 0)] 48 [(3, k0), (1, k1), (1, k2), (1, k3), (1, k4), k5] [([(19, 65)], [0, 1, 2])] → (M_RW_eyes_48 k0 k1 k2 k3 k4 σ) = some b → (Sum.elim (fun (s : Int × Int × mS) r => mG (d + 1) 31 19 [(3, l0), (1, l1), (1, l2), (1, s.1), (1, s.2.1), (0, 0)] [] s.2.2 r) (fun b r => r = b)) b r → mG (d + 1) 31 48 [(3, k0), (1, k1), (1, k2), (1, k3), (1, k4), k5] [] σ r := by
      intro k0 k1 k2 k3 k4 k5 σ b r hj hb hk
      have e0 : k0 = l0 := (Prod.mk.inj (Option.some.inj ((hj.1 rfl).1))).2
      subst e0
      have e1 : k1 = l1 := (Prod.mk.inj (Option.some.inj ((hj.1 rfl).2.1))).2
      subst e1
      have e2 : k2 = l2 := (Prod.mk.inj (Option.some.inj ((hj.1 rfl).2.2.1))).2
      subst e2
      exact (T_RW_eyes_48 hC hb hk).lle (lle_cons (lle_cons (lle_cons (lle_cons (lle_cons (lle_dead lle_nil))))))
    exact key _ _ _ _ _ _ σ b r hj hb hk
  · have key : ∀ (k0 k1 k2 k3 k4 : Int) (k5 : mV) (σ : mS) (b : ((Int × Int × mS) ⊕ (Int × mS))) (r : Int × mS), mJ [(3, l0), (1, l1), (1, l2), (1, l3), (1, l4), (0, 0)] 57 [(3, k0), (1, k1), (1, k2), (1, k3), (1, k4), k5] [([(19, 65)], [0, 1, 2])] → (M_RW_eyes_57 k0 k1 k2 k3 k4 σ) = some b → (Sum.elim (fun (s : Int × Int × mS) r => mG (d + 1) 31 19 [(3, l0), (1, l1), (1, l2), (1, s.1), (1, s.2.1), (0, 0)] [] s.2.2 r) (fun b r => r = b)) b r → mG (d + 1) 31 57 [(3, k0), (1, k1), (1, k2), (1, k3), (1, k4), k5] [] σ r := by
      intro k0 k1 k2 k3 k4 k5 σ b r hj hb hk
      have e0 : k0 = l0 := (Prod.mk.inj (Option.some.inj ((hj.1 rfl).1))).2
      subst e0
      have e1 : k1 = l1 := (Prod.mk.inj (Option.some.inj ((hj.1 rfl).2.1))).2
      subst e1
      have e2 : k2 = l2 := (Prod.mk.inj (Option.some.inj ((hj.1 rfl).2.2.1))).2
      subst e2
      exact (T_RW_eyes_57 hC hb hk).lle (lle_cons (lle_cons (lle_cons (lle_cons (lle_cons (lle_dead lle_nil))))))
    exact key _ _ _ _ _ _ σ b r hj hb hk
  · cases hb
set_option maxRecDepth 100000 in
theorem TB_RW_eyes_19 {d : Nat} (hC : ∀ k as σ p, C_RW_eyes k as σ = some p → mEx d k as σ p) {l0 l1 l2 l3 l4 : Int} {σ : mS} {b : ((Int × Int × mS) ⊕ (Int × mS))} {r : Int × mS} (h : B_RW_eyes_19 l0 l1 l2 l3 l4 σ = some b) (hk : (Sum.elim (fun (s : Int × Int × mS) r => mG (d + 1) 31 19 [(3, l0), (1, l1), (1, l2), (1, s.1), (1, s.2.1), (0, 0)] [] s.2.2 r) (fun b r => r = b)) b r) : mG (d + 1) 31 19 [(3, l0), (1, l1), (1, l2), (1, l3), (1, l4), (0, 0)] [] σ r := by
  refine mblk_ok2 P_RW_eyes (F := F_RW_eyes_19) (Sum.elim (fun (s : Int × Int × mS) r => mG (d + 1) 31 19 [(3, l0), (1, l1), (1, l2), (1, s.1), (1, s.2.1), (0, 0)] [] s.2.2 r) (fun b r => r = b)) [([(19, 65)], [0, 1, 2])] [(19, 35), (66, 67)] [(3, l0), (1, l1), (1, l2), (1, l3), (1, l4), (0, 0)] (by decide +kernel) rfl hC ?_ (fun v σ b r hb hk => by cases hb; exact hk) _ 19 [(3, l0), (1, l1), (1, l2), (1, l3), (1, l4), (0, 0)] [] σ b r rfl (mJ_self _ _ _) ((E_RW_eyes_19 l0 l1 l2 l3 l4 σ).trans h) hk
  intro i L st σ b r hj hb hk
  unfold F_RW_eyes_19 at hb
  split at hb
  · have key : ∀ (k0 k1 k2 k3 k4 : Int) (k5 : mV) (σ : mS) (b : ((Int × Int × mS) ⊕ (Int × mS))) (r : Int × mS), mJ [(3, l0), (1, l1), (1, l2), (1, l3), (1, l4), (0, 0)] 36 [(3, k0), (1, k1), (1, k2), (1, k3), (1, k4), k5] [([(19, 65)], [0, 1, 2])] → (M_RW_eyes_36 k0 k1 k2 k3 k4 σ) = some b → (Sum.elim (fun (s : Int × Int × mS) r => mG (d + 1) 31 19 [(3, l0), (1, l1), (1, l2), (1, s.1), (1, s.2.1), (0, 0)] [] s.2.2 r) (fun b r => r = b)) b r → mG (d + 1) 31 36 [(3, k0), (1, k1), (1, k2), (1, k3), (1, k4), k5] [] σ r := by
      intro k0 k1 k2 k3 k4 k5 σ b r hj hb hk
      have e0 : k0 = l0 := (Prod.mk.inj (Option.some.inj ((hj.1 rfl).1))).2
      subst e0
      have e1 : k1 = l1 := (Prod.mk.inj (Option.some.inj ((hj.1 rfl).2.1))).2
      subst e1
      have e2 : k2 = l2 := (Prod.mk.inj (Option.some.inj ((hj.1 rfl).2.2.1))).2
      subst e2
      exact (T_RW_eyes_36 hC hb hk).lle (lle_cons (lle_cons (lle_cons (lle_cons (lle_cons (lle_dead lle_nil))))))
    exact key _ _ _ _ _ _ σ b r hj hb hk
  · have key : ∀ (k0 k1 k2 k3 k4 : Int) (k5 : mV) (σ : mS) (b : ((Int × Int × mS) ⊕ (Int × mS))) (r : Int × mS), mJ [(3, l0), (1, l1), (1, l2), (1, l3), (1, l4), (0, 0)] 57 [(3, k0), (1, k1), (1, k2), (1, k3), (1, k4), k5] [([(19, 65)], [0, 1, 2])] → (M_RW_eyes_57 k0 k1 k2 k3 k4 σ) = some b → (Sum.elim (fun (s : Int × Int × mS) r => mG (d + 1) 31 19 [(3, l0), (1, l1), (1, l2), (1, s.1), (1, s.2.1), (0, 0)] [] s.2.2 r) (fun b r => r = b)) b r → mG (d + 1) 31 57 [(3, k0), (1, k1), (1, k2), (1, k3), (1, k4), k5] [] σ r := by
      intro k0 k1 k2 k3 k4 k5 σ b r hj hb hk
      have e0 : k0 = l0 := (Prod.mk.inj (Option.some.inj ((hj.1 rfl).1))).2
      subst e0
      have e1 : k1 = l1 := (Prod.mk.inj (Option.some.inj ((hj.1 rfl).2.1))).2
      subst e1
      have e2 : k2 = l2 := (Prod.mk.inj (Option.some.inj ((hj.1 rfl).2.2.1))).2
      subst e2
      exact (T_RW_eyes_57 hC hb hk).lle (lle_cons (lle_cons (lle_cons (lle_cons (lle_cons (lle_dead lle_nil))))))
    exact key _ _ _ _ _ _ σ b r hj hb hk
  · cases hb
set_option maxRecDepth 100000 in
theorem T_RW_eyes_19 {d : Nat} (hC : ∀ k as σ p, C_RW_eyes k as σ = some p → mEx d k as σ p) {l0 l1 l2 l3 l4 : Int} {σ : mS} {b : Int × mS} {r : Int × mS} (h : M_RW_eyes_19 l0 l1 l2 l3 l4 σ = some b) (hk : (fun b r => r = b) b r) : mG (d + 1) 31 19 [(3, l0), (1, l1), (1, l2), (1, l3), (1, l4), (0, 0)] [] σ r :=
  miter_ok (G := fun (s : Int × Int × mS) r => mG (d + 1) 31 19 [(3, l0), (1, l1), (1, l2), (1, s.1), (1, s.2.1), (0, 0)] [] s.2.2 r) (K := (fun b r => r = b)) (fun s x r hs hx => TB_RW_eyes_19 hC hs hx) mN _ b r h hk
set_option maxRecDepth 100000 in
theorem T_RW_eyes_0 {d : Nat} (hC : ∀ k as σ p, C_RW_eyes k as σ = some p → mEx d k as σ p) {l0 l1 l2 : Int} {σ : mS} {b : Int × mS} {r : Int × mS} (h : M_RW_eyes l0 l1 l2 σ = some b) (hk : (fun b r => r = b) b r) : mG (d + 1) 31 0 (mInit 6 [(3, l0), (1, l1), (1, l2)]) [] σ r := by
  refine mblk_ok1 P_RW_eyes (F := F_RW_eyes_0) (fun b r => r = b) hC ?_ (fun v σ b r hb hk => by cases hb; exact hk) _ 0 (mInit 6 [(3, l0), (1, l1), (1, l2)]) [] σ b r ((E_RW_eyes_0 l0 l1 l2 σ).trans h) hk
  intro i L st σ b r hb hk
  unfold F_RW_eyes_0 at hb
  split at hb
  · have key : ∀ (k0 k1 k2 k3 k4 : Int) (k5 : mV) (σ : mS) (b : Int × mS) (r : Int × mS), (M_RW_eyes_19 k0 k1 k2 k3 k4 σ) = some b → (fun b r => r = b) b r → mG (d + 1) 31 19 [(3, k0), (1, k1), (1, k2), (1, k3), (1, k4), k5] [] σ r := by
      intro k0 k1 k2 k3 k4 k5 σ b r hb hk
      exact (T_RW_eyes_19 hC hb hk).lle (lle_cons (lle_cons (lle_cons (lle_cons (lle_cons (lle_dead lle_nil))))))
    exact key _ _ _ _ _ _ σ b r hb hk
  · cases hb
set_option maxRecDepth 100000 in
theorem T_RW_eyes {l0 l1 l2 : Int} {σ : mS} {r : Int × mS} (h : M_RW_eyes l0 l1 l2 σ = some r) : mEx 8 31 [(3, l0), (1, l1), (1, l2)] σ r :=
  ⟨by rw [P_RW_eyes]; exact Nat.le_of_ble_eq_true rfl, by rw [P_RW_eyes]; exact T_RW_eyes_0 TC_RW_eyes h rfl⟩
set_option maxRecDepth 100000 in
theorem P_Survey_addPictures : mProg 233 = (c_Survey_addPictures, 5) := rfl
set_option maxRecDepth 100000 in
theorem TC_Survey_addPictures : ∀ k as σ p, C_Survey_addPictures k as σ = some p → mEx 6 k as σ p := by
  intro k as σ p hp
  unfold C_Survey_addPictures at hp
  split at hp
  · exact (T_Light_send hp).up (Nat.le_of_ble_eq_true rfl)
  · exact (T_Survey_wouldEndIn hp).up (Nat.le_of_ble_eq_true rfl)
  · cases hp
set_option maxRecDepth 100000 in
theorem T_Survey_addPictures_41 {d : Nat} (hC : ∀ k as σ p, C_Survey_addPictures k as σ = some p → mEx d k as σ p) {l0 l1 l2 l3 l4 : Int} {σ : mS} {b : ((Int × mS) ⊕ ((Int × mS) ⊕ (Int × mS)))} {r : Int × mS} (h : M_Survey_addPictures_41 l0 l1 l2 l3 l4 σ = some b) (hk : (Sum.elim (fun (s : Int × mS) r => mG (d + 1) 233 15 [(3, l0), (1, l1), (1, l2), (1, s.1), (0, 0)] [] s.2 r) (Sum.elim (fun (s : Int × mS) r => mG (d + 1) 233 2 [(3, l0), (1, l1), (1, s.1), (0, 0), (0, 0)] [] s.2 r) (fun b r => r = b))) b r) : mG (d + 1) 233 41 [(3, l0), (1, l1), (1, l2), (1, l3), (1, l4)] [] σ r := by
  refine mblk_ok2 P_Survey_addPictures (F := F_Survey_addPictures_41) (Sum.elim (fun (s : Int × mS) r => mG (d + 1) 233 15 [(3, l0), (1, l1), (1, l2), (1, s.1), (0, 0)] [] s.2 r) (Sum.elim (fun (s : Int × mS) r => mG (d + 1) 233 2 [(3, l0), (1, l1), (1, s.1), (0, 0), (0, 0)] [] s.2 r) (fun b r => r = b))) [([(15, 47)], [0, 1, 2]), ([(2, 49)], [0, 1])] [(41, 47)] [(3, l0), (1, l1), (1, l2), (1, l3), (1, l4)] (by decide +kernel) rfl hC ?_ (fun v σ b r hb hk => by cases hb; exact hk) _ 41 [(3, l0), (1, l1), (1, l2), (1, l3), (1, l4)] [] σ b r rfl (mJ_self _ _ _) ((E_Survey_addPictures_41 l0 l1 l2 l3 l4 σ).trans h) hk
  intro i L st σ b r hj hb hk
  unfold F_Survey_addPictures_41 at hb
  split at hb
  · have key : ∀ (k0 k1 k2 k3 : Int) (k4 : mV) (σ : mS) (b : ((Int × mS) ⊕ ((Int × mS) ⊕ (Int × mS)))) (r : Int × mS), mJ [(3, l0), (1, l1), (1, l2), (1, l3), (1, l4)] 15 [(3, k0), (1, k1), (1, k2), (1, k3), k4] [([(15, 47)], [0, 1, 2]), ([(2, 49)], [0, 1])] → (some (.inl (k3, σ))) = some b → (Sum.elim (fun (s : Int × mS) r => mG (d + 1) 233 15 [(3, l0), (1, l1), (1, l2), (1, s.1), (0, 0)] [] s.2 r) (Sum.elim (fun (s : Int × mS) r => mG (d + 1) 233 2 [(3, l0), (1, l1), (1, s.1), (0, 0), (0, 0)] [] s.2 r) (fun b r => r = b))) b r → mG (d + 1) 233 15 [(3, k0), (1, k1), (1, k2), (1, k3), k4] [] σ r := by
      intro k0 k1 k2 k3 k4 σ b r hj hb hk
      have e0 : k0 = l0 := (Prod.mk.inj (Option.some.inj ((hj.1 rfl).1))).2
      subst e0
      have e1 : k1 = l1 := (Prod.mk.inj (Option.some.inj ((hj.1 rfl).2.1))).2
      subst e1
      have e2 : k2 = l2 := (Prod.mk.inj (Option.some.inj ((hj.1 rfl).2.2.1))).2
      subst e2
      cases hb
      exact mG.lle hk (lle_cons (lle_cons (lle_cons (lle_cons (lle_dead lle_nil)))))
    exact key _ _ _ _ _ σ b r hj hb hk
  · cases hb
set_option maxRecDepth 100000 in
theorem T_Survey_addPictures_26 {d : Nat} (hC : ∀ k as σ p, C_Survey_addPictures k as σ = some p → mEx d k as σ p) {l0 l1 l2 l3 s0 : Int} {σ : mS} {b : ((Int × mS) ⊕ ((Int × mS) ⊕ (Int × mS)))} {r : Int × mS} (h : M_Survey_addPictures_26 l0 l1 l2 l3 s0 σ = some b) (hk : (Sum.elim (fun (s : Int × mS) r => mG (d + 1) 233 15 [(3, l0), (1, l1), (1, l2), (1, s.1), (0, 0)] [] s.2 r) (Sum.elim (fun (s : Int × mS) r => mG (d + 1) 233 2 [(3, l0), (1, l1), (1, s.1), (0, 0), (0, 0)] [] s.2 r) (fun b r => r = b))) b r) : mG (d + 1) 233 26 [(3, l0), (1, l1), (1, l2), (1, l3), (0, 0)] [(1, s0)] σ r := by
  refine mblk_ok2 P_Survey_addPictures (F := F_Survey_addPictures_26) (Sum.elim (fun (s : Int × mS) r => mG (d + 1) 233 15 [(3, l0), (1, l1), (1, l2), (1, s.1), (0, 0)] [] s.2 r) (Sum.elim (fun (s : Int × mS) r => mG (d + 1) 233 2 [(3, l0), (1, l1), (1, s.1), (0, 0), (0, 0)] [] s.2 r) (fun b r => r = b))) [([(15, 47)], [0, 1, 2]), ([(2, 49)], [0, 1])] [(26, 40)] [(3, l0), (1, l1), (1, l2), (1, l3), (0, 0)] (by decide +kernel) rfl hC ?_ (fun v σ b r hb hk => by cases hb; exact hk) _ 26 [(3, l0), (1, l1), (1, l2), (1, l3), (0, 0)] [(1, s0)] σ b r rfl (mJ_self _ _ _) ((E_Survey_addPictures_26 l0 l1 l2 l3 s0 σ).trans h) hk
  intro i L st σ b r hj hb hk
  unfold F_Survey_addPictures_26 at hb
  split at hb
  · have key : ∀ (k0 k1 k2 k3 k4 : Int) (σ : mS) (b : ((Int × mS) ⊕ ((Int × mS) ⊕ (Int × mS)))) (r : Int × mS), mJ [(3, l0), (1, l1), (1, l2), (1, l3), (0, 0)] 41 [(3, k0), (1, k1), (1, k2), (1, k3), (1, k4)] [([(15, 47)], [0, 1, 2]), ([(2, 49)], [0, 1])] → (M_Survey_addPictures_41 k0 k1 k2 k3 k4 σ) = some b → (Sum.elim (fun (s : Int × mS) r => mG (d + 1) 233 15 [(3, l0), (1, l1), (1, l2), (1, s.1), (0, 0)] [] s.2 r) (Sum.elim (fun (s : Int × mS) r => mG (d + 1) 233 2 [(3, l0), (1, l1), (1, s.1), (0, 0), (0, 0)] [] s.2 r) (fun b r => r = b))) b r → mG (d + 1) 233 41 [(3, k0), (1, k1), (1, k2), (1, k3), (1, k4)] [] σ r := by
      intro k0 k1 k2 k3 k4 σ b r hj hb hk
      have e0 : k0 = l0 := (Prod.mk.inj (Option.some.inj ((hj.1 rfl).1))).2
      subst e0
      have e1 : k1 = l1 := (Prod.mk.inj (Option.some.inj ((hj.1 rfl).2.1))).2
      subst e1
      have e2 : k2 = l2 := (Prod.mk.inj (Option.some.inj ((hj.1 rfl).2.2.1))).2
      subst e2
      exact (T_Survey_addPictures_41 hC hb hk).lle (lle_cons (lle_cons (lle_cons (lle_cons (lle_cons lle_nil)))))
    exact key _ _ _ _ _ σ b r hj hb hk
  · cases hb
set_option maxRecDepth 100000 in
theorem TB_Survey_addPictures_15 {d : Nat} (hC : ∀ k as σ p, C_Survey_addPictures k as σ = some p → mEx d k as σ p) {l0 l1 l2 l3 : Int} {σ : mS} {b : ((Int × mS) ⊕ ((Int × mS) ⊕ (Int × mS)))} {r : Int × mS} (h : B_Survey_addPictures_15 l0 l1 l2 l3 σ = some b) (hk : (Sum.elim (fun (s : Int × mS) r => mG (d + 1) 233 15 [(3, l0), (1, l1), (1, l2), (1, s.1), (0, 0)] [] s.2 r) (Sum.elim (fun (s : Int × mS) r => mG (d + 1) 233 2 [(3, l0), (1, l1), (1, s.1), (0, 0), (0, 0)] [] s.2 r) (fun b r => r = b))) b r) : mG (d + 1) 233 15 [(3, l0), (1, l1), (1, l2), (1, l3), (0, 0)] [] σ r := by
  refine mblk_ok2 P_Survey_addPictures (F := F_Survey_addPictures_15) (Sum.elim (fun (s : Int × mS) r => mG (d + 1) 233 15 [(3, l0), (1, l1), (1, l2), (1, s.1), (0, 0)] [] s.2 r) (Sum.elim (fun (s : Int × mS) r => mG (d + 1) 233 2 [(3, l0), (1, l1), (1, s.1), (0, 0), (0, 0)] [] s.2 r) (fun b r => r = b))) [([(15, 47)], [0, 1, 2]), ([(2, 49)], [0, 1])] [(15, 25), (48, 49)] [(3, l0), (1, l1), (1, l2), (1, l3), (0, 0)] (by decide +kernel) rfl hC ?_ (fun v σ b r hb hk => by cases hb; exact hk) _ 15 [(3, l0), (1, l1), (1, l2), (1, l3), (0, 0)] [] σ b r rfl (mJ_self _ _ _) ((E_Survey_addPictures_15 l0 l1 l2 l3 σ).trans h) hk
  intro i L st σ b r hj hb hk
  unfold F_Survey_addPictures_15 at hb
  split at hb
  · have key : ∀ (k0 k1 k2 : Int) (k3 k4 : mV) (σ : mS) (b : ((Int × mS) ⊕ ((Int × mS) ⊕ (Int × mS)))) (r : Int × mS), mJ [(3, l0), (1, l1), (1, l2), (1, l3), (0, 0)] 2 [(3, k0), (1, k1), (1, k2), k3, k4] [([(15, 47)], [0, 1, 2]), ([(2, 49)], [0, 1])] → (some (.inr (.inl (k2, σ)))) = some b → (Sum.elim (fun (s : Int × mS) r => mG (d + 1) 233 15 [(3, l0), (1, l1), (1, l2), (1, s.1), (0, 0)] [] s.2 r) (Sum.elim (fun (s : Int × mS) r => mG (d + 1) 233 2 [(3, l0), (1, l1), (1, s.1), (0, 0), (0, 0)] [] s.2 r) (fun b r => r = b))) b r → mG (d + 1) 233 2 [(3, k0), (1, k1), (1, k2), k3, k4] [] σ r := by
      intro k0 k1 k2 k3 k4 σ b r hj hb hk
      have e0 : k0 = l0 := (Prod.mk.inj (Option.some.inj ((hj.2.1 rfl).1))).2
      subst e0
      have e1 : k1 = l1 := (Prod.mk.inj (Option.some.inj ((hj.2.1 rfl).2.1))).2
      subst e1
      cases hb
      exact mG.lle hk (lle_cons (lle_cons (lle_cons (lle_dead (lle_dead lle_nil)))))
    exact key _ _ _ _ _ σ b r hj hb hk
  · have key : ∀ (k0 k1 k2 k3 u0 : Int) (k4 : mV) (σ : mS) (b : ((Int × mS) ⊕ ((Int × mS) ⊕ (Int × mS)))) (r : Int × mS), mJ [(3, l0), (1, l1), (1, l2), (1, l3), (0, 0)] 26 [(3, k0), (1, k1), (1, k2), (1, k3), k4] [([(15, 47)], [0, 1, 2]), ([(2, 49)], [0, 1])] → (M_Survey_addPictures_26 k0 k1 k2 k3 u0 σ) = some b → (Sum.elim (fun (s : Int × mS) r => mG (d + 1) 233 15 [(3, l0), (1, l1), (1, l2), (1, s.1), (0, 0)] [] s.2 r) (Sum.elim (fun (s : Int × mS) r => mG (d + 1) 233 2 [(3, l0), (1, l1), (1, s.1), (0, 0), (0, 0)] [] s.2 r) (fun b r => r = b))) b r → mG (d + 1) 233 26 [(3, k0), (1, k1), (1, k2), (1, k3), k4] [(1, u0)] σ r := by
      intro k0 k1 k2 k3 u0 k4 σ b r hj hb hk
      have e0 : k0 = l0 := (Prod.mk.inj (Option.some.inj ((hj.1 rfl).1))).2
      subst e0
      have e1 : k1 = l1 := (Prod.mk.inj (Option.some.inj ((hj.1 rfl).2.1))).2
      subst e1
      have e2 : k2 = l2 := (Prod.mk.inj (Option.some.inj ((hj.1 rfl).2.2.1))).2
      subst e2
      exact (T_Survey_addPictures_26 hC hb hk).lle (lle_cons (lle_cons (lle_cons (lle_cons (lle_dead lle_nil)))))
    exact key _ _ _ _ _ _ σ b r hj hb hk
  · cases hb
set_option maxRecDepth 100000 in
theorem T_Survey_addPictures_15 {d : Nat} (hC : ∀ k as σ p, C_Survey_addPictures k as σ = some p → mEx d k as σ p) {l0 l1 l2 l3 : Int} {σ : mS} {b : ((Int × mS) ⊕ (Int × mS))} {r : Int × mS} (h : M_Survey_addPictures_15 l0 l1 l2 l3 σ = some b) (hk : (Sum.elim (fun (s : Int × mS) r => mG (d + 1) 233 2 [(3, l0), (1, l1), (1, s.1), (0, 0), (0, 0)] [] s.2 r) (fun b r => r = b)) b r) : mG (d + 1) 233 15 [(3, l0), (1, l1), (1, l2), (1, l3), (0, 0)] [] σ r :=
  miter_ok (G := fun (s : Int × mS) r => mG (d + 1) 233 15 [(3, l0), (1, l1), (1, l2), (1, s.1), (0, 0)] [] s.2 r) (K := (Sum.elim (fun (s : Int × mS) r => mG (d + 1) 233 2 [(3, l0), (1, l1), (1, s.1), (0, 0), (0, 0)] [] s.2 r) (fun b r => r = b))) (fun s x r hs hx => TB_Survey_addPictures_15 hC hs hx) mN _ b r h hk
set_option maxRecDepth 100000 in
theorem TB_Survey_addPictures_2 {d : Nat} (hC : ∀ k as σ p, C_Survey_addPictures k as σ = some p → mEx d k as σ p) {l0 l1 l2 : Int} {σ : mS} {b : ((Int × mS) ⊕ (Int × mS))} {r : Int × mS} (h : B_Survey_addPictures_2 l0 l1 l2 σ = some b) (hk : (Sum.elim (fun (s : Int × mS) r => mG (d + 1) 233 2 [(3, l0), (1, l1), (1, s.1), (0, 0), (0, 0)] [] s.2 r) (fun b r => r = b)) b r) : mG (d + 1) 233 2 [(3, l0), (1, l1), (1, l2), (0, 0), (0, 0)] [] σ r := by
  refine mblk_ok2 P_Survey_addPictures (F := F_Survey_addPictures_2) (Sum.elim (fun (s : Int × mS) r => mG (d + 1) 233 2 [(3, l0), (1, l1), (1, s.1), (0, 0), (0, 0)] [] s.2 r) (fun b r => r = b)) [([(2, 49)], [0, 1])] [(2, 14), (50, 50)] [(3, l0), (1, l1), (1, l2), (0, 0), (0, 0)] (by decide +kernel) rfl hC ?_ (fun v σ b r hb hk => by cases hb; exact hk) _ 2 [(3, l0), (1, l1), (1, l2), (0, 0), (0, 0)] [] σ b r rfl (mJ_self _ _ _) ((E_Survey_addPictures_2 l0 l1 l2 σ).trans h) hk
  intro i L st σ b r hj hb hk
  unfold F_Survey_addPictures_2 at hb
  split at hb
  · have key : ∀ (k0 k1 k2 k3 : Int) (k4 : mV) (σ : mS) (b : ((Int × mS) ⊕ (Int × mS))) (r : Int × mS), mJ [(3, l0), (1, l1), (1, l2), (0, 0), (0, 0)] 15 [(3, k0), (1, k1), (1, k2), (1, k3), k4] [([(2, 49)], [0, 1])] → (M_Survey_addPictures_15 k0 k1 k2 k3 σ) = some b → (Sum.elim (fun (s : Int × mS) r => mG (d + 1) 233 2 [(3, l0), (1, l1), (1, s.1), (0, 0), (0, 0)] [] s.2 r) (fun b r => r = b)) b r → mG (d + 1) 233 15 [(3, k0), (1, k1), (1, k2), (1, k3), k4] [] σ r := by
      intro k0 k1 k2 k3 k4 σ b r hj hb hk
      have e0 : k0 = l0 := (Prod.mk.inj (Option.some.inj ((hj.1 rfl).1))).2
      subst e0
      have e1 : k1 = l1 := (Prod.mk.inj (Option.some.inj ((hj.1 rfl).2.1))).2
      subst e1
      exact (T_Survey_addPictures_15 hC hb hk).lle (lle_cons (lle_cons (lle_cons (lle_cons (lle_dead lle_nil)))))
    exact key _ _ _ _ _ σ b r hj hb hk
  · cases hb
set_option maxRecDepth 100000 in
theorem T_Survey_addPictures_2 {d : Nat} (hC : ∀ k as σ p, C_Survey_addPictures k as σ = some p → mEx d k as σ p) {l0 l1 l2 : Int} {σ : mS} {b : Int × mS} {r : Int × mS} (h : M_Survey_addPictures_2 l0 l1 l2 σ = some b) (hk : (fun b r => r = b) b r) : mG (d + 1) 233 2 [(3, l0), (1, l1), (1, l2), (0, 0), (0, 0)] [] σ r :=
  miter_ok (G := fun (s : Int × mS) r => mG (d + 1) 233 2 [(3, l0), (1, l1), (1, s.1), (0, 0), (0, 0)] [] s.2 r) (K := (fun b r => r = b)) (fun s x r hs hx => TB_Survey_addPictures_2 hC hs hx) mN _ b r h hk
set_option maxRecDepth 100000 in
theorem T_Survey_addPictures_0 {d : Nat} (hC : ∀ k as σ p, C_Survey_addPictures k as σ = some p → mEx d k as σ p) {l0 l1 : Int} {σ : mS} {b : Int × mS} {r : Int × mS} (h : M_Survey_addPictures l0 l1 σ = some b) (hk : (fun b r => r = b) b r) : mG (d + 1) 233 0 (mInit 5 [(3, l0), (1, l1)]) [] σ r := by
  refine mblk_ok1 P_Survey_addPictures (F := F_Survey_addPictures_0) (fun b r => r = b) hC ?_ (fun v σ b r hb hk => by cases hb; exact hk) _ 0 (mInit 5 [(3, l0), (1, l1)]) [] σ b r ((E_Survey_addPictures_0 l0 l1 σ).trans h) hk
  intro i L st σ b r hb hk
  unfold F_Survey_addPictures_0 at hb
  split at hb
  · have key : ∀ (k0 k1 k2 : Int) (k3 k4 : mV) (σ : mS) (b : Int × mS) (r : Int × mS), (M_Survey_addPictures_2 k0 k1 k2 σ) = some b → (fun b r => r = b) b r → mG (d + 1) 233 2 [(3, k0), (1, k1), (1, k2), k3, k4] [] σ r := by
      intro k0 k1 k2 k3 k4 σ b r hb hk
      exact (T_Survey_addPictures_2 hC hb hk).lle (lle_cons (lle_cons (lle_cons (lle_dead (lle_dead lle_nil)))))
    exact key _ _ _ _ _ σ b r hb hk
  · cases hb
set_option maxRecDepth 100000 in
theorem T_Survey_addPictures {l0 l1 : Int} {σ : mS} {r : Int × mS} (h : M_Survey_addPictures l0 l1 σ = some r) : mEx 7 233 [(3, l0), (1, l1)] σ r :=
  ⟨by rw [P_Survey_addPictures]; exact Nat.le_of_ble_eq_true rfl, by rw [P_Survey_addPictures]; exact T_Survey_addPictures_0 TC_Survey_addPictures h rfl⟩
set_option maxRecDepth 100000 in
theorem P_Survey_firstPlaceWith : mProg 234 = (c_Survey_firstPlaceWith, 3) := rfl
set_option maxRecDepth 100000 in
theorem TC_Survey_firstPlaceWith : ∀ k as σ p, C_Survey_firstPlaceWith k as σ = some p → mEx 0 k as σ p := by
  intro k as σ p hp
  cases hp
set_option maxRecDepth 100000 in
theorem TB_Survey_firstPlaceWith_6 {d : Nat} (hC : ∀ k as σ p, C_Survey_firstPlaceWith k as σ = some p → mEx d k as σ p) {l0 l1 l2 : Int} {σ : mS} {b : ((Int × mS) ⊕ (Int × mS))} {r : Int × mS} (h : B_Survey_firstPlaceWith_6 l0 l1 l2 σ = some b) (hk : (Sum.elim (fun (s : Int × mS) r => mG (d + 1) 234 6 [(3, l0), (1, l1), (1, s.1)] [] s.2 r) (fun b r => r = b)) b r) : mG (d + 1) 234 6 [(3, l0), (1, l1), (1, l2)] [] σ r := by
  refine mblk_ok2 P_Survey_firstPlaceWith (F := F_Survey_firstPlaceWith_6) (Sum.elim (fun (s : Int × mS) r => mG (d + 1) 234 6 [(3, l0), (1, l1), (1, s.1)] [] s.2 r) (fun b r => r = b)) [([(6, 21), (24, 25)], [0, 1])] [(6, 27)] [(3, l0), (1, l1), (1, l2)] (by decide +kernel) rfl hC ?_ (fun v σ b r hb hk => by cases hb; exact hk) _ 6 [(3, l0), (1, l1), (1, l2)] [] σ b r rfl (mJ_self _ _ _) ((E_Survey_firstPlaceWith_6 l0 l1 l2 σ).trans h) hk
  intro i L st σ b r hj hb hk
  unfold F_Survey_firstPlaceWith_6 at hb
  split at hb
  · have key : ∀ (k0 k1 k2 : Int) (σ : mS) (b : ((Int × mS) ⊕ (Int × mS))) (r : Int × mS), mJ [(3, l0), (1, l1), (1, l2)] 6 [(3, k0), (1, k1), (1, k2)] [([(6, 21), (24, 25)], [0, 1])] → (some (.inl (k2, σ))) = some b → (Sum.elim (fun (s : Int × mS) r => mG (d + 1) 234 6 [(3, l0), (1, l1), (1, s.1)] [] s.2 r) (fun b r => r = b)) b r → mG (d + 1) 234 6 [(3, k0), (1, k1), (1, k2)] [] σ r := by
      intro k0 k1 k2 σ b r hj hb hk
      have e0 : k0 = l0 := (Prod.mk.inj (Option.some.inj ((hj.1 rfl).1))).2
      subst e0
      have e1 : k1 = l1 := (Prod.mk.inj (Option.some.inj ((hj.1 rfl).2.1))).2
      subst e1
      cases hb
      exact mG.lle hk (lle_cons (lle_cons (lle_cons lle_nil)))
    exact key _ _ _ σ b r hj hb hk
  · cases hb
set_option maxRecDepth 100000 in
theorem T_Survey_firstPlaceWith_6 {d : Nat} (hC : ∀ k as σ p, C_Survey_firstPlaceWith k as σ = some p → mEx d k as σ p) {l0 l1 l2 : Int} {σ : mS} {b : Int × mS} {r : Int × mS} (h : M_Survey_firstPlaceWith_6 l0 l1 l2 σ = some b) (hk : (fun b r => r = b) b r) : mG (d + 1) 234 6 [(3, l0), (1, l1), (1, l2)] [] σ r :=
  miter_ok (G := fun (s : Int × mS) r => mG (d + 1) 234 6 [(3, l0), (1, l1), (1, s.1)] [] s.2 r) (K := (fun b r => r = b)) (fun s x r hs hx => TB_Survey_firstPlaceWith_6 hC hs hx) mN _ b r h hk
set_option maxRecDepth 100000 in
theorem T_Survey_firstPlaceWith_0 {d : Nat} (hC : ∀ k as σ p, C_Survey_firstPlaceWith k as σ = some p → mEx d k as σ p) {l0 l1 : Int} {σ : mS} {b : Int × mS} {r : Int × mS} (h : M_Survey_firstPlaceWith l0 l1 σ = some b) (hk : (fun b r => r = b) b r) : mG (d + 1) 234 0 (mInit 3 [(3, l0), (1, l1)]) [] σ r := by
  refine mblk_ok1 P_Survey_firstPlaceWith (F := F_Survey_firstPlaceWith_0) (fun b r => r = b) hC ?_ (fun v σ b r hb hk => by cases hb; exact hk) _ 0 (mInit 3 [(3, l0), (1, l1)]) [] σ b r ((E_Survey_firstPlaceWith_0 l0 l1 σ).trans h) hk
  intro i L st σ b r hb hk
  unfold F_Survey_firstPlaceWith_0 at hb
  split at hb
  · have key : ∀ (k0 k1 k2 : Int) (σ : mS) (b : Int × mS) (r : Int × mS), (M_Survey_firstPlaceWith_6 k0 k1 k2 σ) = some b → (fun b r => r = b) b r → mG (d + 1) 234 6 [(3, k0), (1, k1), (1, k2)] [] σ r := by
      intro k0 k1 k2 σ b r hb hk
      exact (T_Survey_firstPlaceWith_6 hC hb hk).lle (lle_cons (lle_cons (lle_cons lle_nil)))
    exact key _ _ _ σ b r hb hk
  · cases hb
set_option maxRecDepth 100000 in
theorem T_Survey_firstPlaceWith {l0 l1 : Int} {σ : mS} {r : Int × mS} (h : M_Survey_firstPlaceWith l0 l1 σ = some r) : mEx 1 234 [(3, l0), (1, l1)] σ r :=
  ⟨by rw [P_Survey_firstPlaceWith]; exact Nat.le_of_ble_eq_true rfl, by rw [P_Survey_firstPlaceWith]; exact T_Survey_firstPlaceWith_0 TC_Survey_firstPlaceWith h rfl⟩
set_option maxRecDepth 100000 in
theorem P_RW_where : mProg 32 = (c_RW_where, 3) := rfl
set_option maxRecDepth 100000 in
theorem TC_RW_where : ∀ k as σ p, C_RW_where k as σ = some p → mEx 7 k as σ p := by
  intro k as σ p hp
  unfold C_RW_where at hp
  split at hp
  · exact (T_RW_isWithin hp).up (Nat.le_of_ble_eq_true rfl)
  · exact (T_RW_isTall hp).up (Nat.le_of_ble_eq_true rfl)
  · exact (T_Light_standByTerms hp).up (Nat.le_of_ble_eq_true rfl)
  · exact (T_Survey_begin hp).up (Nat.le_of_ble_eq_true rfl)
  · exact (T_Survey_addPictures hp).up (Nat.le_of_ble_eq_true rfl)
  · exact (T_Survey_firstPlaceWith hp).up (Nat.le_of_ble_eq_true rfl)
  · cases hp
set_option maxRecDepth 100000 in
theorem T_RW_where_0 {d : Nat} (hC : ∀ k as σ p, C_RW_where k as σ = some p → mEx d k as σ p) {l0 l1 l2 : Int} {σ : mS} {b : Int × mS} {r : Int × mS} (h : M_RW_where l0 l1 l2 σ = some b) (hk : (fun b r => r = b) b r) : mG (d + 1) 32 0 (mInit 3 [(3, l0), (1, l1), (1, l2)]) [] σ r := by
  refine mblk_ok1 P_RW_where (F := F_RW_where_0) (fun b r => r = b) hC ?_ (fun v σ b r hb hk => by cases hb; exact hk) _ 0 (mInit 3 [(3, l0), (1, l1), (1, l2)]) [] σ b r ((E_RW_where_0 l0 l1 l2 σ).trans h) hk
  intro i L st σ b r hb hk
  cases hb
set_option maxRecDepth 100000 in
theorem T_RW_where {l0 l1 l2 : Int} {σ : mS} {r : Int × mS} (h : M_RW_where l0 l1 l2 σ = some r) : mEx 8 32 [(3, l0), (1, l1), (1, l2)] σ r :=
  ⟨by rw [P_RW_where]; exact Nat.le_of_ble_eq_true rfl, by rw [P_RW_where]; exact T_RW_where_0 TC_RW_where h rfl⟩
set_option maxRecDepth 100000 in
theorem P_RW_sight : mProg 33 = (c_RW_sight, 5) := rfl
set_option maxRecDepth 100000 in
theorem TC_RW_sight : ∀ k as σ p, C_RW_sight k as σ = some p → mEx 2 k as σ p := by
  intro k as σ p hp
  unfold C_RW_sight at hp
  split at hp
  · exact (T_RW_refuse hp).up (Nat.le_of_ble_eq_true rfl)
  · exact (T_RW_accept hp).up (Nat.le_of_ble_eq_true rfl)
  · exact (T_RW_isWithin hp).up (Nat.le_of_ble_eq_true rfl)
  · exact (T_RW_isAngle hp).up (Nat.le_of_ble_eq_true rfl)
  · exact (T_Road_hasThing hp).up (Nat.le_of_ble_eq_true rfl)
  · cases hp
set_option maxRecDepth 100000 in
theorem T_RW_sight_0 {d : Nat} (hC : ∀ k as σ p, C_RW_sight k as σ = some p → mEx d k as σ p) {l0 l1 l2 l3 : Int} {σ : mS} {b : Int × mS} {r : Int × mS} (h : M_RW_sight l0 l1 l2 l3 σ = some b) (hk : (fun b r => r = b) b r) : mG (d + 1) 33 0 (mInit 5 [(3, l0), (1, l1), (1, l2), (1, l3)]) [] σ r := by
  refine mblk_ok1 P_RW_sight (F := F_RW_sight_0) (fun b r => r = b) hC ?_ (fun v σ b r hb hk => by cases hb; exact hk) _ 0 (mInit 5 [(3, l0), (1, l1), (1, l2), (1, l3)]) [] σ b r ((E_RW_sight_0 l0 l1 l2 l3 σ).trans h) hk
  intro i L st σ b r hb hk
  cases hb
set_option maxRecDepth 100000 in
theorem T_RW_sight {l0 l1 l2 l3 : Int} {σ : mS} {r : Int × mS} (h : M_RW_sight l0 l1 l2 l3 σ = some r) : mEx 3 33 [(3, l0), (1, l1), (1, l2), (1, l3)] σ r :=
  ⟨by rw [P_RW_sight]; exact Nat.le_of_ble_eq_true rfl, by rw [P_RW_sight]; exact T_RW_sight_0 TC_RW_sight h rfl⟩
set_option maxRecDepth 100000 in
theorem P_Road_removeSight : mProg 225 = (c_Road_removeSight, 3) := rfl
set_option maxRecDepth 100000 in
theorem TC_Road_removeSight : ∀ k as σ p, C_Road_removeSight k as σ = some p → mEx 0 k as σ p := by
  intro k as σ p hp
  cases hp
set_option maxRecDepth 100000 in
theorem TB_Road_removeSight_2 {d : Nat} (hC : ∀ k as σ p, C_Road_removeSight k as σ = some p → mEx d k as σ p) {l0 l2 : Int} {σ : mS} {b : ((Int × mS) ⊕ (Int × mS))} {r : Int × mS} (h : B_Road_removeSight_2 l0 l2 σ = some b) (hk : (Sum.elim (fun (s : Int × mS) r => mG (d + 1) 225 2 [(3, l0), (0, 0), (1, s.1)] [] s.2 r) (fun b r => r = b)) b r) : mG (d + 1) 225 2 [(3, l0), (0, 0), (1, l2)] [] σ r := by
  refine mblk_ok2 P_Road_removeSight (F := F_Road_removeSight_2) (Sum.elim (fun (s : Int × mS) r => mG (d + 1) 225 2 [(3, l0), (0, 0), (1, s.1)] [] s.2 r) (fun b r => r = b)) [([(2, 39)], [0])] [(2, 46)] [(3, l0), (0, 0), (1, l2)] (by decide +kernel) rfl hC ?_ (fun v σ b r hb hk => by cases hb; exact hk) _ 2 [(3, l0), (0, 0), (1, l2)] [] σ b r rfl (mJ_self _ _ _) ((E_Road_removeSight_2 l0 l2 σ).trans h) hk
  intro i L st σ b r hj hb hk
  unfold F_Road_removeSight_2 at hb
  split at hb
  · have key : ∀ (k0 k2 : Int) (k1 : mV) (σ : mS) (b : ((Int × mS) ⊕ (Int × mS))) (r : Int × mS), mJ [(3, l0), (0, 0), (1, l2)] 2 [(3, k0), k1, (1, k2)] [([(2, 39)], [0])] → (some (.inl (k2, σ))) = some b → (Sum.elim (fun (s : Int × mS) r => mG (d + 1) 225 2 [(3, l0), (0, 0), (1, s.1)] [] s.2 r) (fun b r => r = b)) b r → mG (d + 1) 225 2 [(3, k0), k1, (1, k2)] [] σ r := by
      intro k0 k2 k1 σ b r hj hb hk
      have e0 : k0 = l0 := (Prod.mk.inj (Option.some.inj ((hj.1 rfl).1))).2
      subst e0
      cases hb
      exact mG.lle hk (lle_cons (lle_dead (lle_cons lle_nil)))
    exact key _ _ _ σ b r hj hb hk
  · cases hb
set_option maxRecDepth 100000 in
theorem T_Road_removeSight_2 {d : Nat} (hC : ∀ k as σ p, C_Road_removeSight k as σ = some p → mEx d k as σ p) {l0 l2 : Int} {σ : mS} {b : Int × mS} {r : Int × mS} (h : M_Road_removeSight_2 l0 l2 σ = some b) (hk : (fun b r => r = b) b r) : mG (d + 1) 225 2 [(3, l0), (0, 0), (1, l2)] [] σ r :=
  miter_ok (G := fun (s : Int × mS) r => mG (d + 1) 225 2 [(3, l0), (0, 0), (1, s.1)] [] s.2 r) (K := (fun b r => r = b)) (fun s x r hs hx => TB_Road_removeSight_2 hC hs hx) mN _ b r h hk
set_option maxRecDepth 100000 in
theorem T_Road_removeSight_0 {d : Nat} (hC : ∀ k as σ p, C_Road_removeSight k as σ = some p → mEx d k as σ p) {l0 l1 : Int} {σ : mS} {b : Int × mS} {r : Int × mS} (h : M_Road_removeSight l0 l1 σ = some b) (hk : (fun b r => r = b) b r) : mG (d + 1) 225 0 (mInit 3 [(3, l0), (1, l1)]) [] σ r := by
  refine mblk_ok1 P_Road_removeSight (F := F_Road_removeSight_0) (fun b r => r = b) hC ?_ (fun v σ b r hb hk => by cases hb; exact hk) _ 0 (mInit 3 [(3, l0), (1, l1)]) [] σ b r ((E_Road_removeSight_0 l0 l1 σ).trans h) hk
  intro i L st σ b r hb hk
  unfold F_Road_removeSight_0 at hb
  split at hb
  · have key : ∀ (k0 k2 : Int) (k1 : mV) (σ : mS) (b : Int × mS) (r : Int × mS), (M_Road_removeSight_2 k0 k2 σ) = some b → (fun b r => r = b) b r → mG (d + 1) 225 2 [(3, k0), k1, (1, k2)] [] σ r := by
      intro k0 k2 k1 σ b r hb hk
      exact (T_Road_removeSight_2 hC hb hk).lle (lle_cons (lle_dead (lle_cons lle_nil)))
    exact key _ _ _ σ b r hb hk
  · cases hb
set_option maxRecDepth 100000 in
theorem T_Road_removeSight {l0 l1 : Int} {σ : mS} {r : Int × mS} (h : M_Road_removeSight l0 l1 σ = some r) : mEx 1 225 [(3, l0), (1, l1)] σ r :=
  ⟨by rw [P_Road_removeSight]; exact Nat.le_of_ble_eq_true rfl, by rw [P_Road_removeSight]; exact T_Road_removeSight_0 TC_Road_removeSight h rfl⟩
set_option maxRecDepth 100000 in
theorem P_RW_drop : mProg 34 = (c_RW_drop, 2) := rfl
set_option maxRecDepth 100000 in
theorem TC_RW_drop : ∀ k as σ p, C_RW_drop k as σ = some p → mEx 2 k as σ p := by
  intro k as σ p hp
  unfold C_RW_drop at hp
  split at hp
  · exact (T_RW_refuse hp).up (Nat.le_of_ble_eq_true rfl)
  · exact (T_RW_accept hp).up (Nat.le_of_ble_eq_true rfl)
  · exact (T_RW_isWithin hp).up (Nat.le_of_ble_eq_true rfl)
  · exact (T_Road_removeSight hp).up (Nat.le_of_ble_eq_true rfl)
  · cases hp
set_option maxRecDepth 100000 in
theorem T_RW_drop_0 {d : Nat} (hC : ∀ k as σ p, C_RW_drop k as σ = some p → mEx d k as σ p) {l0 l1 : Int} {σ : mS} {b : Int × mS} {r : Int × mS} (h : M_RW_drop l0 l1 σ = some b) (hk : (fun b r => r = b) b r) : mG (d + 1) 34 0 (mInit 2 [(3, l0), (1, l1)]) [] σ r := by
  refine mblk_ok1 P_RW_drop (F := F_RW_drop_0) (fun b r => r = b) hC ?_ (fun v σ b r hb hk => by cases hb; exact hk) _ 0 (mInit 2 [(3, l0), (1, l1)]) [] σ b r ((E_RW_drop_0 l0 l1 σ).trans h) hk
  intro i L st σ b r hb hk
  cases hb
set_option maxRecDepth 100000 in
theorem T_RW_drop {l0 l1 : Int} {σ : mS} {r : Int × mS} (h : M_RW_drop l0 l1 σ = some r) : mEx 3 34 [(3, l0), (1, l1)] σ r :=
  ⟨by rw [P_RW_drop]; exact Nat.le_of_ble_eq_true rfl, by rw [P_RW_drop]; exact T_RW_drop_0 TC_RW_drop h rfl⟩
set_option maxRecDepth 100000 in
theorem P_RW_sightsWrong : mProg 44 = (c_RW_sightsWrong, 5) := rfl
set_option maxRecDepth 100000 in
theorem TC_RW_sightsWrong : ∀ k as σ p, C_RW_sightsWrong k as σ = some p → mEx 6 k as σ p := by
  intro k as σ p hp
  unfold C_RW_sightsWrong at hp
  split at hp
  · exact (T_Light_standByTerms hp).up (Nat.le_of_ble_eq_true rfl)
  · exact (T_Light_turnTo hp).up (Nat.le_of_ble_eq_true rfl)
  · exact (T_Light_send hp).up (Nat.le_of_ble_eq_true rfl)
  · cases hp
set_option maxRecDepth 100000 in
theorem T_RW_sightsWrong_38 {d : Nat} (hC : ∀ k as σ p, C_RW_sightsWrong k as σ = some p → mEx d k as σ p) {l0 l2 l3 s0 : Int} {σ : mS} {b : ((Int × Int × mS) ⊕ (Int × mS))} {r : Int × mS} (h : M_RW_sightsWrong_38 l0 l2 l3 s0 σ = some b) (hk : (Sum.elim (fun (s : Int × Int × mS) r => mG (d + 1) 44 11 [(3, l0), (0, 0), (1, s.1), (1, s.2.1), (0, 0)] [] s.2.2 r) (fun b r => r = b)) b r) : mG (d + 1) 44 38 [(3, l0), (0, 0), (1, l2), (1, l3), (0, 0)] [(1, s0)] σ r := by
  refine mblk_ok2 P_RW_sightsWrong (F := F_RW_sightsWrong_38) (Sum.elim (fun (s : Int × Int × mS) r => mG (d + 1) 44 11 [(3, l0), (0, 0), (1, s.1), (1, s.2.1), (0, 0)] [] s.2.2 r) (fun b r => r = b)) [([(11, 48)], [0])] [(38, 48)] [(3, l0), (0, 0), (1, l2), (1, l3), (0, 0)] (by decide +kernel) rfl hC ?_ (fun v σ b r hb hk => by cases hb; exact hk) _ 38 [(3, l0), (0, 0), (1, l2), (1, l3), (0, 0)] [(1, s0)] σ b r rfl (mJ_self _ _ _) ((E_RW_sightsWrong_38 l0 l2 l3 s0 σ).trans h) hk
  intro i L st σ b r hj hb hk
  unfold F_RW_sightsWrong_38 at hb
  split at hb
  · have key : ∀ (k0 k2 k3 : Int) (k1 k4 : mV) (σ : mS) (b : ((Int × Int × mS) ⊕ (Int × mS))) (r : Int × mS), mJ [(3, l0), (0, 0), (1, l2), (1, l3), (0, 0)] 11 [(3, k0), k1, (1, k2), (1, k3), k4] [([(11, 48)], [0])] → (some (.inl (k2, k3, σ))) = some b → (Sum.elim (fun (s : Int × Int × mS) r => mG (d + 1) 44 11 [(3, l0), (0, 0), (1, s.1), (1, s.2.1), (0, 0)] [] s.2.2 r) (fun b r => r = b)) b r → mG (d + 1) 44 11 [(3, k0), k1, (1, k2), (1, k3), k4] [] σ r := by
      intro k0 k2 k3 k1 k4 σ b r hj hb hk
      have e0 : k0 = l0 := (Prod.mk.inj (Option.some.inj ((hj.1 rfl).1))).2
      subst e0
      cases hb
      exact mG.lle hk (lle_cons (lle_dead (lle_cons (lle_cons (lle_dead lle_nil)))))
    exact key _ _ _ _ _ σ b r hj hb hk
  · cases hb
set_option maxRecDepth 100000 in
theorem TB_RW_sightsWrong_11 {d : Nat} (hC : ∀ k as σ p, C_RW_sightsWrong k as σ = some p → mEx d k as σ p) {l0 l2 l3 : Int} {σ : mS} {b : ((Int × Int × mS) ⊕ (Int × mS))} {r : Int × mS} (h : B_RW_sightsWrong_11 l0 l2 l3 σ = some b) (hk : (Sum.elim (fun (s : Int × Int × mS) r => mG (d + 1) 44 11 [(3, l0), (0, 0), (1, s.1), (1, s.2.1), (0, 0)] [] s.2.2 r) (fun b r => r = b)) b r) : mG (d + 1) 44 11 [(3, l0), (0, 0), (1, l2), (1, l3), (0, 0)] [] σ r := by
  refine mblk_ok2 P_RW_sightsWrong (F := F_RW_sightsWrong_11) (Sum.elim (fun (s : Int × Int × mS) r => mG (d + 1) 44 11 [(3, l0), (0, 0), (1, s.1), (1, s.2.1), (0, 0)] [] s.2.2 r) (fun b r => r = b)) [([(11, 48)], [0])] [(11, 37), (49, 50)] [(3, l0), (0, 0), (1, l2), (1, l3), (0, 0)] (by decide +kernel) rfl hC ?_ (fun v σ b r hb hk => by cases hb; exact hk) _ 11 [(3, l0), (0, 0), (1, l2), (1, l3), (0, 0)] [] σ b r rfl (mJ_self _ _ _) ((E_RW_sightsWrong_11 l0 l2 l3 σ).trans h) hk
  intro i L st σ b r hj hb hk
  unfold F_RW_sightsWrong_11 at hb
  split at hb
  · have key : ∀ (k0 k2 k3 u0 : Int) (k1 k4 : mV) (σ : mS) (b : ((Int × Int × mS) ⊕ (Int × mS))) (r : Int × mS), mJ [(3, l0), (0, 0), (1, l2), (1, l3), (0, 0)] 38 [(3, k0), k1, (1, k2), (1, k3), k4] [([(11, 48)], [0])] → (M_RW_sightsWrong_38 k0 k2 k3 u0 σ) = some b → (Sum.elim (fun (s : Int × Int × mS) r => mG (d + 1) 44 11 [(3, l0), (0, 0), (1, s.1), (1, s.2.1), (0, 0)] [] s.2.2 r) (fun b r => r = b)) b r → mG (d + 1) 44 38 [(3, k0), k1, (1, k2), (1, k3), k4] [(1, u0)] σ r := by
      intro k0 k2 k3 u0 k1 k4 σ b r hj hb hk
      have e0 : k0 = l0 := (Prod.mk.inj (Option.some.inj ((hj.1 rfl).1))).2
      subst e0
      exact (T_RW_sightsWrong_38 hC hb hk).lle (lle_cons (lle_dead (lle_cons (lle_cons (lle_dead lle_nil)))))
    exact key _ _ _ _ _ _ σ b r hj hb hk
  · cases hb
set_option maxRecDepth 100000 in
theorem T_RW_sightsWrong_11 {d : Nat} (hC : ∀ k as σ p, C_RW_sightsWrong k as σ = some p → mEx d k as σ p) {l0 l2 l3 : Int} {σ : mS} {b : Int × mS} {r : Int × mS} (h : M_RW_sightsWrong_11 l0 l2 l3 σ = some b) (hk : (fun b r => r = b) b r) : mG (d + 1) 44 11 [(3, l0), (0, 0), (1, l2), (1, l3), (0, 0)] [] σ r :=
  miter_ok (G := fun (s : Int × Int × mS) r => mG (d + 1) 44 11 [(3, l0), (0, 0), (1, s.1), (1, s.2.1), (0, 0)] [] s.2.2 r) (K := (fun b r => r = b)) (fun s x r hs hx => TB_RW_sightsWrong_11 hC hs hx) mN _ b r h hk
set_option maxRecDepth 100000 in
theorem T_RW_sightsWrong_0 {d : Nat} (hC : ∀ k as σ p, C_RW_sightsWrong k as σ = some p → mEx d k as σ p) {l0 l1 : Int} {σ : mS} {b : Int × mS} {r : Int × mS} (h : M_RW_sightsWrong l0 l1 σ = some b) (hk : (fun b r => r = b) b r) : mG (d + 1) 44 0 (mInit 5 [(3, l0), (1, l1)]) [] σ r := by
  refine mblk_ok1 P_RW_sightsWrong (F := F_RW_sightsWrong_0) (fun b r => r = b) hC ?_ (fun v σ b r hb hk => by cases hb; exact hk) _ 0 (mInit 5 [(3, l0), (1, l1)]) [] σ b r ((E_RW_sightsWrong_0 l0 l1 σ).trans h) hk
  intro i L st σ b r hb hk
  unfold F_RW_sightsWrong_0 at hb
  split at hb
  · have key : ∀ (k0 k2 k3 : Int) (k1 k4 : mV) (σ : mS) (b : Int × mS) (r : Int × mS), (M_RW_sightsWrong_11 k0 k2 k3 σ) = some b → (fun b r => r = b) b r → mG (d + 1) 44 11 [(3, k0), k1, (1, k2), (1, k3), k4] [] σ r := by
      intro k0 k2 k3 k1 k4 σ b r hb hk
      exact (T_RW_sightsWrong_11 hC hb hk).lle (lle_cons (lle_dead (lle_cons (lle_cons (lle_dead lle_nil)))))
    exact key _ _ _ _ _ σ b r hb hk
  · cases hb
set_option maxRecDepth 100000 in
theorem T_RW_sightsWrong {l0 l1 : Int} {σ : mS} {r : Int × mS} (h : M_RW_sightsWrong l0 l1 σ = some r) : mEx 7 44 [(3, l0), (1, l1)] σ r :=
  ⟨by rw [P_RW_sightsWrong]; exact Nat.le_of_ble_eq_true rfl, by rw [P_RW_sightsWrong]; exact T_RW_sightsWrong_0 TC_RW_sightsWrong h rfl⟩
set_option maxRecDepth 100000 in
theorem P_RW_wrong : mProg 35 = (c_RW_wrong, 2) := rfl
set_option maxRecDepth 100000 in
theorem TC_RW_wrong : ∀ k as σ p, C_RW_wrong k as σ = some p → mEx 7 k as σ p := by
  intro k as σ p hp
  unfold C_RW_wrong at hp
  split at hp
  · exact (T_RW_sightsWrong hp).up (Nat.le_of_ble_eq_true rfl)
  · exact (T_RW_isHour hp).up (Nat.le_of_ble_eq_true rfl)
  · cases hp
set_option maxRecDepth 100000 in
theorem T_RW_wrong_0 {d : Nat} (hC : ∀ k as σ p, C_RW_wrong k as σ = some p → mEx d k as σ p) {l0 l1 : Int} {σ : mS} {b : Int × mS} {r : Int × mS} (h : M_RW_wrong l0 l1 σ = some b) (hk : (fun b r => r = b) b r) : mG (d + 1) 35 0 (mInit 2 [(3, l0), (1, l1)]) [] σ r := by
  refine mblk_ok1 P_RW_wrong (F := F_RW_wrong_0) (fun b r => r = b) hC ?_ (fun v σ b r hb hk => by cases hb; exact hk) _ 0 (mInit 2 [(3, l0), (1, l1)]) [] σ b r ((E_RW_wrong_0 l0 l1 σ).trans h) hk
  intro i L st σ b r hb hk
  cases hb
set_option maxRecDepth 100000 in
theorem T_RW_wrong {l0 l1 : Int} {σ : mS} {r : Int × mS} (h : M_RW_wrong l0 l1 σ = some r) : mEx 8 35 [(3, l0), (1, l1)] σ r :=
  ⟨by rw [P_RW_wrong]; exact Nat.le_of_ble_eq_true rfl, by rw [P_RW_wrong]; exact T_RW_wrong_0 TC_RW_wrong h rfl⟩
set_option maxRecDepth 100000 in
theorem P_RW_fits : mProg 36 = (c_RW_fits, 3) := rfl
set_option maxRecDepth 100000 in
theorem TC_RW_fits : ∀ k as σ p, C_RW_fits k as σ = some p → mEx 7 k as σ p := by
  intro k as σ p hp
  unfold C_RW_fits at hp
  split at hp
  · exact (T_RW_sightsWrong hp).up (Nat.le_of_ble_eq_true rfl)
  · cases hp
set_option maxRecDepth 100000 in
theorem TB_RW_fits_4 {d : Nat} (hC : ∀ k as σ p, C_RW_fits k as σ = some p → mEx d k as σ p) {l0 l1 l2 : Int} {σ : mS} {b : ((Int × Int × mS) ⊕ (Int × mS))} {r : Int × mS} (h : B_RW_fits_4 l0 l1 l2 σ = some b) (hk : (Sum.elim (fun (s : Int × Int × mS) r => mG (d + 1) 36 4 [(3, l0), (1, s.1), (1, s.2.1)] [] s.2.2 r) (fun b r => r = b)) b r) : mG (d + 1) 36 4 [(3, l0), (1, l1), (1, l2)] [] σ r := by
  refine mblk_ok2 P_RW_fits (F := F_RW_fits_4) (Sum.elim (fun (s : Int × Int × mS) r => mG (d + 1) 36 4 [(3, l0), (1, s.1), (1, s.2.1)] [] s.2.2 r) (fun b r => r = b)) [([(4, 18)], [0])] [(4, 20)] [(3, l0), (1, l1), (1, l2)] (by decide +kernel) rfl hC ?_ (fun v σ b r hb hk => by cases hb; exact hk) _ 4 [(3, l0), (1, l1), (1, l2)] [] σ b r rfl (mJ_self _ _ _) ((E_RW_fits_4 l0 l1 l2 σ).trans h) hk
  intro i L st σ b r hj hb hk
  unfold F_RW_fits_4 at hb
  split at hb
  · have key : ∀ (k0 k1 k2 : Int) (σ : mS) (b : ((Int × Int × mS) ⊕ (Int × mS))) (r : Int × mS), mJ [(3, l0), (1, l1), (1, l2)] 4 [(3, k0), (1, k1), (1, k2)] [([(4, 18)], [0])] → (some (.inl (k1, k2, σ))) = some b → (Sum.elim (fun (s : Int × Int × mS) r => mG (d + 1) 36 4 [(3, l0), (1, s.1), (1, s.2.1)] [] s.2.2 r) (fun b r => r = b)) b r → mG (d + 1) 36 4 [(3, k0), (1, k1), (1, k2)] [] σ r := by
      intro k0 k1 k2 σ b r hj hb hk
      have e0 : k0 = l0 := (Prod.mk.inj (Option.some.inj ((hj.1 rfl).1))).2
      subst e0
      cases hb
      exact mG.lle hk (lle_cons (lle_cons (lle_cons lle_nil)))
    exact key _ _ _ σ b r hj hb hk
  · cases hb
set_option maxRecDepth 100000 in
theorem T_RW_fits_4 {d : Nat} (hC : ∀ k as σ p, C_RW_fits k as σ = some p → mEx d k as σ p) {l0 l1 l2 : Int} {σ : mS} {b : Int × mS} {r : Int × mS} (h : M_RW_fits_4 l0 l1 l2 σ = some b) (hk : (fun b r => r = b) b r) : mG (d + 1) 36 4 [(3, l0), (1, l1), (1, l2)] [] σ r :=
  miter_ok (G := fun (s : Int × Int × mS) r => mG (d + 1) 36 4 [(3, l0), (1, s.1), (1, s.2.1)] [] s.2.2 r) (K := (fun b r => r = b)) (fun s x r hs hx => TB_RW_fits_4 hC hs hx) mN _ b r h hk
set_option maxRecDepth 100000 in
theorem T_RW_fits_0 {d : Nat} (hC : ∀ k as σ p, C_RW_fits k as σ = some p → mEx d k as σ p) {l0 : Int} {σ : mS} {b : Int × mS} {r : Int × mS} (h : M_RW_fits l0 σ = some b) (hk : (fun b r => r = b) b r) : mG (d + 1) 36 0 (mInit 3 [(3, l0)]) [] σ r := by
  refine mblk_ok1 P_RW_fits (F := F_RW_fits_0) (fun b r => r = b) hC ?_ (fun v σ b r hb hk => by cases hb; exact hk) _ 0 (mInit 3 [(3, l0)]) [] σ b r ((E_RW_fits_0 l0 σ).trans h) hk
  intro i L st σ b r hb hk
  unfold F_RW_fits_0 at hb
  split at hb
  · have key : ∀ (k0 k1 k2 : Int) (σ : mS) (b : Int × mS) (r : Int × mS), (M_RW_fits_4 k0 k1 k2 σ) = some b → (fun b r => r = b) b r → mG (d + 1) 36 4 [(3, k0), (1, k1), (1, k2)] [] σ r := by
      intro k0 k1 k2 σ b r hb hk
      exact (T_RW_fits_4 hC hb hk).lle (lle_cons (lle_cons (lle_cons lle_nil)))
    exact key _ _ _ σ b r hb hk
  · cases hb
set_option maxRecDepth 100000 in
theorem T_RW_fits {l0 : Int} {σ : mS} {r : Int × mS} (h : M_RW_fits l0 σ = some r) : mEx 8 36 [(3, l0)] σ r :=
  ⟨by rw [P_RW_fits]; exact Nat.le_of_ble_eq_true rfl, by rw [P_RW_fits]; exact T_RW_fits_0 TC_RW_fits h rfl⟩
set_option maxRecDepth 100000 in
theorem P_RW_likely : mProg 37 = (c_RW_likely, 5) := rfl
set_option maxRecDepth 100000 in
theorem TC_RW_likely : ∀ k as σ p, C_RW_likely k as σ = some p → mEx 7 k as σ p := by
  intro k as σ p hp
  unfold C_RW_likely at hp
  split at hp
  · exact (T_RW_sightsWrong hp).up (Nat.le_of_ble_eq_true rfl)
  · cases hp
set_option maxRecDepth 100000 in
theorem TB_RW_likely_8 {d : Nat} (hC : ∀ k as σ p, C_RW_likely k as σ = some p → mEx d k as σ p) {l0 l1 l2 l3 : Int} {σ : mS} {b : ((Int × Int × Int × mS) ⊕ (Int × mS))} {r : Int × mS} (h : B_RW_likely_8 l0 l1 l2 l3 σ = some b) (hk : (Sum.elim (fun (s : Int × Int × Int × mS) r => mG (d + 1) 37 8 [(3, l0), (1, s.1), (1, s.2.1), (1, s.2.2.1), (0, 0)] [] s.2.2.2 r) (fun b r => r = b)) b r) : mG (d + 1) 37 8 [(3, l0), (1, l1), (1, l2), (1, l3), (0, 0)] [] σ r := by
  refine mblk_ok2 P_RW_likely (F := F_RW_likely_8) (Sum.elim (fun (s : Int × Int × Int × mS) r => mG (d + 1) 37 8 [(3, l0), (1, s.1), (1, s.2.1), (1, s.2.2.1), (0, 0)] [] s.2.2.2 r) (fun b r => r = b)) [([(8, 23)], [0])] [(8, 25)] [(3, l0), (1, l1), (1, l2), (1, l3), (0, 0)] (by decide +kernel) rfl hC ?_ (fun v σ b r hb hk => by cases hb; exact hk) _ 8 [(3, l0), (1, l1), (1, l2), (1, l3), (0, 0)] [] σ b r rfl (mJ_self _ _ _) ((E_RW_likely_8 l0 l1 l2 l3 σ).trans h) hk
  intro i L st σ b r hj hb hk
  unfold F_RW_likely_8 at hb
  split at hb
  · have key : ∀ (k0 k1 k2 k3 : Int) (k4 : mV) (σ : mS) (b : ((Int × Int × Int × mS) ⊕ (Int × mS))) (r : Int × mS), mJ [(3, l0), (1, l1), (1, l2), (1, l3), (0, 0)] 8 [(3, k0), (1, k1), (1, k2), (1, k3), k4] [([(8, 23)], [0])] → (some (.inl (k1, k2, k3, σ))) = some b → (Sum.elim (fun (s : Int × Int × Int × mS) r => mG (d + 1) 37 8 [(3, l0), (1, s.1), (1, s.2.1), (1, s.2.2.1), (0, 0)] [] s.2.2.2 r) (fun b r => r = b)) b r → mG (d + 1) 37 8 [(3, k0), (1, k1), (1, k2), (1, k3), k4] [] σ r := by
      intro k0 k1 k2 k3 k4 σ b r hj hb hk
      have e0 : k0 = l0 := (Prod.mk.inj (Option.some.inj ((hj.1 rfl).1))).2
      subst e0
      cases hb
      exact mG.lle hk (lle_cons (lle_cons (lle_cons (lle_cons (lle_dead lle_nil)))))
    exact key _ _ _ _ _ σ b r hj hb hk
  · cases hb
set_option maxRecDepth 100000 in
theorem T_RW_likely_8 {d : Nat} (hC : ∀ k as σ p, C_RW_likely k as σ = some p → mEx d k as σ p) {l0 l1 l2 l3 : Int} {σ : mS} {b : Int × mS} {r : Int × mS} (h : M_RW_likely_8 l0 l1 l2 l3 σ = some b) (hk : (fun b r => r = b) b r) : mG (d + 1) 37 8 [(3, l0), (1, l1), (1, l2), (1, l3), (0, 0)] [] σ r :=
  miter_ok (G := fun (s : Int × Int × Int × mS) r => mG (d + 1) 37 8 [(3, l0), (1, s.1), (1, s.2.1), (1, s.2.2.1), (0, 0)] [] s.2.2.2 r) (K := (fun b r => r = b)) (fun s x r hs hx => TB_RW_likely_8 hC hs hx) mN _ b r h hk
set_option maxRecDepth 100000 in
theorem T_RW_likely_0 {d : Nat} (hC : ∀ k as σ p, C_RW_likely k as σ = some p → mEx d k as σ p) {l0 : Int} {σ : mS} {b : Int × mS} {r : Int × mS} (h : M_RW_likely l0 σ = some b) (hk : (fun b r => r = b) b r) : mG (d + 1) 37 0 (mInit 5 [(3, l0)]) [] σ r := by
  refine mblk_ok1 P_RW_likely (F := F_RW_likely_0) (fun b r => r = b) hC ?_ (fun v σ b r hb hk => by cases hb; exact hk) _ 0 (mInit 5 [(3, l0)]) [] σ b r ((E_RW_likely_0 l0 σ).trans h) hk
  intro i L st σ b r hb hk
  unfold F_RW_likely_0 at hb
  split at hb
  · have key : ∀ (k0 k1 k2 k3 : Int) (k4 : mV) (σ : mS) (b : Int × mS) (r : Int × mS), (M_RW_likely_8 k0 k1 k2 k3 σ) = some b → (fun b r => r = b) b r → mG (d + 1) 37 8 [(3, k0), (1, k1), (1, k2), (1, k3), k4] [] σ r := by
      intro k0 k1 k2 k3 k4 σ b r hb hk
      exact (T_RW_likely_8 hC hb hk).lle (lle_cons (lle_cons (lle_cons (lle_cons (lle_dead lle_nil)))))
    exact key _ _ _ _ _ σ b r hb hk
  · cases hb
set_option maxRecDepth 100000 in
theorem T_RW_likely {l0 : Int} {σ : mS} {r : Int × mS} (h : M_RW_likely l0 σ = some r) : mEx 8 37 [(3, l0)] σ r :=
  ⟨by rw [P_RW_likely]; exact Nat.le_of_ble_eq_true rfl, by rw [P_RW_likely]; exact T_RW_likely_0 TC_RW_likely h rfl⟩
set_option maxRecDepth 100000 in
theorem P_RW_tremble : mProg 38 = (c_RW_tremble, 9) := rfl
set_option maxRecDepth 100000 in
theorem TC_RW_tremble : ∀ k as σ p, C_RW_tremble k as σ = some p → mEx 6 k as σ p := by
  intro k as σ p hp
  unfold C_RW_tremble at hp
  split at hp
  · exact (T_RW_refuse hp).up (Nat.le_of_ble_eq_true rfl)
  · exact (T_RW_accept hp).up (Nat.le_of_ble_eq_true rfl)
  · exact (T_RW_isWithin hp).up (Nat.le_of_ble_eq_true rfl)
  · exact (T_RW_isAngle hp).up (Nat.le_of_ble_eq_true rfl)
  · exact (T_Light_standByTerms hp).up (Nat.le_of_ble_eq_true rfl)
  · exact (T_Light_send hp).up (Nat.le_of_ble_eq_true rfl)
  · cases hp
set_option maxRecDepth 100000 in
theorem TB_RW_tremble_49 {d : Nat} (hC : ∀ k as σ p, C_RW_tremble k as σ = some p → mEx d k as σ p) {l0 l2 l4 l5 l6 l7 l8 : Int} {σ : mS} {b : ((Int × Int × mS) ⊕ (Int × mS))} {r : Int × mS} (h : B_RW_tremble_49 l0 l2 l4 l5 l6 l7 l8 σ = some b) (hk : (Sum.elim (fun (s : Int × Int × mS) r => mG (d + 1) 38 49 [(3, l0), (0, 0), (1, l2), (0, 0), (1, l4), (1, l5), (1, l6), (1, s.1), (1, s.2.1)] [] s.2.2 r) (fun b r => r = b)) b r) : mG (d + 1) 38 49 [(3, l0), (0, 0), (1, l2), (0, 0), (1, l4), (1, l5), (1, l6), (1, l7), (1, l8)] [] σ r := by
  refine mblk_ok2 P_RW_tremble (F := F_RW_tremble_49) (Sum.elim (fun (s : Int × Int × mS) r => mG (d + 1) 38 49 [(3, l0), (0, 0), (1, l2), (0, 0), (1, l4), (1, l5), (1, l6), (1, s.1), (1, s.2.1)] [] s.2.2 r) (fun b r => r = b)) [([(49, 82)], [0, 2, 4, 5, 6])] [(49, 89)] [(3, l0), (0, 0), (1, l2), (0, 0), (1, l4), (1, l5), (1, l6), (1, l7), (1, l8)] (by decide +kernel) rfl hC ?_ (fun v σ b r hb hk => by cases hb; exact hk) _ 49 [(3, l0), (0, 0), (1, l2), (0, 0), (1, l4), (1, l5), (1, l6), (1, l7), (1, l8)] [] σ b r rfl (mJ_self _ _ _) ((E_RW_tremble_49 l0 l2 l4 l5 l6 l7 l8 σ).trans h) hk
  intro i L st σ b r hj hb hk
  unfold F_RW_tremble_49 at hb
  split at hb
  · have key : ∀ (k0 k2 k4 k5 k6 k7 k8 : Int) (k1 k3 : mV) (σ : mS) (b : ((Int × Int × mS) ⊕ (Int × mS))) (r : Int × mS), mJ [(3, l0), (0, 0), (1, l2), (0, 0), (1, l4), (1, l5), (1, l6), (1, l7), (1, l8)] 49 [(3, k0), k1, (1, k2), k3, (1, k4), (1, k5), (1, k6), (1, k7), (1, k8)] [([(49, 82)], [0, 2, 4, 5, 6])] → (some (.inl (k7, k8, σ))) = some b → (Sum.elim (fun (s : Int × Int × mS) r => mG (d + 1) 38 49 [(3, l0), (0, 0), (1, l2), (0, 0), (1, l4), (1, l5), (1, l6), (1, s.1), (1, s.2.1)] [] s.2.2 r) (fun b r => r = b)) b r → mG (d + 1) 38 49 [(3, k0), k1, (1, k2), k3, (1, k4), (1, k5), (1, k6), (1, k7), (1, k8)] [] σ r := by
      intro k0 k2 k4 k5 k6 k7 k8 k1 k3 σ b r hj hb hk
      have e0 : k0 = l0 := (Prod.mk.inj (Option.some.inj ((hj.1 rfl).1))).2
      subst e0
      have e2 : k2 = l2 := (Prod.mk.inj (Option.some.inj ((hj.1 rfl).2.1))).2
      subst e2
      have e4 : k4 = l4 := (Prod.mk.inj (Option.some.inj ((hj.1 rfl).2.2.1))).2
      subst e4
      have e5 : k5 = l5 := (Prod.mk.inj (Option.some.inj ((hj.1 rfl).2.2.2.1))).2
      subst e5
      have e6 : k6 = l6 := (Prod.mk.inj (Option.some.inj ((hj.1 rfl).2.2.2.2.1))).2
      subst e6
      cases hb
      exact mG.lle hk (lle_cons (lle_dead (lle_cons (lle_dead (lle_cons (lle_cons (lle_cons (lle_cons (lle_cons lle_nil)))))))))
    exact key _ _ _ _ _ _ _ _ _ σ b r hj hb hk
  · cases hb
set_option maxRecDepth 100000 in
theorem T_RW_tremble_49 {d : Nat} (hC : ∀ k as σ p, C_RW_tremble k as σ = some p → mEx d k as σ p) {l0 l2 l4 l5 l6 l7 l8 : Int} {σ : mS} {b : Int × mS} {r : Int × mS} (h : M_RW_tremble_49 l0 l2 l4 l5 l6 l7 l8 σ = some b) (hk : (fun b r => r = b) b r) : mG (d + 1) 38 49 [(3, l0), (0, 0), (1, l2), (0, 0), (1, l4), (1, l5), (1, l6), (1, l7), (1, l8)] [] σ r :=
  miter_ok (G := fun (s : Int × Int × mS) r => mG (d + 1) 38 49 [(3, l0), (0, 0), (1, l2), (0, 0), (1, l4), (1, l5), (1, l6), (1, s.1), (1, s.2.1)] [] s.2.2 r) (K := (fun b r => r = b)) (fun s x r hs hx => TB_RW_tremble_49 hC hs hx) mN _ b r h hk
set_option maxRecDepth 100000 in
theorem T_RW_tremble_0 {d : Nat} (hC : ∀ k as σ p, C_RW_tremble k as σ = some p → mEx d k as σ p) {l0 l1 l2 l3 l4 : Int} {σ : mS} {b : Int × mS} {r : Int × mS} (h : M_RW_tremble l0 l1 l2 l3 l4 σ = some b) (hk : (fun b r => r = b) b r) : mG (d + 1) 38 0 (mInit 9 [(3, l0), (1, l1), (1, l2), (1, l3), (1, l4)]) [] σ r := by
  refine mblk_ok1 P_RW_tremble (F := F_RW_tremble_0) (fun b r => r = b) hC ?_ (fun v σ b r hb hk => by cases hb; exact hk) _ 0 (mInit 9 [(3, l0), (1, l1), (1, l2), (1, l3), (1, l4)]) [] σ b r ((E_RW_tremble_0 l0 l1 l2 l3 l4 σ).trans h) hk
  intro i L st σ b r hb hk
  unfold F_RW_tremble_0 at hb
  split at hb
  · have key : ∀ (k0 k2 k4 k5 k6 k7 k8 : Int) (k1 k3 : mV) (σ : mS) (b : Int × mS) (r : Int × mS), (M_RW_tremble_49 k0 k2 k4 k5 k6 k7 k8 σ) = some b → (fun b r => r = b) b r → mG (d + 1) 38 49 [(3, k0), k1, (1, k2), k3, (1, k4), (1, k5), (1, k6), (1, k7), (1, k8)] [] σ r := by
      intro k0 k2 k4 k5 k6 k7 k8 k1 k3 σ b r hb hk
      exact (T_RW_tremble_49 hC hb hk).lle (lle_cons (lle_dead (lle_cons (lle_dead (lle_cons (lle_cons (lle_cons (lle_cons (lle_cons lle_nil)))))))))
    exact key _ _ _ _ _ _ _ _ _ σ b r hb hk
  · cases hb
set_option maxRecDepth 100000 in
theorem T_RW_tremble {l0 l1 l2 l3 l4 : Int} {σ : mS} {r : Int × mS} (h : M_RW_tremble l0 l1 l2 l3 l4 σ = some r) : mEx 7 38 [(3, l0), (1, l1), (1, l2), (1, l3), (1, l4)] σ r :=
  ⟨by rw [P_RW_tremble]; exact Nat.le_of_ble_eq_true rfl, by rw [P_RW_tremble]; exact T_RW_tremble_0 TC_RW_tremble h rfl⟩
set_option maxRecDepth 100000 in
theorem P_RW_trembled : mProg 39 = (c_RW_trembled, 3) := rfl
set_option maxRecDepth 100000 in
theorem TC_RW_trembled : ∀ k as σ p, C_RW_trembled k as σ = some p → mEx 1 k as σ p := by
  intro k as σ p hp
  unfold C_RW_trembled at hp
  split at hp
  · exact (T_RW_isWithin hp).up (Nat.le_of_ble_eq_true rfl)
  · cases hp
set_option maxRecDepth 100000 in
theorem T_RW_trembled_0 {d : Nat} (hC : ∀ k as σ p, C_RW_trembled k as σ = some p → mEx d k as σ p) {l0 l1 l2 : Int} {σ : mS} {b : Int × mS} {r : Int × mS} (h : M_RW_trembled l0 l1 l2 σ = some b) (hk : (fun b r => r = b) b r) : mG (d + 1) 39 0 (mInit 3 [(3, l0), (1, l1), (1, l2)]) [] σ r := by
  refine mblk_ok1 P_RW_trembled (F := F_RW_trembled_0) (fun b r => r = b) hC ?_ (fun v σ b r hb hk => by cases hb; exact hk) _ 0 (mInit 3 [(3, l0), (1, l1), (1, l2)]) [] σ b r ((E_RW_trembled_0 l0 l1 l2 σ).trans h) hk
  intro i L st σ b r hb hk
  cases hb
set_option maxRecDepth 100000 in
theorem T_RW_trembled {l0 l1 l2 : Int} {σ : mS} {r : Int × mS} (h : M_RW_trembled l0 l1 l2 σ = some r) : mEx 2 39 [(3, l0), (1, l1), (1, l2)] σ r :=
  ⟨by rw [P_RW_trembled]; exact Nat.le_of_ble_eq_true rfl, by rw [P_RW_trembled]; exact T_RW_trembled_0 TC_RW_trembled h rfl⟩
set_option maxRecDepth 100000 in
theorem P_Road_copyFrom : mProg 221 = (c_Road_copyFrom, 3) := rfl
set_option maxRecDepth 100000 in
theorem TC_Road_copyFrom : ∀ k as σ p, C_Road_copyFrom k as σ = some p → mEx 0 k as σ p := by
  intro k as σ p hp
  cases hp
set_option maxRecDepth 100000 in
theorem TB_Road_copyFrom_54 {d : Nat} (hC : ∀ k as σ p, C_Road_copyFrom k as σ = some p → mEx d k as σ p) {l0 l1 l2 : Int} {σ : mS} {b : ((Int × mS) ⊕ (Int × mS))} {r : Int × mS} (h : B_Road_copyFrom_54 l0 l1 l2 σ = some b) (hk : (Sum.elim (fun (s : Int × mS) r => mG (d + 1) 221 54 [(3, l0), (3, l1), (1, s.1)] [] s.2 r) (fun b r => r = b)) b r) : mG (d + 1) 221 54 [(3, l0), (3, l1), (1, l2)] [] σ r := by
  refine mblk_ok2 P_Road_copyFrom (F := F_Road_copyFrom_54) (Sum.elim (fun (s : Int × mS) r => mG (d + 1) 221 54 [(3, l0), (3, l1), (1, s.1)] [] s.2 r) (fun b r => r = b)) [([(54, 66)], [0, 1])] [(54, 103)] [(3, l0), (3, l1), (1, l2)] (by decide +kernel) rfl hC ?_ (fun v σ b r hb hk => by cases hb; exact hk) _ 54 [(3, l0), (3, l1), (1, l2)] [] σ b r rfl (mJ_self _ _ _) ((E_Road_copyFrom_54 l0 l1 l2 σ).trans h) hk
  intro i L st σ b r hj hb hk
  unfold F_Road_copyFrom_54 at hb
  split at hb
  · have key : ∀ (k0 k1 k2 : Int) (σ : mS) (b : ((Int × mS) ⊕ (Int × mS))) (r : Int × mS), mJ [(3, l0), (3, l1), (1, l2)] 54 [(3, k0), (3, k1), (1, k2)] [([(54, 66)], [0, 1])] → (some (.inl (k2, σ))) = some b → (Sum.elim (fun (s : Int × mS) r => mG (d + 1) 221 54 [(3, l0), (3, l1), (1, s.1)] [] s.2 r) (fun b r => r = b)) b r → mG (d + 1) 221 54 [(3, k0), (3, k1), (1, k2)] [] σ r := by
      intro k0 k1 k2 σ b r hj hb hk
      have e0 : k0 = l0 := (Prod.mk.inj (Option.some.inj ((hj.1 rfl).1))).2
      subst e0
      have e1 : k1 = l1 := (Prod.mk.inj (Option.some.inj ((hj.1 rfl).2.1))).2
      subst e1
      cases hb
      exact mG.lle hk (lle_cons (lle_cons (lle_cons lle_nil)))
    exact key _ _ _ σ b r hj hb hk
  · cases hb
set_option maxRecDepth 100000 in
theorem T_Road_copyFrom_54 {d : Nat} (hC : ∀ k as σ p, C_Road_copyFrom k as σ = some p → mEx d k as σ p) {l0 l1 l2 : Int} {σ : mS} {b : Int × mS} {r : Int × mS} (h : M_Road_copyFrom_54 l0 l1 l2 σ = some b) (hk : (fun b r => r = b) b r) : mG (d + 1) 221 54 [(3, l0), (3, l1), (1, l2)] [] σ r :=
  miter_ok (G := fun (s : Int × mS) r => mG (d + 1) 221 54 [(3, l0), (3, l1), (1, s.1)] [] s.2 r) (K := (fun b r => r = b)) (fun s x r hs hx => TB_Road_copyFrom_54 hC hs hx) mN _ b r h hk
set_option maxRecDepth 100000 in
theorem T_Road_copyFrom_0 {d : Nat} (hC : ∀ k as σ p, C_Road_copyFrom k as σ = some p → mEx d k as σ p) {l0 l1 : Int} {σ : mS} {b : Int × mS} {r : Int × mS} (h : M_Road_copyFrom l0 l1 σ = some b) (hk : (fun b r => r = b) b r) : mG (d + 1) 221 0 (mInit 3 [(3, l0), (3, l1)]) [] σ r := by
  refine mblk_ok1 P_Road_copyFrom (F := F_Road_copyFrom_0) (fun b r => r = b) hC ?_ (fun v σ b r hb hk => by cases hb; exact hk) _ 0 (mInit 3 [(3, l0), (3, l1)]) [] σ b r ((E_Road_copyFrom_0 l0 l1 σ).trans h) hk
  intro i L st σ b r hb hk
  unfold F_Road_copyFrom_0 at hb
  split at hb
  · have key : ∀ (k0 k1 k2 : Int) (σ : mS) (b : Int × mS) (r : Int × mS), (M_Road_copyFrom_54 k0 k1 k2 σ) = some b → (fun b r => r = b) b r → mG (d + 1) 221 54 [(3, k0), (3, k1), (1, k2)] [] σ r := by
      intro k0 k1 k2 σ b r hb hk
      exact (T_Road_copyFrom_54 hC hb hk).lle (lle_cons (lle_cons (lle_cons lle_nil)))
    exact key _ _ _ σ b r hb hk
  · cases hb
set_option maxRecDepth 100000 in
theorem T_Road_copyFrom {l0 l1 : Int} {σ : mS} {r : Int × mS} (h : M_Road_copyFrom l0 l1 σ = some r) : mEx 1 221 [(3, l0), (3, l1)] σ r :=
  ⟨by rw [P_Road_copyFrom]; exact Nat.le_of_ble_eq_true rfl, by rw [P_Road_copyFrom]; exact T_Road_copyFrom_0 TC_Road_copyFrom h rfl⟩
set_option maxRecDepth 100000 in
theorem P_RW_image : mProg 40 = (c_RW_image, 2) := rfl
set_option maxRecDepth 100000 in
theorem TC_RW_image : ∀ k as σ p, C_RW_image k as σ = some p → mEx 2 k as σ p := by
  intro k as σ p hp
  unfold C_RW_image at hp
  split at hp
  · exact (T_RW_refuse hp).up (Nat.le_of_ble_eq_true rfl)
  · exact (T_RW_accept hp).up (Nat.le_of_ble_eq_true rfl)
  · exact (T_RW_isWithin hp).up (Nat.le_of_ble_eq_true rfl)
  · exact (T_Road_copyFrom hp).up (Nat.le_of_ble_eq_true rfl)
  · cases hp
set_option maxRecDepth 100000 in
theorem T_RW_image_0 {d : Nat} (hC : ∀ k as σ p, C_RW_image k as σ = some p → mEx d k as σ p) {l0 l1 : Int} {σ : mS} {b : Int × mS} {r : Int × mS} (h : M_RW_image l0 l1 σ = some b) (hk : (fun b r => r = b) b r) : mG (d + 1) 40 0 (mInit 2 [(3, l0), (1, l1)]) [] σ r := by
  refine mblk_ok1 P_RW_image (F := F_RW_image_0) (fun b r => r = b) hC ?_ (fun v σ b r hb hk => by cases hb; exact hk) _ 0 (mInit 2 [(3, l0), (1, l1)]) [] σ b r ((E_RW_image_0 l0 l1 σ).trans h) hk
  intro i L st σ b r hb hk
  cases hb
set_option maxRecDepth 100000 in
theorem T_RW_image {l0 l1 : Int} {σ : mS} {r : Int × mS} (h : M_RW_image l0 l1 σ = some r) : mEx 3 40 [(3, l0), (1, l1)] σ r :=
  ⟨by rw [P_RW_image]; exact Nat.le_of_ble_eq_true rfl, by rw [P_RW_image]; exact T_RW_image_0 TC_RW_image h rfl⟩
set_option maxRecDepth 100000 in
theorem P_RW_back : mProg 41 = (c_RW_back, 2) := rfl
set_option maxRecDepth 100000 in
theorem TC_RW_back : ∀ k as σ p, C_RW_back k as σ = some p → mEx 2 k as σ p := by
  intro k as σ p hp
  unfold C_RW_back at hp
  split at hp
  · exact (T_RW_refuse hp).up (Nat.le_of_ble_eq_true rfl)
  · exact (T_RW_accept hp).up (Nat.le_of_ble_eq_true rfl)
  · exact (T_RW_isWithin hp).up (Nat.le_of_ble_eq_true rfl)
  · exact (T_Air_forgetAll hp).up (Nat.le_of_ble_eq_true rfl)
  · exact (T_Road_copyFrom hp).up (Nat.le_of_ble_eq_true rfl)
  · cases hp
set_option maxRecDepth 100000 in
theorem T_RW_back_0 {d : Nat} (hC : ∀ k as σ p, C_RW_back k as σ = some p → mEx d k as σ p) {l0 l1 : Int} {σ : mS} {b : Int × mS} {r : Int × mS} (h : M_RW_back l0 l1 σ = some b) (hk : (fun b r => r = b) b r) : mG (d + 1) 41 0 (mInit 2 [(3, l0), (1, l1)]) [] σ r := by
  refine mblk_ok1 P_RW_back (F := F_RW_back_0) (fun b r => r = b) hC ?_ (fun v σ b r hb hk => by cases hb; exact hk) _ 0 (mInit 2 [(3, l0), (1, l1)]) [] σ b r ((E_RW_back_0 l0 l1 σ).trans h) hk
  intro i L st σ b r hb hk
  cases hb
set_option maxRecDepth 100000 in
theorem T_RW_back {l0 l1 : Int} {σ : mS} {r : Int × mS} (h : M_RW_back l0 l1 σ = some r) : mEx 3 41 [(3, l0), (1, l1)] σ r :=
  ⟨by rw [P_RW_back]; exact Nat.le_of_ble_eq_true rfl, by rw [P_RW_back]; exact T_RW_back_0 TC_RW_back h rfl⟩
set_option maxRecDepth 100000 in
theorem P_Road_placesWithRise : mProg 224 = (c_Road_placesWithRise, 3) := rfl
set_option maxRecDepth 100000 in
theorem TC_Road_placesWithRise : ∀ k as σ p, C_Road_placesWithRise k as σ = some p → mEx 0 k as σ p := by
  intro k as σ p hp
  cases hp
set_option maxRecDepth 100000 in
theorem TB_Road_placesWithRise_4 {d : Nat} (hC : ∀ k as σ p, C_Road_placesWithRise k as σ = some p → mEx d k as σ p) {l0 l1 l2 : Int} {σ : mS} {b : ((Int × Int × mS) ⊕ (Int × mS))} {r : Int × mS} (h : B_Road_placesWithRise_4 l0 l1 l2 σ = some b) (hk : (Sum.elim (fun (s : Int × Int × mS) r => mG (d + 1) 224 4 [(3, l0), (1, s.1), (1, s.2.1)] [] s.2.2 r) (fun b r => r = b)) b r) : mG (d + 1) 224 4 [(3, l0), (1, l1), (1, l2)] [] σ r := by
  refine mblk_ok2 P_Road_placesWithRise (F := F_Road_placesWithRise_4) (Sum.elim (fun (s : Int × Int × mS) r => mG (d + 1) 224 4 [(3, l0), (1, s.1), (1, s.2.1)] [] s.2.2 r) (fun b r => r = b)) [([(4, 14)], [0])] [(4, 16)] [(3, l0), (1, l1), (1, l2)] (by decide +kernel) rfl hC ?_ (fun v σ b r hb hk => by cases hb; exact hk) _ 4 [(3, l0), (1, l1), (1, l2)] [] σ b r rfl (mJ_self _ _ _) ((E_Road_placesWithRise_4 l0 l1 l2 σ).trans h) hk
  intro i L st σ b r hj hb hk
  unfold F_Road_placesWithRise_4 at hb
  split at hb
  · have key : ∀ (k0 k1 k2 : Int) (σ : mS) (b : ((Int × Int × mS) ⊕ (Int × mS))) (r : Int × mS), mJ [(3, l0), (1, l1), (1, l2)] 4 [(3, k0), (1, k1), (1, k2)] [([(4, 14)], [0])] → (some (.inl (k1, k2, σ))) = some b → (Sum.elim (fun (s : Int × Int × mS) r => mG (d + 1) 224 4 [(3, l0), (1, s.1), (1, s.2.1)] [] s.2.2 r) (fun b r => r = b)) b r → mG (d + 1) 224 4 [(3, k0), (1, k1), (1, k2)] [] σ r := by
      intro k0 k1 k2 σ b r hj hb hk
      have e0 : k0 = l0 := (Prod.mk.inj (Option.some.inj ((hj.1 rfl).1))).2
      subst e0
      cases hb
      exact mG.lle hk (lle_cons (lle_cons (lle_cons lle_nil)))
    exact key _ _ _ σ b r hj hb hk
  · cases hb
set_option maxRecDepth 100000 in
theorem T_Road_placesWithRise_4 {d : Nat} (hC : ∀ k as σ p, C_Road_placesWithRise k as σ = some p → mEx d k as σ p) {l0 l1 l2 : Int} {σ : mS} {b : Int × mS} {r : Int × mS} (h : M_Road_placesWithRise_4 l0 l1 l2 σ = some b) (hk : (fun b r => r = b) b r) : mG (d + 1) 224 4 [(3, l0), (1, l1), (1, l2)] [] σ r :=
  miter_ok (G := fun (s : Int × Int × mS) r => mG (d + 1) 224 4 [(3, l0), (1, s.1), (1, s.2.1)] [] s.2.2 r) (K := (fun b r => r = b)) (fun s x r hs hx => TB_Road_placesWithRise_4 hC hs hx) mN _ b r h hk
set_option maxRecDepth 100000 in
theorem T_Road_placesWithRise_0 {d : Nat} (hC : ∀ k as σ p, C_Road_placesWithRise k as σ = some p → mEx d k as σ p) {l0 : Int} {σ : mS} {b : Int × mS} {r : Int × mS} (h : M_Road_placesWithRise l0 σ = some b) (hk : (fun b r => r = b) b r) : mG (d + 1) 224 0 (mInit 3 [(3, l0)]) [] σ r := by
  refine mblk_ok1 P_Road_placesWithRise (F := F_Road_placesWithRise_0) (fun b r => r = b) hC ?_ (fun v σ b r hb hk => by cases hb; exact hk) _ 0 (mInit 3 [(3, l0)]) [] σ b r ((E_Road_placesWithRise_0 l0 σ).trans h) hk
  intro i L st σ b r hb hk
  unfold F_Road_placesWithRise_0 at hb
  split at hb
  · have key : ∀ (k0 k1 k2 : Int) (σ : mS) (b : Int × mS) (r : Int × mS), (M_Road_placesWithRise_4 k0 k1 k2 σ) = some b → (fun b r => r = b) b r → mG (d + 1) 224 4 [(3, k0), (1, k1), (1, k2)] [] σ r := by
      intro k0 k1 k2 σ b r hb hk
      exact (T_Road_placesWithRise_4 hC hb hk).lle (lle_cons (lle_cons (lle_cons lle_nil)))
    exact key _ _ _ σ b r hb hk
  · cases hb
set_option maxRecDepth 100000 in
theorem T_Road_placesWithRise {l0 : Int} {σ : mS} {r : Int × mS} (h : M_Road_placesWithRise l0 σ = some r) : mEx 1 224 [(3, l0)] σ r :=
  ⟨by rw [P_Road_placesWithRise]; exact Nat.le_of_ble_eq_true rfl, by rw [P_Road_placesWithRise]; exact T_Road_placesWithRise_0 TC_Road_placesWithRise h rfl⟩
set_option maxRecDepth 100000 in
theorem P_RW_count : mProg 42 = (c_RW_count, 2) := rfl
set_option maxRecDepth 100000 in
theorem TC_RW_count : ∀ k as σ p, C_RW_count k as σ = some p → mEx 1 k as σ p := by
  intro k as σ p hp
  unfold C_RW_count at hp
  split at hp
  · exact (T_Road_placesWithRise hp).up (Nat.le_of_ble_eq_true rfl)
  · cases hp
set_option maxRecDepth 100000 in
theorem T_RW_count_0 {d : Nat} (hC : ∀ k as σ p, C_RW_count k as σ = some p → mEx d k as σ p) {l0 l1 : Int} {σ : mS} {b : Int × mS} {r : Int × mS} (h : M_RW_count l0 l1 σ = some b) (hk : (fun b r => r = b) b r) : mG (d + 1) 42 0 (mInit 2 [(3, l0), (1, l1)]) [] σ r := by
  refine mblk_ok1 P_RW_count (F := F_RW_count_0) (fun b r => r = b) hC ?_ (fun v σ b r hb hk => by cases hb; exact hk) _ 0 (mInit 2 [(3, l0), (1, l1)]) [] σ b r ((E_RW_count_0 l0 l1 σ).trans h) hk
  intro i L st σ b r hb hk
  cases hb
set_option maxRecDepth 100000 in
theorem T_RW_count {l0 l1 : Int} {σ : mS} {r : Int × mS} (h : M_RW_count l0 l1 σ = some r) : mEx 2 42 [(3, l0), (1, l1)] σ r :=
  ⟨by rw [P_RW_count]; exact Nat.le_of_ble_eq_true rfl, by rw [P_RW_count]; exact T_RW_count_0 TC_RW_count h rfl⟩
set_option maxRecDepth 100000 in
theorem P_RW_status : mProg 43 = (c_RW_status, 1) := rfl
set_option maxRecDepth 100000 in
theorem TC_RW_status : ∀ k as σ p, C_RW_status k as σ = some p → mEx 0 k as σ p := by
  intro k as σ p hp
  cases hp
set_option maxRecDepth 100000 in
theorem T_RW_status_0 {d : Nat} (hC : ∀ k as σ p, C_RW_status k as σ = some p → mEx d k as σ p) {l0 : Int} {σ : mS} {b : Int × mS} {r : Int × mS} (h : M_RW_status l0 σ = some b) (hk : (fun b r => r = b) b r) : mG (d + 1) 43 0 (mInit 1 [(3, l0)]) [] σ r := by
  refine mblk_ok1 P_RW_status (F := F_RW_status_0) (fun b r => r = b) hC ?_ (fun v σ b r hb hk => by cases hb; exact hk) _ 0 (mInit 1 [(3, l0)]) [] σ b r ((E_RW_status_0 l0 σ).trans h) hk
  intro i L st σ b r hb hk
  cases hb
set_option maxRecDepth 100000 in
theorem T_RW_status {l0 : Int} {σ : mS} {r : Int × mS} (h : M_RW_status l0 σ = some r) : mEx 1 43 [(3, l0)] σ r :=
  ⟨by rw [P_RW_status]; exact Nat.le_of_ble_eq_true rfl, by rw [P_RW_status]; exact T_RW_status_0 TC_RW_status h rfl⟩
set_option maxRecDepth 100000 in
theorem P_Mo_lies : mProg 52 = (c_Mo_lies, 3) := rfl
set_option maxRecDepth 100000 in
theorem TC_Mo_lies : ∀ k as σ p, C_Mo_lies k as σ = some p → mEx 0 k as σ p := by
  intro k as σ p hp
  cases hp
set_option maxRecDepth 100000 in
theorem T_Mo_lies_0 {d : Nat} (hC : ∀ k as σ p, C_Mo_lies k as σ = some p → mEx d k as σ p) {l0 l1 l2 : Int} {σ : mS} {b : Int × mS} {r : Int × mS} (h : M_Mo_lies l0 l1 l2 σ = some b) (hk : (fun b r => r = b) b r) : mG (d + 1) 52 0 (mInit 3 [(1, l0), (1, l1), (1, l2)]) [] σ r := by
  refine mblk_ok1 P_Mo_lies (F := F_Mo_lies_0) (fun b r => r = b) hC ?_ (fun v σ b r hb hk => by cases hb; exact hk) _ 0 (mInit 3 [(1, l0), (1, l1), (1, l2)]) [] σ b r ((E_Mo_lies_0 l0 l1 l2 σ).trans h) hk
  intro i L st σ b r hb hk
  cases hb
set_option maxRecDepth 100000 in
theorem T_Mo_lies {l0 l1 l2 : Int} {σ : mS} {r : Int × mS} (h : M_Mo_lies l0 l1 l2 σ = some r) : mEx 1 52 [(1, l0), (1, l1), (1, l2)] σ r :=
  ⟨by rw [P_Mo_lies]; exact Nat.le_of_ble_eq_true rfl, by rw [P_Mo_lies]; exact T_Mo_lies_0 TC_Mo_lies h rfl⟩
set_option maxRecDepth 100000 in
theorem P_Mo_refuses : mProg 53 = (c_Mo_refuses, 2) := rfl
set_option maxRecDepth 100000 in
theorem TC_Mo_refuses : ∀ k as σ p, C_Mo_refuses k as σ = some p → mEx 0 k as σ p := by
  intro k as σ p hp
  cases hp
set_option maxRecDepth 100000 in
theorem T_Mo_refuses_0 {d : Nat} (hC : ∀ k as σ p, C_Mo_refuses k as σ = some p → mEx d k as σ p) {l0 l1 : Int} {σ : mS} {b : Int × mS} {r : Int × mS} (h : M_Mo_refuses l0 l1 σ = some b) (hk : (fun b r => r = b) b r) : mG (d + 1) 53 0 (mInit 2 [(3, l0), (1, l1)]) [] σ r := by
  refine mblk_ok1 P_Mo_refuses (F := F_Mo_refuses_0) (fun b r => r = b) hC ?_ (fun v σ b r hb hk => by cases hb; exact hk) _ 0 (mInit 2 [(3, l0), (1, l1)]) [] σ b r ((E_Mo_refuses_0 l0 l1 σ).trans h) hk
  intro i L st σ b r hb hk
  cases hb
set_option maxRecDepth 100000 in
theorem T_Mo_refuses {l0 l1 : Int} {σ : mS} {r : Int × mS} (h : M_Mo_refuses l0 l1 σ = some r) : mEx 1 53 [(3, l0), (1, l1)] σ r :=
  ⟨by rw [P_Mo_refuses]; exact Nat.le_of_ble_eq_true rfl, by rw [P_Mo_refuses]; exact T_Mo_refuses_0 TC_Mo_refuses h rfl⟩
set_option maxRecDepth 100000 in
theorem P_Mo_good : mProg 54 = (c_Mo_good, 2) := rfl
set_option maxRecDepth 100000 in
theorem TC_Mo_good : ∀ k as σ p, C_Mo_good k as σ = some p → mEx 0 k as σ p := by
  intro k as σ p hp
  cases hp
set_option maxRecDepth 100000 in
theorem T_Mo_good_0 {d : Nat} (hC : ∀ k as σ p, C_Mo_good k as σ = some p → mEx d k as σ p) {l0 l1 : Int} {σ : mS} {b : Int × mS} {r : Int × mS} (h : M_Mo_good l0 l1 σ = some b) (hk : (fun b r => r = b) b r) : mG (d + 1) 54 0 (mInit 2 [(3, l0), (1, l1)]) [] σ r := by
  refine mblk_ok1 P_Mo_good (F := F_Mo_good_0) (fun b r => r = b) hC ?_ (fun v σ b r hb hk => by cases hb; exact hk) _ 0 (mInit 2 [(3, l0), (1, l1)]) [] σ b r ((E_Mo_good_0 l0 l1 σ).trans h) hk
  intro i L st σ b r hb hk
  cases hb
set_option maxRecDepth 100000 in
theorem T_Mo_good {l0 l1 : Int} {σ : mS} {r : Int × mS} (h : M_Mo_good l0 l1 σ = some r) : mEx 1 54 [(3, l0), (1, l1)] σ r :=
  ⟨by rw [P_Mo_good]; exact Nat.le_of_ble_eq_true rfl, by rw [P_Mo_good]; exact T_Mo_good_0 TC_Mo_good h rfl⟩
set_option maxRecDepth 100000 in
theorem P_Mo_nearest : mProg 55 = (c_Mo_nearest, 3) := rfl
set_option maxRecDepth 100000 in
theorem TC_Mo_nearest : ∀ k as σ p, C_Mo_nearest k as σ = some p → mEx 0 k as σ p := by
  intro k as σ p hp
  cases hp
set_option maxRecDepth 100000 in
theorem T_Mo_nearest_0 {d : Nat} (hC : ∀ k as σ p, C_Mo_nearest k as σ = some p → mEx d k as σ p) {l0 l1 l2 : Int} {σ : mS} {b : Int × mS} {r : Int × mS} (h : M_Mo_nearest l0 l1 l2 σ = some b) (hk : (fun b r => r = b) b r) : mG (d + 1) 55 0 (mInit 3 [(1, l0), (1, l1), (1, l2)]) [] σ r := by
  refine mblk_ok1 P_Mo_nearest (F := F_Mo_nearest_0) (fun b r => r = b) hC ?_ (fun v σ b r hb hk => by cases hb; exact hk) _ 0 (mInit 3 [(1, l0), (1, l1), (1, l2)]) [] σ b r ((E_Mo_nearest_0 l0 l1 l2 σ).trans h) hk
  intro i L st σ b r hb hk
  cases hb
set_option maxRecDepth 100000 in
theorem T_Mo_nearest {l0 l1 l2 : Int} {σ : mS} {r : Int × mS} (h : M_Mo_nearest l0 l1 l2 σ = some r) : mEx 1 55 [(1, l0), (1, l1), (1, l2)] σ r :=
  ⟨by rw [P_Mo_nearest]; exact Nat.le_of_ble_eq_true rfl, by rw [P_Mo_nearest]; exact T_Mo_nearest_0 TC_Mo_nearest h rfl⟩
set_option maxRecDepth 100000 in
theorem P_Mo_far : mProg 56 = (c_Mo_far, 1) := rfl
set_option maxRecDepth 100000 in
theorem TC_Mo_far : ∀ k as σ p, C_Mo_far k as σ = some p → mEx 0 k as σ p := by
  intro k as σ p hp
  cases hp
set_option maxRecDepth 100000 in
theorem T_Mo_far_0 {d : Nat} (hC : ∀ k as σ p, C_Mo_far k as σ = some p → mEx d k as σ p) {l0 : Int} {σ : mS} {b : Int × mS} {r : Int × mS} (h : M_Mo_far l0 σ = some b) (hk : (fun b r => r = b) b r) : mG (d + 1) 56 0 (mInit 1 [(1, l0)]) [] σ r := by
  refine mblk_ok1 P_Mo_far (F := F_Mo_far_0) (fun b r => r = b) hC ?_ (fun v σ b r hb hk => by cases hb; exact hk) _ 0 (mInit 1 [(1, l0)]) [] σ b r ((E_Mo_far_0 l0 σ).trans h) hk
  intro i L st σ b r hb hk
  cases hb
set_option maxRecDepth 100000 in
theorem T_Mo_far {l0 : Int} {σ : mS} {r : Int × mS} (h : M_Mo_far l0 σ = some r) : mEx 1 56 [(1, l0)] σ r :=
  ⟨by rw [P_Mo_far]; exact Nat.le_of_ble_eq_true rfl, by rw [P_Mo_far]; exact T_Mo_far_0 TC_Mo_far h rfl⟩
set_option maxRecDepth 100000 in
theorem P_Mo_init : mProg 57 = (c_Mo_init, 1) := rfl
set_option maxRecDepth 100000 in
theorem TC_Mo_init : ∀ k as σ p, C_Mo_init k as σ = some p → mEx 0 k as σ p := by
  intro k as σ p hp
  cases hp
set_option maxRecDepth 100000 in
theorem T_Mo_init_0 {d : Nat} (hC : ∀ k as σ p, C_Mo_init k as σ = some p → mEx d k as σ p) {l0 : Int} {σ : mS} {b : Int × mS} {r : Int × mS} (h : M_Mo_init l0 σ = some b) (hk : (fun b r => r = b) b r) : mG (d + 1) 57 0 (mInit 1 [(3, l0)]) [] σ r := by
  refine mblk_ok1 P_Mo_init (F := F_Mo_init_0) (fun b r => r = b) hC ?_ (fun v σ b r hb hk => by cases hb; exact hk) _ 0 (mInit 1 [(3, l0)]) [] σ b r ((E_Mo_init_0 l0 σ).trans h) hk
  intro i L st σ b r hb hk
  cases hb
set_option maxRecDepth 100000 in
theorem T_Mo_init {l0 : Int} {σ : mS} {r : Int × mS} (h : M_Mo_init l0 σ = some r) : mEx 1 57 [(3, l0)] σ r :=
  ⟨by rw [P_Mo_init]; exact Nat.le_of_ble_eq_true rfl, by rw [P_Mo_init]; exact T_Mo_init_0 TC_Mo_init h rfl⟩
set_option maxRecDepth 100000 in
theorem P_Mo_image : mProg 58 = (c_Mo_image, 3) := rfl
set_option maxRecDepth 100000 in
theorem TC_Mo_image : ∀ k as σ p, C_Mo_image k as σ = some p → mEx 1 k as σ p := by
  intro k as σ p hp
  unfold C_Mo_image at hp
  split at hp
  · exact (T_Mo_lies hp).up (Nat.le_of_ble_eq_true rfl)
  · exact (T_Mo_refuses hp).up (Nat.le_of_ble_eq_true rfl)
  · exact (T_Mo_good hp).up (Nat.le_of_ble_eq_true rfl)
  · cases hp
set_option maxRecDepth 100000 in
theorem TB_Mo_image_11 {d : Nat} (hC : ∀ k as σ p, C_Mo_image k as σ = some p → mEx d k as σ p) {l0 l1 l2 : Int} {σ : mS} {b : ((Int × mS) ⊕ (Int × mS))} {r : Int × mS} (h : B_Mo_image_11 l0 l1 l2 σ = some b) (hk : (Sum.elim (fun (s : Int × mS) r => mG (d + 1) 58 11 [(3, l0), (1, l1), (1, s.1)] [] s.2 r) (fun b r => r = b)) b r) : mG (d + 1) 58 11 [(3, l0), (1, l1), (1, l2)] [] σ r := by
  refine mblk_ok2 P_Mo_image (F := F_Mo_image_11) (Sum.elim (fun (s : Int × mS) r => mG (d + 1) 58 11 [(3, l0), (1, l1), (1, s.1)] [] s.2 r) (fun b r => r = b)) [([(11, 27)], [0, 1])] [(11, 36)] [(3, l0), (1, l1), (1, l2)] (by decide +kernel) rfl hC ?_ (fun v σ b r hb hk => by cases hb; exact hk) _ 11 [(3, l0), (1, l1), (1, l2)] [] σ b r rfl (mJ_self _ _ _) ((E_Mo_image_11 l0 l1 l2 σ).trans h) hk
  intro i L st σ b r hj hb hk
  unfold F_Mo_image_11 at hb
  split at hb
  · have key : ∀ (k0 k1 k2 : Int) (σ : mS) (b : ((Int × mS) ⊕ (Int × mS))) (r : Int × mS), mJ [(3, l0), (1, l1), (1, l2)] 11 [(3, k0), (1, k1), (1, k2)] [([(11, 27)], [0, 1])] → (some (.inl (k2, σ))) = some b → (Sum.elim (fun (s : Int × mS) r => mG (d + 1) 58 11 [(3, l0), (1, l1), (1, s.1)] [] s.2 r) (fun b r => r = b)) b r → mG (d + 1) 58 11 [(3, k0), (1, k1), (1, k2)] [] σ r := by
      intro k0 k1 k2 σ b r hj hb hk
      have e0 : k0 = l0 := (Prod.mk.inj (Option.some.inj ((hj.1 rfl).1))).2
      subst e0
      have e1 : k1 = l1 := (Prod.mk.inj (Option.some.inj ((hj.1 rfl).2.1))).2
      subst e1
      cases hb
      exact mG.lle hk (lle_cons (lle_cons (lle_cons lle_nil)))
    exact key _ _ _ σ b r hj hb hk
  · cases hb
set_option maxRecDepth 100000 in
theorem T_Mo_image_11 {d : Nat} (hC : ∀ k as σ p, C_Mo_image k as σ = some p → mEx d k as σ p) {l0 l1 l2 : Int} {σ : mS} {b : Int × mS} {r : Int × mS} (h : M_Mo_image_11 l0 l1 l2 σ = some b) (hk : (fun b r => r = b) b r) : mG (d + 1) 58 11 [(3, l0), (1, l1), (1, l2)] [] σ r :=
  miter_ok (G := fun (s : Int × mS) r => mG (d + 1) 58 11 [(3, l0), (1, l1), (1, s.1)] [] s.2 r) (K := (fun b r => r = b)) (fun s x r hs hx => TB_Mo_image_11 hC hs hx) mN _ b r h hk
set_option maxRecDepth 100000 in
theorem T_Mo_image_0 {d : Nat} (hC : ∀ k as σ p, C_Mo_image k as σ = some p → mEx d k as σ p) {l0 l1 : Int} {σ : mS} {b : Int × mS} {r : Int × mS} (h : M_Mo_image l0 l1 σ = some b) (hk : (fun b r => r = b) b r) : mG (d + 1) 58 0 (mInit 3 [(3, l0), (1, l1)]) [] σ r := by
  refine mblk_ok1 P_Mo_image (F := F_Mo_image_0) (fun b r => r = b) hC ?_ (fun v σ b r hb hk => by cases hb; exact hk) _ 0 (mInit 3 [(3, l0), (1, l1)]) [] σ b r ((E_Mo_image_0 l0 l1 σ).trans h) hk
  intro i L st σ b r hb hk
  unfold F_Mo_image_0 at hb
  split at hb
  · have key : ∀ (k0 k1 k2 : Int) (σ : mS) (b : Int × mS) (r : Int × mS), (M_Mo_image_11 k0 k1 k2 σ) = some b → (fun b r => r = b) b r → mG (d + 1) 58 11 [(3, k0), (1, k1), (1, k2)] [] σ r := by
      intro k0 k1 k2 σ b r hb hk
      exact (T_Mo_image_11 hC hb hk).lle (lle_cons (lle_cons (lle_cons lle_nil)))
    exact key _ _ _ σ b r hb hk
  · cases hb
set_option maxRecDepth 100000 in
theorem T_Mo_image {l0 l1 : Int} {σ : mS} {r : Int × mS} (h : M_Mo_image l0 l1 σ = some r) : mEx 2 58 [(3, l0), (1, l1)] σ r :=
  ⟨by rw [P_Mo_image]; exact Nat.le_of_ble_eq_true rfl, by rw [P_Mo_image]; exact T_Mo_image_0 TC_Mo_image h rfl⟩
set_option maxRecDepth 100000 in
theorem P_Mo_back : mProg 59 = (c_Mo_back, 3) := rfl
set_option maxRecDepth 100000 in
theorem TC_Mo_back : ∀ k as σ p, C_Mo_back k as σ = some p → mEx 1 k as σ p := by
  intro k as σ p hp
  unfold C_Mo_back at hp
  split at hp
  · exact (T_Mo_lies hp).up (Nat.le_of_ble_eq_true rfl)
  · exact (T_Mo_refuses hp).up (Nat.le_of_ble_eq_true rfl)
  · exact (T_Mo_good hp).up (Nat.le_of_ble_eq_true rfl)
  · cases hp
set_option maxRecDepth 100000 in
theorem TB_Mo_back_20 {d : Nat} (hC : ∀ k as σ p, C_Mo_back k as σ = some p → mEx d k as σ p) {l0 l1 l2 : Int} {σ : mS} {b : ((Int × mS) ⊕ (Int × mS))} {r : Int × mS} (h : B_Mo_back_20 l0 l1 l2 σ = some b) (hk : (Sum.elim (fun (s : Int × mS) r => mG (d + 1) 59 20 [(3, l0), (1, l1), (1, s.1)] [] s.2 r) (fun b r => r = b)) b r) : mG (d + 1) 59 20 [(3, l0), (1, l1), (1, l2)] [] σ r := by
  refine mblk_ok2 P_Mo_back (F := F_Mo_back_20) (Sum.elim (fun (s : Int × mS) r => mG (d + 1) 59 20 [(3, l0), (1, l1), (1, s.1)] [] s.2 r) (fun b r => r = b)) [([(20, 36)], [0, 1])] [(20, 40)] [(3, l0), (1, l1), (1, l2)] (by decide +kernel) rfl hC ?_ (fun v σ b r hb hk => by cases hb; exact hk) _ 20 [(3, l0), (1, l1), (1, l2)] [] σ b r rfl (mJ_self _ _ _) ((E_Mo_back_20 l0 l1 l2 σ).trans h) hk
  intro i L st σ b r hj hb hk
  unfold F_Mo_back_20 at hb
  split at hb
  · have key : ∀ (k0 k1 k2 : Int) (σ : mS) (b : ((Int × mS) ⊕ (Int × mS))) (r : Int × mS), mJ [(3, l0), (1, l1), (1, l2)] 20 [(3, k0), (1, k1), (1, k2)] [([(20, 36)], [0, 1])] → (some (.inl (k2, σ))) = some b → (Sum.elim (fun (s : Int × mS) r => mG (d + 1) 59 20 [(3, l0), (1, l1), (1, s.1)] [] s.2 r) (fun b r => r = b)) b r → mG (d + 1) 59 20 [(3, k0), (1, k1), (1, k2)] [] σ r := by
      intro k0 k1 k2 σ b r hj hb hk
      have e0 : k0 = l0 := (Prod.mk.inj (Option.some.inj ((hj.1 rfl).1))).2
      subst e0
      have e1 : k1 = l1 := (Prod.mk.inj (Option.some.inj ((hj.1 rfl).2.1))).2
      subst e1
      cases hb
      exact mG.lle hk (lle_cons (lle_cons (lle_cons lle_nil)))
    exact key _ _ _ σ b r hj hb hk
  · cases hb
set_option maxRecDepth 100000 in
theorem T_Mo_back_20 {d : Nat} (hC : ∀ k as σ p, C_Mo_back k as σ = some p → mEx d k as σ p) {l0 l1 l2 : Int} {σ : mS} {b : Int × mS} {r : Int × mS} (h : M_Mo_back_20 l0 l1 l2 σ = some b) (hk : (fun b r => r = b) b r) : mG (d + 1) 59 20 [(3, l0), (1, l1), (1, l2)] [] σ r :=
  miter_ok (G := fun (s : Int × mS) r => mG (d + 1) 59 20 [(3, l0), (1, l1), (1, s.1)] [] s.2 r) (K := (fun b r => r = b)) (fun s x r hs hx => TB_Mo_back_20 hC hs hx) mN _ b r h hk
set_option maxRecDepth 100000 in
theorem T_Mo_back_0 {d : Nat} (hC : ∀ k as σ p, C_Mo_back k as σ = some p → mEx d k as σ p) {l0 l1 : Int} {σ : mS} {b : Int × mS} {r : Int × mS} (h : M_Mo_back l0 l1 σ = some b) (hk : (fun b r => r = b) b r) : mG (d + 1) 59 0 (mInit 3 [(3, l0), (1, l1)]) [] σ r := by
  refine mblk_ok1 P_Mo_back (F := F_Mo_back_0) (fun b r => r = b) hC ?_ (fun v σ b r hb hk => by cases hb; exact hk) _ 0 (mInit 3 [(3, l0), (1, l1)]) [] σ b r ((E_Mo_back_0 l0 l1 σ).trans h) hk
  intro i L st σ b r hb hk
  unfold F_Mo_back_0 at hb
  split at hb
  · have key : ∀ (k0 k1 k2 : Int) (σ : mS) (b : Int × mS) (r : Int × mS), (M_Mo_back_20 k0 k1 k2 σ) = some b → (fun b r => r = b) b r → mG (d + 1) 59 20 [(3, k0), (1, k1), (1, k2)] [] σ r := by
      intro k0 k1 k2 σ b r hb hk
      exact (T_Mo_back_20 hC hb hk).lle (lle_cons (lle_cons (lle_cons lle_nil)))
    exact key _ _ _ σ b r hb hk
  · cases hb
set_option maxRecDepth 100000 in
theorem T_Mo_back {l0 l1 : Int} {σ : mS} {r : Int × mS} (h : M_Mo_back l0 l1 σ = some r) : mEx 2 59 [(3, l0), (1, l1)] σ r :=
  ⟨by rw [P_Mo_back]; exact Nat.le_of_ble_eq_true rfl, by rw [P_Mo_back]; exact T_Mo_back_0 TC_Mo_back h rfl⟩
set_option maxRecDepth 100000 in
theorem P_Mo_isPlace : mProg 60 = (c_Mo_isPlace, 1) := rfl
set_option maxRecDepth 100000 in
theorem TC_Mo_isPlace : ∀ k as σ p, C_Mo_isPlace k as σ = some p → mEx 1 k as σ p := by
  intro k as σ p hp
  unfold C_Mo_isPlace at hp
  split at hp
  · exact (T_Mo_lies hp).up (Nat.le_of_ble_eq_true rfl)
  · cases hp
set_option maxRecDepth 100000 in
theorem T_Mo_isPlace_0 {d : Nat} (hC : ∀ k as σ p, C_Mo_isPlace k as σ = some p → mEx d k as σ p) {l0 : Int} {σ : mS} {b : Int × mS} {r : Int × mS} (h : M_Mo_isPlace l0 σ = some b) (hk : (fun b r => r = b) b r) : mG (d + 1) 60 0 (mInit 1 [(1, l0)]) [] σ r := by
  refine mblk_ok1 P_Mo_isPlace (F := F_Mo_isPlace_0) (fun b r => r = b) hC ?_ (fun v σ b r hb hk => by cases hb; exact hk) _ 0 (mInit 1 [(1, l0)]) [] σ b r ((E_Mo_isPlace_0 l0 σ).trans h) hk
  intro i L st σ b r hb hk
  cases hb
set_option maxRecDepth 100000 in
theorem T_Mo_isPlace {l0 : Int} {σ : mS} {r : Int × mS} (h : M_Mo_isPlace l0 σ = some r) : mEx 2 60 [(1, l0)] σ r :=
  ⟨by rw [P_Mo_isPlace]; exact Nat.le_of_ble_eq_true rfl, by rw [P_Mo_isPlace]; exact T_Mo_isPlace_0 TC_Mo_isPlace h rfl⟩
set_option maxRecDepth 100000 in
theorem P_Mo_isInch : mProg 61 = (c_Mo_isInch, 1) := rfl
set_option maxRecDepth 100000 in
theorem TC_Mo_isInch : ∀ k as σ p, C_Mo_isInch k as σ = some p → mEx 1 k as σ p := by
  intro k as σ p hp
  unfold C_Mo_isInch at hp
  split at hp
  · exact (T_Mo_lies hp).up (Nat.le_of_ble_eq_true rfl)
  · cases hp
set_option maxRecDepth 100000 in
theorem T_Mo_isInch_0 {d : Nat} (hC : ∀ k as σ p, C_Mo_isInch k as σ = some p → mEx d k as σ p) {l0 : Int} {σ : mS} {b : Int × mS} {r : Int × mS} (h : M_Mo_isInch l0 σ = some b) (hk : (fun b r => r = b) b r) : mG (d + 1) 61 0 (mInit 1 [(1, l0)]) [] σ r := by
  refine mblk_ok1 P_Mo_isInch (F := F_Mo_isInch_0) (fun b r => r = b) hC ?_ (fun v σ b r hb hk => by cases hb; exact hk) _ 0 (mInit 1 [(1, l0)]) [] σ b r ((E_Mo_isInch_0 l0 σ).trans h) hk
  intro i L st σ b r hb hk
  cases hb
set_option maxRecDepth 100000 in
theorem T_Mo_isInch {l0 : Int} {σ : mS} {r : Int × mS} (h : M_Mo_isInch l0 σ = some r) : mEx 2 61 [(1, l0)] σ r :=
  ⟨by rw [P_Mo_isInch]; exact Nat.le_of_ble_eq_true rfl, by rw [P_Mo_isInch]; exact T_Mo_isInch_0 TC_Mo_isInch h rfl⟩
set_option maxRecDepth 100000 in
theorem P_Mo_isHour : mProg 62 = (c_Mo_isHour, 1) := rfl
set_option maxRecDepth 100000 in
theorem TC_Mo_isHour : ∀ k as σ p, C_Mo_isHour k as σ = some p → mEx 1 k as σ p := by
  intro k as σ p hp
  unfold C_Mo_isHour at hp
  split at hp
  · exact (T_Mo_lies hp).up (Nat.le_of_ble_eq_true rfl)
  · cases hp
set_option maxRecDepth 100000 in
theorem T_Mo_isHour_0 {d : Nat} (hC : ∀ k as σ p, C_Mo_isHour k as σ = some p → mEx d k as σ p) {l0 : Int} {σ : mS} {b : Int × mS} {r : Int × mS} (h : M_Mo_isHour l0 σ = some b) (hk : (fun b r => r = b) b r) : mG (d + 1) 62 0 (mInit 1 [(1, l0)]) [] σ r := by
  refine mblk_ok1 P_Mo_isHour (F := F_Mo_isHour_0) (fun b r => r = b) hC ?_ (fun v σ b r hb hk => by cases hb; exact hk) _ 0 (mInit 1 [(1, l0)]) [] σ b r ((E_Mo_isHour_0 l0 σ).trans h) hk
  intro i L st σ b r hb hk
  cases hb
set_option maxRecDepth 100000 in
theorem T_Mo_isHour {l0 : Int} {σ : mS} {r : Int × mS} (h : M_Mo_isHour l0 σ = some r) : mEx 2 62 [(1, l0)] σ r :=
  ⟨by rw [P_Mo_isHour]; exact Nat.le_of_ble_eq_true rfl, by rw [P_Mo_isHour]; exact T_Mo_isHour_0 TC_Mo_isHour h rfl⟩
set_option maxRecDepth 100000 in
theorem P_Mo_isAngle : mProg 63 = (c_Mo_isAngle, 1) := rfl
set_option maxRecDepth 100000 in
theorem TC_Mo_isAngle : ∀ k as σ p, C_Mo_isAngle k as σ = some p → mEx 1 k as σ p := by
  intro k as σ p hp
  unfold C_Mo_isAngle at hp
  split at hp
  · exact (T_Mo_lies hp).up (Nat.le_of_ble_eq_true rfl)
  · cases hp
set_option maxRecDepth 100000 in
theorem T_Mo_isAngle_0 {d : Nat} (hC : ∀ k as σ p, C_Mo_isAngle k as σ = some p → mEx d k as σ p) {l0 : Int} {σ : mS} {b : Int × mS} {r : Int × mS} (h : M_Mo_isAngle l0 σ = some b) (hk : (fun b r => r = b) b r) : mG (d + 1) 63 0 (mInit 1 [(1, l0)]) [] σ r := by
  refine mblk_ok1 P_Mo_isAngle (F := F_Mo_isAngle_0) (fun b r => r = b) hC ?_ (fun v σ b r hb hk => by cases hb; exact hk) _ 0 (mInit 1 [(1, l0)]) [] σ b r ((E_Mo_isAngle_0 l0 σ).trans h) hk
  intro i L st σ b r hb hk
  cases hb
set_option maxRecDepth 100000 in
theorem T_Mo_isAngle {l0 : Int} {σ : mS} {r : Int × mS} (h : M_Mo_isAngle l0 σ = some r) : mEx 2 63 [(1, l0)] σ r :=
  ⟨by rw [P_Mo_isAngle]; exact Nat.le_of_ble_eq_true rfl, by rw [P_Mo_isAngle]; exact T_Mo_isAngle_0 TC_Mo_isAngle h rfl⟩
set_option maxRecDepth 100000 in
theorem P_Mo_isThing : mProg 64 = (c_Mo_isThing, 2) := rfl
set_option maxRecDepth 100000 in
theorem TC_Mo_isThing : ∀ k as σ p, C_Mo_isThing k as σ = some p → mEx 1 k as σ p := by
  intro k as σ p hp
  unfold C_Mo_isThing at hp
  split at hp
  · exact (T_Mo_lies hp).up (Nat.le_of_ble_eq_true rfl)
  · cases hp
set_option maxRecDepth 100000 in
theorem T_Mo_isThing_0 {d : Nat} (hC : ∀ k as σ p, C_Mo_isThing k as σ = some p → mEx d k as σ p) {l0 l1 : Int} {σ : mS} {b : Int × mS} {r : Int × mS} (h : M_Mo_isThing l0 l1 σ = some b) (hk : (fun b r => r = b) b r) : mG (d + 1) 64 0 (mInit 2 [(3, l0), (1, l1)]) [] σ r := by
  refine mblk_ok1 P_Mo_isThing (F := F_Mo_isThing_0) (fun b r => r = b) hC ?_ (fun v σ b r hb hk => by cases hb; exact hk) _ 0 (mInit 2 [(3, l0), (1, l1)]) [] σ b r ((E_Mo_isThing_0 l0 l1 σ).trans h) hk
  intro i L st σ b r hb hk
  cases hb
set_option maxRecDepth 100000 in
theorem T_Mo_isThing {l0 l1 : Int} {σ : mS} {r : Int × mS} (h : M_Mo_isThing l0 l1 σ = some r) : mEx 2 64 [(3, l0), (1, l1)] σ r :=
  ⟨by rw [P_Mo_isThing]; exact Nat.le_of_ble_eq_true rfl, by rw [P_Mo_isThing]; exact T_Mo_isThing_0 TC_Mo_isThing h rfl⟩
