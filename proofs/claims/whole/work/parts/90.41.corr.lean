/-! the functions beside the machine: written by gen/corr.py -/
set_option maxRecDepth 100000 in
theorem P_JA_fill : mProg 241 = (c_JA_fill, 4) := rfl
set_option maxRecDepth 100000 in
theorem TC_JA_fill : ∀ k as σ p, C_JA_fill k as σ = some p → mEx 0 k as σ p := by
  intro k as σ p hp
  cases hp
set_option maxRecDepth 100000 in
theorem TB_JA_fill_5 {d : Nat} (hC : ∀ k as σ p, C_JA_fill k as σ = some p → mEx d k as σ p) {l0 l1 l2 l3 : Int} {σ : mS} {b : ((Int × mS) ⊕ (Int × mS))} {r : Int × mS} (h : B_JA_fill_5 l0 l1 l2 l3 σ = some b) (hk : (Sum.elim (fun (s : Int × mS) r => mG (d + 1) 241 5 [(3, l0), (1, l1), (1, s.1), (1, l3)] [] s.2 r) (fun b r => r = b)) b r) : mG (d + 1) 241 5 [(3, l0), (1, l1), (1, l2), (1, l3)] [] σ r := by
  refine mblk_ok2 P_JA_fill (F := F_JA_fill_5) (Sum.elim (fun (s : Int × mS) r => mG (d + 1) 241 5 [(3, l0), (1, l1), (1, s.1), (1, l3)] [] s.2 r) (fun b r => r = b)) [([(5, 13)], [0, 1, 3])] [(5, 14)] [(3, l0), (1, l1), (1, l2), (1, l3)] (by decide +kernel) rfl hC ?_ (fun v σ b r hb hk => by cases hb; exact hk) _ 5 [(3, l0), (1, l1), (1, l2), (1, l3)] [] σ b r rfl (mJ_self _ _ _) ((E_JA_fill_5 l0 l1 l2 l3 σ).trans h) hk
  intro i L st σ b r hj hb hk
  unfold F_JA_fill_5 at hb
  split at hb
  · have key : ∀ (k0 k1 k2 k3 : Int) (σ : mS) (b : ((Int × mS) ⊕ (Int × mS))) (r : Int × mS), mJ [(3, l0), (1, l1), (1, l2), (1, l3)] 5 [(3, k0), (1, k1), (1, k2), (1, k3)] [([(5, 13)], [0, 1, 3])] → (some (.inl (k2, σ))) = some b → (Sum.elim (fun (s : Int × mS) r => mG (d + 1) 241 5 [(3, l0), (1, l1), (1, s.1), (1, l3)] [] s.2 r) (fun b r => r = b)) b r → mG (d + 1) 241 5 [(3, k0), (1, k1), (1, k2), (1, k3)] [] σ r := by
      intro k0 k1 k2 k3 σ b r hj hb hk
      have e0 : k0 = l0 := (Prod.mk.inj (Option.some.inj ((hj.1 rfl).1))).2
      subst e0
      have e1 : k1 = l1 := (Prod.mk.inj (Option.some.inj ((hj.1 rfl).2.1))).2
      subst e1
      have e3 : k3 = l3 := (Prod.mk.inj (Option.some.inj ((hj.1 rfl).2.2.1))).2
      subst e3
      cases hb
      exact mG.lle hk (lle_cons (lle_cons (lle_cons (lle_cons lle_nil))))
    exact key _ _ _ _ σ b r hj hb hk
  · cases hb
set_option maxRecDepth 100000 in
theorem T_JA_fill_5 {d : Nat} (hC : ∀ k as σ p, C_JA_fill k as σ = some p → mEx d k as σ p) {l0 l1 l2 l3 : Int} {σ : mS} {b : Int × mS} {r : Int × mS} (h : M_JA_fill_5 l0 l1 l2 l3 σ = some b) (hk : (fun b r => r = b) b r) : mG (d + 1) 241 5 [(3, l0), (1, l1), (1, l2), (1, l3)] [] σ r :=
  miter_ok (G := fun (s : Int × mS) r => mG (d + 1) 241 5 [(3, l0), (1, l1), (1, s.1), (1, l3)] [] s.2 r) (K := (fun b r => r = b)) (fun s x r hs hx => TB_JA_fill_5 hC hs hx) mN _ b r h hk
set_option maxRecDepth 100000 in
theorem T_JA_fill_0 {d : Nat} (hC : ∀ k as σ p, C_JA_fill k as σ = some p → mEx d k as σ p) {l0 l1 : Int} {σ : mS} {b : Int × mS} {r : Int × mS} (h : M_JA_fill l0 l1 σ = some b) (hk : (fun b r => r = b) b r) : mG (d + 1) 241 0 (mInit 4 [(3, l0), (1, l1)]) [] σ r := by
  refine mblk_ok1 P_JA_fill (F := F_JA_fill_0) (fun b r => r = b) hC ?_ (fun v σ b r hb hk => by cases hb; exact hk) _ 0 (mInit 4 [(3, l0), (1, l1)]) [] σ b r ((E_JA_fill_0 l0 l1 σ).trans h) hk
  intro i L st σ b r hb hk
  unfold F_JA_fill_0 at hb
  split at hb
  · have key : ∀ (k0 k1 k2 k3 : Int) (σ : mS) (b : Int × mS) (r : Int × mS), (M_JA_fill_5 k0 k1 k2 k3 σ) = some b → (fun b r => r = b) b r → mG (d + 1) 241 5 [(3, k0), (1, k1), (1, k2), (1, k3)] [] σ r := by
      intro k0 k1 k2 k3 σ b r hb hk
      exact (T_JA_fill_5 hC hb hk).lle (lle_cons (lle_cons (lle_cons (lle_cons lle_nil))))
    exact key _ _ _ _ σ b r hb hk
  · cases hb
set_option maxRecDepth 100000 in
theorem T_JA_fill {l0 l1 : Int} {σ : mS} {r : Int × mS} (h : M_JA_fill l0 l1 σ = some r) : mEx 1 241 [(3, l0), (1, l1)] σ r :=
  ⟨by rw [P_JA_fill]; exact Nat.le_of_ble_eq_true rfl, by rw [P_JA_fill]; exact T_JA_fill_0 TC_JA_fill h rfl⟩
set_option maxRecDepth 100000 in
theorem P_Air_init : mProg 155 = (c_Air_init, 2) := rfl
set_option maxRecDepth 100000 in
theorem TC_Air_init : ∀ k as σ p, C_Air_init k as σ = some p → mEx 1 k as σ p := by
  intro k as σ p hp
  unfold C_Air_init at hp
  split at hp
  · exact (T_JA_fill hp).up (Nat.le_of_ble_eq_true rfl)
  · cases hp
set_option maxRecDepth 100000 in
theorem T_Air_init_0 {d : Nat} (hC : ∀ k as σ p, C_Air_init k as σ = some p → mEx d k as σ p) {l0 l1 : Int} {σ : mS} {b : Int × mS} {r : Int × mS} (h : M_Air_init l0 l1 σ = some b) (hk : (fun b r => r = b) b r) : mG (d + 1) 155 0 (mInit 2 [(3, l0), (3, l1)]) [] σ r := by
  refine mblk_ok1 P_Air_init (F := F_Air_init_0) (fun b r => r = b) hC ?_ (fun v σ b r hb hk => by cases hb; exact hk) _ 0 (mInit 2 [(3, l0), (3, l1)]) [] σ b r ((E_Air_init_0 l0 l1 σ).trans h) hk
  intro i L st σ b r hb hk
  cases hb
set_option maxRecDepth 100000 in
theorem T_Air_init {l0 l1 : Int} {σ : mS} {r : Int × mS} (h : M_Air_init l0 l1 σ = some r) : mEx 2 155 [(3, l0), (3, l1)] σ r :=
  ⟨by rw [P_Air_init]; exact Nat.le_of_ble_eq_true rfl, by rw [P_Air_init]; exact T_Air_init_0 TC_Air_init h rfl⟩
set_option maxRecDepth 100000 in
theorem P_Field_init : mProg 164 = (c_Field_init, 2) := rfl
set_option maxRecDepth 100000 in
theorem TC_Field_init : ∀ k as σ p, C_Field_init k as σ = some p → mEx 0 k as σ p := by
  intro k as σ p hp
  cases hp
set_option maxRecDepth 100000 in
theorem T_Field_init_0 {d : Nat} (hC : ∀ k as σ p, C_Field_init k as σ = some p → mEx d k as σ p) {l0 l1 : Int} {σ : mS} {b : Int × mS} {r : Int × mS} (h : M_Field_init l0 l1 σ = some b) (hk : (fun b r => r = b) b r) : mG (d + 1) 164 0 (mInit 2 [(3, l0), (3, l1)]) [] σ r := by
  refine mblk_ok1 P_Field_init (F := F_Field_init_0) (fun b r => r = b) hC ?_ (fun v σ b r hb hk => by cases hb; exact hk) _ 0 (mInit 2 [(3, l0), (3, l1)]) [] σ b r ((E_Field_init_0 l0 l1 σ).trans h) hk
  intro i L st σ b r hb hk
  cases hb
set_option maxRecDepth 100000 in
theorem T_Field_init {l0 l1 : Int} {σ : mS} {r : Int × mS} (h : M_Field_init l0 l1 σ = some r) : mEx 1 164 [(3, l0), (3, l1)] σ r :=
  ⟨by rw [P_Field_init]; exact Nat.le_of_ble_eq_true rfl, by rw [P_Field_init]; exact T_Field_init_0 TC_Field_init h rfl⟩
set_option maxRecDepth 100000 in
theorem P_Air_lawInForce : mProg 158 = (c_Air_lawInForce, 2) := rfl
set_option maxRecDepth 100000 in
theorem TC_Air_lawInForce : ∀ k as σ p, C_Air_lawInForce k as σ = some p → mEx 0 k as σ p := by
  intro k as σ p hp
  cases hp
set_option maxRecDepth 100000 in
theorem T_Air_lawInForce_0 {d : Nat} (hC : ∀ k as σ p, C_Air_lawInForce k as σ = some p → mEx d k as σ p) {l0 : Int} {σ : mS} {b : Int × mS} {r : Int × mS} (h : M_Air_lawInForce l0 σ = some b) (hk : (fun b r => r = b) b r) : mG (d + 1) 158 0 (mInit 2 [(3, l0)]) [] σ r := by
  refine mblk_ok1 P_Air_lawInForce (F := F_Air_lawInForce_0) (fun b r => r = b) hC ?_ (fun v σ b r hb hk => by cases hb; exact hk) _ 0 (mInit 2 [(3, l0)]) [] σ b r ((E_Air_lawInForce_0 l0 σ).trans h) hk
  intro i L st σ b r hb hk
  cases hb
set_option maxRecDepth 100000 in
theorem T_Air_lawInForce {l0 : Int} {σ : mS} {r : Int × mS} (h : M_Air_lawInForce l0 σ = some r) : mEx 1 158 [(3, l0)] σ r :=
  ⟨by rw [P_Air_lawInForce]; exact Nat.le_of_ble_eq_true rfl, by rw [P_Air_lawInForce]; exact T_Air_lawInForce_0 TC_Air_lawInForce h rfl⟩
set_option maxRecDepth 100000 in
theorem P_Air_differsByHour : mProg 159 = (c_Air_differsByHour, 2) := rfl
set_option maxRecDepth 100000 in
theorem TC_Air_differsByHour : ∀ k as σ p, C_Air_differsByHour k as σ = some p → mEx 1 k as σ p := by
  intro k as σ p hp
  unfold C_Air_differsByHour at hp
  split at hp
  · exact (T_Air_lawInForce hp).up (Nat.le_of_ble_eq_true rfl)
  · cases hp
set_option maxRecDepth 100000 in
theorem T_Air_differsByHour_0 {d : Nat} (hC : ∀ k as σ p, C_Air_differsByHour k as σ = some p → mEx d k as σ p) {l0 : Int} {σ : mS} {b : Int × mS} {r : Int × mS} (h : M_Air_differsByHour l0 σ = some b) (hk : (fun b r => r = b) b r) : mG (d + 1) 159 0 (mInit 2 [(3, l0)]) [] σ r := by
  refine mblk_ok1 P_Air_differsByHour (F := F_Air_differsByHour_0) (fun b r => r = b) hC ?_ (fun v σ b r hb hk => by cases hb; exact hk) _ 0 (mInit 2 [(3, l0)]) [] σ b r ((E_Air_differsByHour_0 l0 σ).trans h) hk
  intro i L st σ b r hb hk
  cases hb
set_option maxRecDepth 100000 in
theorem T_Air_differsByHour {l0 : Int} {σ : mS} {r : Int × mS} (h : M_Air_differsByHour l0 σ = some r) : mEx 2 159 [(3, l0)] σ r :=
  ⟨by rw [P_Air_differsByHour]; exact Nat.le_of_ble_eq_true rfl, by rw [P_Air_differsByHour]; exact T_Air_differsByHour_0 TC_Air_differsByHour h rfl⟩
set_option maxRecDepth 100000 in
theorem P_HourAir_init : mProg 181 = (c_HourAir_init, 2) := rfl
set_option maxRecDepth 100000 in
theorem TC_HourAir_init : ∀ k as σ p, C_HourAir_init k as σ = some p → mEx 0 k as σ p := by
  intro k as σ p hp
  cases hp
set_option maxRecDepth 100000 in
theorem T_HourAir_init_0 {d : Nat} (hC : ∀ k as σ p, C_HourAir_init k as σ = some p → mEx d k as σ p) {l0 l1 : Int} {σ : mS} {b : Int × mS} {r : Int × mS} (h : M_HourAir_init l0 l1 σ = some b) (hk : (fun b r => r = b) b r) : mG (d + 1) 181 0 (mInit 2 [(3, l0), (1, l1)]) [] σ r := by
  refine mblk_ok1 P_HourAir_init (F := F_HourAir_init_0) (fun b r => r = b) hC ?_ (fun v σ b r hb hk => by cases hb; exact hk) _ 0 (mInit 2 [(3, l0), (1, l1)]) [] σ b r ((E_HourAir_init_0 l0 l1 σ).trans h) hk
  intro i L st σ b r hb hk
  cases hb
set_option maxRecDepth 100000 in
theorem T_HourAir_init {l0 l1 : Int} {σ : mS} {r : Int × mS} (h : M_HourAir_init l0 l1 σ = some r) : mEx 1 181 [(3, l0), (1, l1)] σ r :=
  ⟨by rw [P_HourAir_init]; exact Nat.le_of_ble_eq_true rfl, by rw [P_HourAir_init]; exact T_HourAir_init_0 TC_HourAir_init h rfl⟩
set_option maxRecDepth 100000 in
theorem P_HourAir_clear : mProg 182 = (c_HourAir_clear, 4) := rfl
set_option maxRecDepth 100000 in
theorem TC_HourAir_clear : ∀ k as σ p, C_HourAir_clear k as σ = some p → mEx 0 k as σ p := by
  intro k as σ p hp
  cases hp
set_option maxRecDepth 100000 in
theorem TB_HourAir_clear_4 {d : Nat} (hC : ∀ k as σ p, C_HourAir_clear k as σ = some p → mEx d k as σ p) {l0 l1 l2 l3 : Int} {σ : mS} {b : ((Int × mS) ⊕ (Int × mS))} {r : Int × mS} (h : B_HourAir_clear_4 l0 l1 l2 l3 σ = some b) (hk : (Sum.elim (fun (s : Int × mS) r => mG (d + 1) 182 4 [(3, l0), (1, l1), (1, l2), (1, s.1)] [] s.2 r) (fun b r => r = b)) b r) : mG (d + 1) 182 4 [(3, l0), (1, l1), (1, l2), (1, l3)] [] σ r := by
  refine mblk_ok2 P_HourAir_clear (F := F_HourAir_clear_4) (Sum.elim (fun (s : Int × mS) r => mG (d + 1) 182 4 [(3, l0), (1, l1), (1, l2), (1, s.1)] [] s.2 r) (fun b r => r = b)) [([(4, 22)], [0, 1, 2])] [(4, 28)] [(3, l0), (1, l1), (1, l2), (1, l3)] (by decide +kernel) rfl hC ?_ (fun v σ b r hb hk => by cases hb; exact hk) _ 4 [(3, l0), (1, l1), (1, l2), (1, l3)] [] σ b r rfl (mJ_self _ _ _) ((E_HourAir_clear_4 l0 l1 l2 l3 σ).trans h) hk
  intro i L st σ b r hj hb hk
  unfold F_HourAir_clear_4 at hb
  split at hb
  · have key : ∀ (k0 k1 k2 k3 : Int) (σ : mS) (b : ((Int × mS) ⊕ (Int × mS))) (r : Int × mS), mJ [(3, l0), (1, l1), (1, l2), (1, l3)] 4 [(3, k0), (1, k1), (1, k2), (1, k3)] [([(4, 22)], [0, 1, 2])] → (some (.inl (k3, σ))) = some b → (Sum.elim (fun (s : Int × mS) r => mG (d + 1) 182 4 [(3, l0), (1, l1), (1, l2), (1, s.1)] [] s.2 r) (fun b r => r = b)) b r → mG (d + 1) 182 4 [(3, k0), (1, k1), (1, k2), (1, k3)] [] σ r := by
      intro k0 k1 k2 k3 σ b r hj hb hk
      have e0 : k0 = l0 := (Prod.mk.inj (Option.some.inj ((hj.1 rfl).1))).2
      subst e0
      have e1 : k1 = l1 := (Prod.mk.inj (Option.some.inj ((hj.1 rfl).2.1))).2
      subst e1
      have e2 : k2 = l2 := (Prod.mk.inj (Option.some.inj ((hj.1 rfl).2.2.1))).2
      subst e2
      cases hb
      exact mG.lle hk (lle_cons (lle_cons (lle_cons (lle_cons lle_nil))))
    exact key _ _ _ _ σ b r hj hb hk
  · cases hb
set_option maxRecDepth 100000 in
theorem T_HourAir_clear_4 {d : Nat} (hC : ∀ k as σ p, C_HourAir_clear k as σ = some p → mEx d k as σ p) {l0 l1 l2 l3 : Int} {σ : mS} {b : Int × mS} {r : Int × mS} (h : M_HourAir_clear_4 l0 l1 l2 l3 σ = some b) (hk : (fun b r => r = b) b r) : mG (d + 1) 182 4 [(3, l0), (1, l1), (1, l2), (1, l3)] [] σ r :=
  miter_ok (G := fun (s : Int × mS) r => mG (d + 1) 182 4 [(3, l0), (1, l1), (1, l2), (1, s.1)] [] s.2 r) (K := (fun b r => r = b)) (fun s x r hs hx => TB_HourAir_clear_4 hC hs hx) mN _ b r h hk
set_option maxRecDepth 100000 in
theorem T_HourAir_clear_0 {d : Nat} (hC : ∀ k as σ p, C_HourAir_clear k as σ = some p → mEx d k as σ p) {l0 l1 l2 : Int} {σ : mS} {b : Int × mS} {r : Int × mS} (h : M_HourAir_clear l0 l1 l2 σ = some b) (hk : (fun b r => r = b) b r) : mG (d + 1) 182 0 (mInit 4 [(3, l0), (1, l1), (1, l2)]) [] σ r := by
  refine mblk_ok1 P_HourAir_clear (F := F_HourAir_clear_0) (fun b r => r = b) hC ?_ (fun v σ b r hb hk => by cases hb; exact hk) _ 0 (mInit 4 [(3, l0), (1, l1), (1, l2)]) [] σ b r ((E_HourAir_clear_0 l0 l1 l2 σ).trans h) hk
  intro i L st σ b r hb hk
  unfold F_HourAir_clear_0 at hb
  split at hb
  · have key : ∀ (k0 k1 k2 k3 : Int) (σ : mS) (b : Int × mS) (r : Int × mS), (M_HourAir_clear_4 k0 k1 k2 k3 σ) = some b → (fun b r => r = b) b r → mG (d + 1) 182 4 [(3, k0), (1, k1), (1, k2), (1, k3)] [] σ r := by
      intro k0 k1 k2 k3 σ b r hb hk
      exact (T_HourAir_clear_4 hC hb hk).lle (lle_cons (lle_cons (lle_cons (lle_cons lle_nil))))
    exact key _ _ _ _ σ b r hb hk
  · cases hb
set_option maxRecDepth 100000 in
theorem T_HourAir_clear {l0 l1 l2 : Int} {σ : mS} {r : Int × mS} (h : M_HourAir_clear l0 l1 l2 σ = some r) : mEx 1 182 [(3, l0), (1, l1), (1, l2)] σ r :=
  ⟨by rw [P_HourAir_clear]; exact Nat.le_of_ble_eq_true rfl, by rw [P_HourAir_clear]; exact T_HourAir_clear_0 TC_HourAir_clear h rfl⟩
set_option maxRecDepth 100000 in
theorem P_Air_ofHour : mProg 160 = (c_Air_ofHour, 5) := rfl
set_option maxRecDepth 100000 in
theorem TC_Air_ofHour : ∀ k as σ p, C_Air_ofHour k as σ = some p → mEx 2 k as σ p := by
  intro k as σ p hp
  unfold C_Air_ofHour at hp
  split at hp
  · exact (T_Air_differsByHour hp).up (Nat.le_of_ble_eq_true rfl)
  · exact (T_HourAir_init hp).up (Nat.le_of_ble_eq_true rfl)
  · exact (T_HourAir_clear hp).up (Nat.le_of_ble_eq_true rfl)
  · cases hp
set_option maxRecDepth 100000 in
theorem TB_Air_ofHour_26 {d : Nat} (hC : ∀ k as σ p, C_Air_ofHour k as σ = some p → mEx d k as σ p) {l0 l3 l4 : Int} {σ : mS} {b : ((Int × mS) ⊕ (Int × mS))} {r : Int × mS} (h : B_Air_ofHour_26 l0 l3 l4 σ = some b) (hk : (Sum.elim (fun (s : Int × mS) r => mG (d + 1) 160 26 [(3, l0), (0, 0), (0, 0), (3, l3), (1, s.1)] [] s.2 r) (fun b r => r = b)) b r) : mG (d + 1) 160 26 [(3, l0), (0, 0), (0, 0), (3, l3), (1, l4)] [] σ r := by
  refine mblk_ok2 P_Air_ofHour (F := F_Air_ofHour_26) (Sum.elim (fun (s : Int × mS) r => mG (d + 1) 160 26 [(3, l0), (0, 0), (0, 0), (3, l3), (1, s.1)] [] s.2 r) (fun b r => r = b)) [([(26, 46)], [0, 3])] [(26, 48)] [(3, l0), (0, 0), (0, 0), (3, l3), (1, l4)] (by decide +kernel) rfl hC ?_ (fun v σ b r hb hk => by cases hb; exact hk) _ 26 [(3, l0), (0, 0), (0, 0), (3, l3), (1, l4)] [] σ b r rfl (mJ_self _ _ _) ((E_Air_ofHour_26 l0 l3 l4 σ).trans h) hk
  intro i L st σ b r hj hb hk
  unfold F_Air_ofHour_26 at hb
  split at hb
  · have key : ∀ (k0 k3 k4 : Int) (k1 k2 : mV) (σ : mS) (b : ((Int × mS) ⊕ (Int × mS))) (r : Int × mS), mJ [(3, l0), (0, 0), (0, 0), (3, l3), (1, l4)] 26 [(3, k0), k1, k2, (3, k3), (1, k4)] [([(26, 46)], [0, 3])] → (some (.inl (k4, σ))) = some b → (Sum.elim (fun (s : Int × mS) r => mG (d + 1) 160 26 [(3, l0), (0, 0), (0, 0), (3, l3), (1, s.1)] [] s.2 r) (fun b r => r = b)) b r → mG (d + 1) 160 26 [(3, k0), k1, k2, (3, k3), (1, k4)] [] σ r := by
      intro k0 k3 k4 k1 k2 σ b r hj hb hk
      have e0 : k0 = l0 := (Prod.mk.inj (Option.some.inj ((hj.1 rfl).1))).2
      subst e0
      have e3 : k3 = l3 := (Prod.mk.inj (Option.some.inj ((hj.1 rfl).2.1))).2
      subst e3
      cases hb
      exact mG.lle hk (lle_cons (lle_dead (lle_dead (lle_cons (lle_cons lle_nil)))))
    exact key _ _ _ _ _ σ b r hj hb hk
  · cases hb
set_option maxRecDepth 100000 in
theorem T_Air_ofHour_26 {d : Nat} (hC : ∀ k as σ p, C_Air_ofHour k as σ = some p → mEx d k as σ p) {l0 l3 l4 : Int} {σ : mS} {b : Int × mS} {r : Int × mS} (h : M_Air_ofHour_26 l0 l3 l4 σ = some b) (hk : (fun b r => r = b) b r) : mG (d + 1) 160 26 [(3, l0), (0, 0), (0, 0), (3, l3), (1, l4)] [] σ r :=
  miter_ok (G := fun (s : Int × mS) r => mG (d + 1) 160 26 [(3, l0), (0, 0), (0, 0), (3, l3), (1, s.1)] [] s.2 r) (K := (fun b r => r = b)) (fun s x r hs hx => TB_Air_ofHour_26 hC hs hx) mN _ b r h hk
set_option maxRecDepth 100000 in
theorem T_Air_ofHour_6 {d : Nat} (hC : ∀ k as σ p, C_Air_ofHour k as σ = some p → mEx d k as σ p) {l0 s0 : Int} {σ : mS} {b : Int × mS} {r : Int × mS} (h : M_Air_ofHour_6 l0 s0 σ = some b) (hk : (fun b r => r = b) b r) : mG (d + 1) 160 6 [(3, l0), (0, 0), (0, 0), (0, 0), (0, 0)] [(1, s0)] σ r := by
  refine mblk_ok1 P_Air_ofHour (F := F_Air_ofHour_6) (fun b r => r = b) hC ?_ (fun v σ b r hb hk => by cases hb; exact hk) _ 6 [(3, l0), (0, 0), (0, 0), (0, 0), (0, 0)] [(1, s0)] σ b r ((E_Air_ofHour_6 l0 s0 σ).trans h) hk
  intro i L st σ b r hb hk
  unfold F_Air_ofHour_6 at hb
  split at hb
  · have key : ∀ (k0 k3 k4 : Int) (k1 k2 : mV) (σ : mS) (b : Int × mS) (r : Int × mS), (M_Air_ofHour_26 k0 k3 k4 σ) = some b → (fun b r => r = b) b r → mG (d + 1) 160 26 [(3, k0), k1, k2, (3, k3), (1, k4)] [] σ r := by
      intro k0 k3 k4 k1 k2 σ b r hb hk
      exact (T_Air_ofHour_26 hC hb hk).lle (lle_cons (lle_dead (lle_dead (lle_cons (lle_cons lle_nil)))))
    exact key _ _ _ _ _ σ b r hb hk
  · cases hb
set_option maxRecDepth 100000 in
theorem T_Air_ofHour_0 {d : Nat} (hC : ∀ k as σ p, C_Air_ofHour k as σ = some p → mEx d k as σ p) {l0 l1 : Int} {σ : mS} {b : Int × mS} {r : Int × mS} (h : M_Air_ofHour l0 l1 σ = some b) (hk : (fun b r => r = b) b r) : mG (d + 1) 160 0 (mInit 5 [(3, l0), (1, l1)]) [] σ r := by
  refine mblk_ok1 P_Air_ofHour (F := F_Air_ofHour_0) (fun b r => r = b) hC ?_ (fun v σ b r hb hk => by cases hb; exact hk) _ 0 (mInit 5 [(3, l0), (1, l1)]) [] σ b r ((E_Air_ofHour_0 l0 l1 σ).trans h) hk
  intro i L st σ b r hb hk
  unfold F_Air_ofHour_0 at hb
  split at hb
  · have key : ∀ (k0 u0 : Int) (k1 k2 k3 k4 : mV) (σ : mS) (b : Int × mS) (r : Int × mS), (M_Air_ofHour_6 k0 u0 σ) = some b → (fun b r => r = b) b r → mG (d + 1) 160 6 [(3, k0), k1, k2, k3, k4] [(1, u0)] σ r := by
      intro k0 u0 k1 k2 k3 k4 σ b r hb hk
      exact (T_Air_ofHour_6 hC hb hk).lle (lle_cons (lle_dead (lle_dead (lle_dead (lle_dead lle_nil)))))
    exact key _ _ _ _ _ _ σ b r hb hk
  · cases hb
set_option maxRecDepth 100000 in
theorem T_Air_ofHour {l0 l1 : Int} {σ : mS} {r : Int × mS} (h : M_Air_ofHour l0 l1 σ = some r) : mEx 3 160 [(3, l0), (1, l1)] σ r :=
  ⟨by rw [P_Air_ofHour]; exact Nat.le_of_ble_eq_true rfl, by rw [P_Air_ofHour]; exact T_Air_ofHour_0 TC_Air_ofHour h rfl⟩
set_option maxRecDepth 100000 in
theorem P_Light_init : mProg 187 = (c_Light_init, 3) := rfl
set_option maxRecDepth 100000 in
theorem TC_Light_init : ∀ k as σ p, C_Light_init k as σ = some p → mEx 3 k as σ p := by
  intro k as σ p hp
  unfold C_Light_init at hp
  split at hp
  · exact (T_Air_ofHour hp).up (Nat.le_of_ble_eq_true rfl)
  · exact (T_JA_fill hp).up (Nat.le_of_ble_eq_true rfl)
  · cases hp
set_option maxRecDepth 100000 in
theorem T_Light_init_0 {d : Nat} (hC : ∀ k as σ p, C_Light_init k as σ = some p → mEx d k as σ p) {l0 l1 l2 : Int} {σ : mS} {b : Int × mS} {r : Int × mS} (h : M_Light_init l0 l1 l2 σ = some b) (hk : (fun b r => r = b) b r) : mG (d + 1) 187 0 (mInit 3 [(3, l0), (3, l1), (3, l2)]) [] σ r := by
  refine mblk_ok1 P_Light_init (F := F_Light_init_0) (fun b r => r = b) hC ?_ (fun v σ b r hb hk => by cases hb; exact hk) _ 0 (mInit 3 [(3, l0), (3, l1), (3, l2)]) [] σ b r ((E_Light_init_0 l0 l1 l2 σ).trans h) hk
  intro i L st σ b r hb hk
  cases hb
set_option maxRecDepth 100000 in
theorem T_Light_init {l0 l1 l2 : Int} {σ : mS} {r : Int × mS} (h : M_Light_init l0 l1 l2 σ = some r) : mEx 4 187 [(3, l0), (3, l1), (3, l2)] σ r :=
  ⟨by rw [P_Light_init]; exact Nat.le_of_ble_eq_true rfl, by rw [P_Light_init]; exact T_Light_init_0 TC_Light_init h rfl⟩
set_option maxRecDepth 100000 in
theorem P_Reader_init : mProg 197 = (c_Reader_init, 1) := rfl
set_option maxRecDepth 100000 in
theorem TC_Reader_init : ∀ k as σ p, C_Reader_init k as σ = some p → mEx 0 k as σ p := by
  intro k as σ p hp
  cases hp
set_option maxRecDepth 100000 in
theorem T_Reader_init_0 {d : Nat} (hC : ∀ k as σ p, C_Reader_init k as σ = some p → mEx d k as σ p) {l0 : Int} {σ : mS} {b : Int × mS} {r : Int × mS} (h : M_Reader_init l0 σ = some b) (hk : (fun b r => r = b) b r) : mG (d + 1) 197 0 (mInit 1 [(3, l0)]) [] σ r := by
  refine mblk_ok1 P_Reader_init (F := F_Reader_init_0) (fun b r => r = b) hC ?_ (fun v σ b r hb hk => by cases hb; exact hk) _ 0 (mInit 1 [(3, l0)]) [] σ b r ((E_Reader_init_0 l0 σ).trans h) hk
  intro i L st σ b r hb hk
  cases hb
set_option maxRecDepth 100000 in
theorem T_Reader_init {l0 : Int} {σ : mS} {r : Int × mS} (h : M_Reader_init l0 σ = some r) : mEx 1 197 [(3, l0)] σ r :=
  ⟨by rw [P_Reader_init]; exact Nat.le_of_ble_eq_true rfl, by rw [P_Reader_init]; exact T_Reader_init_0 TC_Reader_init h rfl⟩
set_option maxRecDepth 100000 in
theorem P_Road_init : mProg 220 = (c_Road_init, 1) := rfl
set_option maxRecDepth 100000 in
theorem TC_Road_init : ∀ k as σ p, C_Road_init k as σ = some p → mEx 1 k as σ p := by
  intro k as σ p hp
  unfold C_Road_init at hp
  split at hp
  · exact (T_JA_fill hp).up (Nat.le_of_ble_eq_true rfl)
  · cases hp
set_option maxRecDepth 100000 in
theorem T_Road_init_0 {d : Nat} (hC : ∀ k as σ p, C_Road_init k as σ = some p → mEx d k as σ p) {l0 : Int} {σ : mS} {b : Int × mS} {r : Int × mS} (h : M_Road_init l0 σ = some b) (hk : (fun b r => r = b) b r) : mG (d + 1) 220 0 (mInit 1 [(3, l0)]) [] σ r := by
  refine mblk_ok1 P_Road_init (F := F_Road_init_0) (fun b r => r = b) hC ?_ (fun v σ b r hb hk => by cases hb; exact hk) _ 0 (mInit 1 [(3, l0)]) [] σ b r ((E_Road_init_0 l0 σ).trans h) hk
  intro i L st σ b r hb hk
  cases hb
set_option maxRecDepth 100000 in
theorem T_Road_init {l0 : Int} {σ : mS} {r : Int × mS} (h : M_Road_init l0 σ = some r) : mEx 2 220 [(3, l0)] σ r :=
  ⟨by rw [P_Road_init]; exact Nat.le_of_ble_eq_true rfl, by rw [P_Road_init]; exact T_Road_init_0 TC_Road_init h rfl⟩
set_option maxRecDepth 100000 in
theorem P_Survey_init : mProg 226 = (c_Survey_init, 3) := rfl
set_option maxRecDepth 100000 in
theorem TC_Survey_init : ∀ k as σ p, C_Survey_init k as σ = some p → mEx 0 k as σ p := by
  intro k as σ p hp
  cases hp
set_option maxRecDepth 100000 in
theorem T_Survey_init_0 {d : Nat} (hC : ∀ k as σ p, C_Survey_init k as σ = some p → mEx d k as σ p) {l0 l1 l2 : Int} {σ : mS} {b : Int × mS} {r : Int × mS} (h : M_Survey_init l0 l1 l2 σ = some b) (hk : (fun b r => r = b) b r) : mG (d + 1) 226 0 (mInit 3 [(3, l0), (3, l1), (3, l2)]) [] σ r := by
  refine mblk_ok1 P_Survey_init (F := F_Survey_init_0) (fun b r => r = b) hC ?_ (fun v σ b r hb hk => by cases hb; exact hk) _ 0 (mInit 3 [(3, l0), (3, l1), (3, l2)]) [] σ b r ((E_Survey_init_0 l0 l1 l2 σ).trans h) hk
  intro i L st σ b r hb hk
  cases hb
set_option maxRecDepth 100000 in
theorem T_Survey_init {l0 l1 l2 : Int} {σ : mS} {r : Int × mS} (h : M_Survey_init l0 l1 l2 σ = some r) : mEx 1 226 [(3, l0), (3, l1), (3, l2)] σ r :=
  ⟨by rw [P_Survey_init]; exact Nat.le_of_ble_eq_true rfl, by rw [P_Survey_init]; exact T_Survey_init_0 TC_Survey_init h rfl⟩
set_option maxRecDepth 100000 in
theorem P_Tape_init : mProg 235 = (c_Tape_init, 1) := rfl
set_option maxRecDepth 100000 in
theorem TC_Tape_init : ∀ k as σ p, C_Tape_init k as σ = some p → mEx 0 k as σ p := by
  intro k as σ p hp
  cases hp
set_option maxRecDepth 100000 in
theorem T_Tape_init_0 {d : Nat} (hC : ∀ k as σ p, C_Tape_init k as σ = some p → mEx d k as σ p) {l0 : Int} {σ : mS} {b : Int × mS} {r : Int × mS} (h : M_Tape_init l0 σ = some b) (hk : (fun b r => r = b) b r) : mG (d + 1) 235 0 (mInit 1 [(3, l0)]) [] σ r := by
  refine mblk_ok1 P_Tape_init (F := F_Tape_init_0) (fun b r => r = b) hC ?_ (fun v σ b r hb hk => by cases hb; exact hk) _ 0 (mInit 1 [(3, l0)]) [] σ b r ((E_Tape_init_0 l0 σ).trans h) hk
  intro i L st σ b r hb hk
  cases hb
set_option maxRecDepth 100000 in
theorem T_Tape_init {l0 : Int} {σ : mS} {r : Int × mS} (h : M_Tape_init l0 σ = some r) : mEx 1 235 [(3, l0)] σ r :=
  ⟨by rw [P_Tape_init]; exact Nat.le_of_ble_eq_true rfl, by rw [P_Tape_init]; exact T_Tape_init_0 TC_Tape_init h rfl⟩
set_option maxRecDepth 100000 in
theorem P_RW_init : mProg 0 = (c_RW_init, 2) := rfl
set_option maxRecDepth 100000 in
theorem TC_RW_init : ∀ k as σ p, C_RW_init k as σ = some p → mEx 4 k as σ p := by
  intro k as σ p hp
  unfold C_RW_init at hp
  split at hp
  · exact (T_Air_init hp).up (Nat.le_of_ble_eq_true rfl)
  · exact (T_Field_init hp).up (Nat.le_of_ble_eq_true rfl)
  · exact (T_Light_init hp).up (Nat.le_of_ble_eq_true rfl)
  · exact (T_Reader_init hp).up (Nat.le_of_ble_eq_true rfl)
  · exact (T_Road_init hp).up (Nat.le_of_ble_eq_true rfl)
  · exact (T_Survey_init hp).up (Nat.le_of_ble_eq_true rfl)
  · exact (T_Tape_init hp).up (Nat.le_of_ble_eq_true rfl)
  · cases hp
set_option maxRecDepth 100000 in
theorem TB_RW_init_13 {d : Nat} (hC : ∀ k as σ p, C_RW_init k as σ = some p → mEx d k as σ p) {l0 l1 : Int} {σ : mS} {b : ((Int × mS) ⊕ (Int × mS))} {r : Int × mS} (h : B_RW_init_13 l0 l1 σ = some b) (hk : (Sum.elim (fun (s : Int × mS) r => mG (d + 1) 0 13 [(3, l0), (1, s.1)] [] s.2 r) (fun b r => r = b)) b r) : mG (d + 1) 0 13 [(3, l0), (1, l1)] [] σ r := by
  refine mblk_ok2 P_RW_init (F := F_RW_init_13) (Sum.elim (fun (s : Int × mS) r => mG (d + 1) 0 13 [(3, l0), (1, s.1)] [] s.2 r) (fun b r => r = b)) [([(13, 24)], [0])] [(13, 86)] [(3, l0), (1, l1)] (by decide +kernel) rfl hC ?_ (fun v σ b r hb hk => by cases hb; exact hk) _ 13 [(3, l0), (1, l1)] [] σ b r rfl (mJ_self _ _ _) ((E_RW_init_13 l0 l1 σ).trans h) hk
  intro i L st σ b r hj hb hk
  unfold F_RW_init_13 at hb
  split at hb
  · have key : ∀ (k0 k1 : Int) (σ : mS) (b : ((Int × mS) ⊕ (Int × mS))) (r : Int × mS), mJ [(3, l0), (1, l1)] 13 [(3, k0), (1, k1)] [([(13, 24)], [0])] → (some (.inl (k1, σ))) = some b → (Sum.elim (fun (s : Int × mS) r => mG (d + 1) 0 13 [(3, l0), (1, s.1)] [] s.2 r) (fun b r => r = b)) b r → mG (d + 1) 0 13 [(3, k0), (1, k1)] [] σ r := by
      intro k0 k1 σ b r hj hb hk
      have e0 : k0 = l0 := (Prod.mk.inj (Option.some.inj ((hj.1 rfl).1))).2
      subst e0
      cases hb
      exact mG.lle hk (lle_cons (lle_cons lle_nil))
    exact key _ _ σ b r hj hb hk
  · cases hb
set_option maxRecDepth 100000 in
theorem T_RW_init_13 {d : Nat} (hC : ∀ k as σ p, C_RW_init k as σ = some p → mEx d k as σ p) {l0 l1 : Int} {σ : mS} {b : Int × mS} {r : Int × mS} (h : M_RW_init_13 l0 l1 σ = some b) (hk : (fun b r => r = b) b r) : mG (d + 1) 0 13 [(3, l0), (1, l1)] [] σ r :=
  miter_ok (G := fun (s : Int × mS) r => mG (d + 1) 0 13 [(3, l0), (1, s.1)] [] s.2 r) (K := (fun b r => r = b)) (fun s x r hs hx => TB_RW_init_13 hC hs hx) mN _ b r h hk
set_option maxRecDepth 100000 in
theorem T_RW_init_0 {d : Nat} (hC : ∀ k as σ p, C_RW_init k as σ = some p → mEx d k as σ p) {l0 : Int} {σ : mS} {b : Int × mS} {r : Int × mS} (h : M_RW_init l0 σ = some b) (hk : (fun b r => r = b) b r) : mG (d + 1) 0 0 (mInit 2 [(3, l0)]) [] σ r := by
  refine mblk_ok1 P_RW_init (F := F_RW_init_0) (fun b r => r = b) hC ?_ (fun v σ b r hb hk => by cases hb; exact hk) _ 0 (mInit 2 [(3, l0)]) [] σ b r ((E_RW_init_0 l0 σ).trans h) hk
  intro i L st σ b r hb hk
  unfold F_RW_init_0 at hb
  split at hb
  · have key : ∀ (k0 k1 : Int) (σ : mS) (b : Int × mS) (r : Int × mS), (M_RW_init_13 k0 k1 σ) = some b → (fun b r => r = b) b r → mG (d + 1) 0 13 [(3, k0), (1, k1)] [] σ r := by
      intro k0 k1 σ b r hb hk
      exact (T_RW_init_13 hC hb hk).lle (lle_cons (lle_cons lle_nil))
    exact key _ _ σ b r hb hk
  · cases hb
set_option maxRecDepth 100000 in
theorem T_RW_init {l0 : Int} {σ : mS} {r : Int × mS} (h : M_RW_init l0 σ = some r) : mEx 5 0 [(3, l0)] σ r :=
  ⟨by rw [P_RW_init]; exact Nat.le_of_ble_eq_true rfl, by rw [P_RW_init]; exact T_RW_init_0 TC_RW_init h rfl⟩
set_option maxRecDepth 100000 in
theorem P_RW_isWithin : mProg 47 = (c_RW_isWithin, 3) := rfl
set_option maxRecDepth 100000 in
theorem TC_RW_isWithin : ∀ k as σ p, C_RW_isWithin k as σ = some p → mEx 0 k as σ p := by
  intro k as σ p hp
  cases hp
set_option maxRecDepth 100000 in
theorem T_RW_isWithin_0 {d : Nat} (hC : ∀ k as σ p, C_RW_isWithin k as σ = some p → mEx d k as σ p) {l0 l1 l2 : Int} {σ : mS} {b : Int × mS} {r : Int × mS} (h : M_RW_isWithin l0 l1 l2 σ = some b) (hk : (fun b r => r = b) b r) : mG (d + 1) 47 0 (mInit 3 [(1, l0), (1, l1), (1, l2)]) [] σ r := by
  refine mblk_ok1 P_RW_isWithin (F := F_RW_isWithin_0) (fun b r => r = b) hC ?_ (fun v σ b r hb hk => by cases hb; exact hk) _ 0 (mInit 3 [(1, l0), (1, l1), (1, l2)]) [] σ b r ((E_RW_isWithin_0 l0 l1 l2 σ).trans h) hk
  intro i L st σ b r hb hk
  cases hb
set_option maxRecDepth 100000 in
theorem T_RW_isWithin {l0 l1 l2 : Int} {σ : mS} {r : Int × mS} (h : M_RW_isWithin l0 l1 l2 σ = some r) : mEx 1 47 [(1, l0), (1, l1), (1, l2)] σ r :=
  ⟨by rw [P_RW_isWithin]; exact Nat.le_of_ble_eq_true rfl, by rw [P_RW_isWithin]; exact T_RW_isWithin_0 TC_RW_isWithin h rfl⟩
set_option maxRecDepth 100000 in
theorem P_RW_refuse : mProg 45 = (c_RW_refuse, 2) := rfl
set_option maxRecDepth 100000 in
theorem TC_RW_refuse : ∀ k as σ p, C_RW_refuse k as σ = some p → mEx 1 k as σ p := by
  intro k as σ p hp
  unfold C_RW_refuse at hp
  split at hp
  · exact (T_RW_isWithin hp).up (Nat.le_of_ble_eq_true rfl)
  · cases hp
set_option maxRecDepth 100000 in
theorem T_RW_refuse_0 {d : Nat} (hC : ∀ k as σ p, C_RW_refuse k as σ = some p → mEx d k as σ p) {l0 l1 : Int} {σ : mS} {b : Int × mS} {r : Int × mS} (h : M_RW_refuse l0 l1 σ = some b) (hk : (fun b r => r = b) b r) : mG (d + 1) 45 0 (mInit 2 [(3, l0), (1, l1)]) [] σ r := by
  refine mblk_ok1 P_RW_refuse (F := F_RW_refuse_0) (fun b r => r = b) hC ?_ (fun v σ b r hb hk => by cases hb; exact hk) _ 0 (mInit 2 [(3, l0), (1, l1)]) [] σ b r ((E_RW_refuse_0 l0 l1 σ).trans h) hk
  intro i L st σ b r hb hk
  cases hb
set_option maxRecDepth 100000 in
theorem T_RW_refuse {l0 l1 : Int} {σ : mS} {r : Int × mS} (h : M_RW_refuse l0 l1 σ = some r) : mEx 2 45 [(3, l0), (1, l1)] σ r :=
  ⟨by rw [P_RW_refuse]; exact Nat.le_of_ble_eq_true rfl, by rw [P_RW_refuse]; exact T_RW_refuse_0 TC_RW_refuse h rfl⟩
set_option maxRecDepth 100000 in
theorem P_Field_forget : mProg 165 = (c_Field_forget, 1) := rfl
set_option maxRecDepth 100000 in
theorem TC_Field_forget : ∀ k as σ p, C_Field_forget k as σ = some p → mEx 0 k as σ p := by
  intro k as σ p hp
  cases hp
set_option maxRecDepth 100000 in
theorem T_Field_forget_0 {d : Nat} (hC : ∀ k as σ p, C_Field_forget k as σ = some p → mEx d k as σ p) {l0 : Int} {σ : mS} {b : Int × mS} {r : Int × mS} (h : M_Field_forget l0 σ = some b) (hk : (fun b r => r = b) b r) : mG (d + 1) 165 0 (mInit 1 [(3, l0)]) [] σ r := by
  refine mblk_ok1 P_Field_forget (F := F_Field_forget_0) (fun b r => r = b) hC ?_ (fun v σ b r hb hk => by cases hb; exact hk) _ 0 (mInit 1 [(3, l0)]) [] σ b r ((E_Field_forget_0 l0 σ).trans h) hk
  intro i L st σ b r hb hk
  cases hb
set_option maxRecDepth 100000 in
theorem T_Field_forget {l0 : Int} {σ : mS} {r : Int × mS} (h : M_Field_forget l0 σ = some r) : mEx 1 165 [(3, l0)] σ r :=
  ⟨by rw [P_Field_forget]; exact Nat.le_of_ble_eq_true rfl, by rw [P_Field_forget]; exact T_Field_forget_0 TC_Field_forget h rfl⟩
set_option maxRecDepth 100000 in
theorem P_RW_accept : mProg 46 = (c_RW_accept, 2) := rfl
set_option maxRecDepth 100000 in
theorem TC_RW_accept : ∀ k as σ p, C_RW_accept k as σ = some p → mEx 1 k as σ p := by
  intro k as σ p hp
  unfold C_RW_accept at hp
  split at hp
  · exact (T_Field_forget hp).up (Nat.le_of_ble_eq_true rfl)
  · cases hp
set_option maxRecDepth 100000 in
theorem T_RW_accept_0 {d : Nat} (hC : ∀ k as σ p, C_RW_accept k as σ = some p → mEx d k as σ p) {l0 l1 : Int} {σ : mS} {b : Int × mS} {r : Int × mS} (h : M_RW_accept l0 l1 σ = some b) (hk : (fun b r => r = b) b r) : mG (d + 1) 46 0 (mInit 2 [(3, l0), (1, l1)]) [] σ r := by
  refine mblk_ok1 P_RW_accept (F := F_RW_accept_0) (fun b r => r = b) hC ?_ (fun v σ b r hb hk => by cases hb; exact hk) _ 0 (mInit 2 [(3, l0), (1, l1)]) [] σ b r ((E_RW_accept_0 l0 l1 σ).trans h) hk
  intro i L st σ b r hb hk
  cases hb
set_option maxRecDepth 100000 in
theorem T_RW_accept {l0 l1 : Int} {σ : mS} {r : Int × mS} (h : M_RW_accept l0 l1 σ = some r) : mEx 2 46 [(3, l0), (1, l1)] σ r :=
  ⟨by rw [P_RW_accept]; exact Nat.le_of_ble_eq_true rfl, by rw [P_RW_accept]; exact T_RW_accept_0 TC_RW_accept h rfl⟩
set_option maxRecDepth 100000 in
theorem P_RW_isPlace : mProg 48 = (c_RW_isPlace, 1) := rfl
set_option maxRecDepth 100000 in
theorem TC_RW_isPlace : ∀ k as σ p, C_RW_isPlace k as σ = some p → mEx 1 k as σ p := by
  intro k as σ p hp
  unfold C_RW_isPlace at hp
  split at hp
  · exact (T_RW_isWithin hp).up (Nat.le_of_ble_eq_true rfl)
  · cases hp
set_option maxRecDepth 100000 in
theorem T_RW_isPlace_0 {d : Nat} (hC : ∀ k as σ p, C_RW_isPlace k as σ = some p → mEx d k as σ p) {l0 : Int} {σ : mS} {b : Int × mS} {r : Int × mS} (h : M_RW_isPlace l0 σ = some b) (hk : (fun b r => r = b) b r) : mG (d + 1) 48 0 (mInit 1 [(1, l0)]) [] σ r := by
  refine mblk_ok1 P_RW_isPlace (F := F_RW_isPlace_0) (fun b r => r = b) hC ?_ (fun v σ b r hb hk => by cases hb; exact hk) _ 0 (mInit 1 [(1, l0)]) [] σ b r ((E_RW_isPlace_0 l0 σ).trans h) hk
  intro i L st σ b r hb hk
  cases hb
set_option maxRecDepth 100000 in
theorem T_RW_isPlace {l0 : Int} {σ : mS} {r : Int × mS} (h : M_RW_isPlace l0 σ = some r) : mEx 2 48 [(1, l0)] σ r :=
  ⟨by rw [P_RW_isPlace]; exact Nat.le_of_ble_eq_true rfl, by rw [P_RW_isPlace]; exact T_RW_isPlace_0 TC_RW_isPlace h rfl⟩
set_option maxRecDepth 100000 in
theorem P_Air_forgetPlace : mProg 156 = (c_Air_forgetPlace, 2) := rfl
set_option maxRecDepth 100000 in
theorem TC_Air_forgetPlace : ∀ k as σ p, C_Air_forgetPlace k as σ = some p → mEx 0 k as σ p := by
  intro k as σ p hp
  cases hp
set_option maxRecDepth 100000 in
theorem T_Air_forgetPlace_0 {d : Nat} (hC : ∀ k as σ p, C_Air_forgetPlace k as σ = some p → mEx d k as σ p) {l0 l1 : Int} {σ : mS} {b : Int × mS} {r : Int × mS} (h : M_Air_forgetPlace l0 l1 σ = some b) (hk : (fun b r => r = b) b r) : mG (d + 1) 156 0 (mInit 2 [(3, l0), (1, l1)]) [] σ r := by
  refine mblk_ok1 P_Air_forgetPlace (F := F_Air_forgetPlace_0) (fun b r => r = b) hC ?_ (fun v σ b r hb hk => by cases hb; exact hk) _ 0 (mInit 2 [(3, l0), (1, l1)]) [] σ b r ((E_Air_forgetPlace_0 l0 l1 σ).trans h) hk
  intro i L st σ b r hb hk
  cases hb
set_option maxRecDepth 100000 in
theorem T_Air_forgetPlace {l0 l1 : Int} {σ : mS} {r : Int × mS} (h : M_Air_forgetPlace l0 l1 σ = some r) : mEx 1 156 [(3, l0), (1, l1)] σ r :=
  ⟨by rw [P_Air_forgetPlace]; exact Nat.le_of_ble_eq_true rfl, by rw [P_Air_forgetPlace]; exact T_Air_forgetPlace_0 TC_Air_forgetPlace h rfl⟩
set_option maxRecDepth 100000 in
theorem P_RW_rise : mProg 1 = (c_RW_rise, 4) := rfl
set_option maxRecDepth 100000 in
theorem TC_RW_rise : ∀ k as σ p, C_RW_rise k as σ = some p → mEx 2 k as σ p := by
  intro k as σ p hp
  unfold C_RW_rise at hp
  split at hp
  · exact (T_RW_refuse hp).up (Nat.le_of_ble_eq_true rfl)
  · exact (T_RW_accept hp).up (Nat.le_of_ble_eq_true rfl)
  · exact (T_RW_isWithin hp).up (Nat.le_of_ble_eq_true rfl)
  · exact (T_RW_isPlace hp).up (Nat.le_of_ble_eq_true rfl)
  · exact (T_Air_forgetPlace hp).up (Nat.le_of_ble_eq_true rfl)
  · cases hp
set_option maxRecDepth 100000 in
theorem T_RW_rise_0 {d : Nat} (hC : ∀ k as σ p, C_RW_rise k as σ = some p → mEx d k as σ p) {l0 l1 l2 : Int} {σ : mS} {b : Int × mS} {r : Int × mS} (h : M_RW_rise l0 l1 l2 σ = some b) (hk : (fun b r => r = b) b r) : mG (d + 1) 1 0 (mInit 4 [(3, l0), (1, l1), (1, l2)]) [] σ r := by
  refine mblk_ok1 P_RW_rise (F := F_RW_rise_0) (fun b r => r = b) hC ?_ (fun v σ b r hb hk => by cases hb; exact hk) _ 0 (mInit 4 [(3, l0), (1, l1), (1, l2)]) [] σ b r ((E_RW_rise_0 l0 l1 l2 σ).trans h) hk
  intro i L st σ b r hb hk
  cases hb
set_option maxRecDepth 100000 in
theorem T_RW_rise {l0 l1 l2 : Int} {σ : mS} {r : Int × mS} (h : M_RW_rise l0 l1 l2 σ = some r) : mEx 3 1 [(3, l0), (1, l1), (1, l2)] σ r :=
  ⟨by rw [P_RW_rise]; exact Nat.le_of_ble_eq_true rfl, by rw [P_RW_rise]; exact T_RW_rise_0 TC_RW_rise h rfl⟩
set_option maxRecDepth 100000 in
theorem P_RW_ground : mProg 2 = (c_RW_ground, 6) := rfl
set_option maxRecDepth 100000 in
theorem TC_RW_ground : ∀ k as σ p, C_RW_ground k as σ = some p → mEx 2 k as σ p := by
  intro k as σ p hp
  unfold C_RW_ground at hp
  split at hp
  · exact (T_RW_refuse hp).up (Nat.le_of_ble_eq_true rfl)
  · exact (T_RW_accept hp).up (Nat.le_of_ble_eq_true rfl)
  · exact (T_RW_isWithin hp).up (Nat.le_of_ble_eq_true rfl)
  · exact (T_RW_isPlace hp).up (Nat.le_of_ble_eq_true rfl)
  · exact (T_Air_forgetPlace hp).up (Nat.le_of_ble_eq_true rfl)
  · cases hp
set_option maxRecDepth 100000 in
theorem TB_RW_ground_22 {d : Nat} (hC : ∀ k as σ p, C_RW_ground k as σ = some p → mEx d k as σ p) {l0 l2 l3 l4 l5 : Int} {σ : mS} {b : ((Int × Int × mS) ⊕ (Int × mS))} {r : Int × mS} (h : B_RW_ground_22 l0 l2 l3 l4 l5 σ = some b) (hk : (Sum.elim (fun (s : Int × Int × mS) r => mG (d + 1) 2 22 [(3, l0), (0, 0), (1, l2), (1, l3), (1, s.1), (1, s.2.1)] [] s.2.2 r) (fun b r => r = b)) b r) : mG (d + 1) 2 22 [(3, l0), (0, 0), (1, l2), (1, l3), (1, l4), (1, l5)] [] σ r := by
  refine mblk_ok2 P_RW_ground (F := F_RW_ground_22) (Sum.elim (fun (s : Int × Int × mS) r => mG (d + 1) 2 22 [(3, l0), (0, 0), (1, l2), (1, l3), (1, s.1), (1, s.2.1)] [] s.2.2 r) (fun b r => r = b)) [([(22, 44)], [0, 2, 3])] [(22, 48)] [(3, l0), (0, 0), (1, l2), (1, l3), (1, l4), (1, l5)] (by decide +kernel) rfl hC ?_ (fun v σ b r hb hk => by cases hb; exact hk) _ 22 [(3, l0), (0, 0), (1, l2), (1, l3), (1, l4), (1, l5)] [] σ b r rfl (mJ_self _ _ _) ((E_RW_ground_22 l0 l2 l3 l4 l5 σ).trans h) hk
  intro i L st σ b r hj hb hk
  unfold F_RW_ground_22 at hb
  split at hb
  · have key : ∀ (k0 k2 k3 k4 k5 : Int) (k1 : mV) (σ : mS) (b : ((Int × Int × mS) ⊕ (Int × mS))) (r : Int × mS), mJ [(3, l0), (0, 0), (1, l2), (1, l3), (1, l4), (1, l5)] 22 [(3, k0), k1, (1, k2), (1, k3), (1, k4), (1, k5)] [([(22, 44)], [0, 2, 3])] → (some (.inl (k4, k5, σ))) = some b → (Sum.elim (fun (s : Int × Int × mS) r => mG (d + 1) 2 22 [(3, l0), (0, 0), (1, l2), (1, l3), (1, s.1), (1, s.2.1)] [] s.2.2 r) (fun b r => r = b)) b r → mG (d + 1) 2 22 [(3, k0), k1, (1, k2), (1, k3), (1, k4), (1, k5)] [] σ r := by
      intro k0 k2 k3 k4 k5 k1 σ b r hj hb hk
      have e0 : k0 = l0 := (Prod.mk.inj (Option.some.inj ((hj.1 rfl).1))).2
      subst e0
      have e2 : k2 = l2 := (Prod.mk.inj (Option.some.inj ((hj.1 rfl).2.1))).2
      subst e2
      have e3 : k3 = l3 := (Prod.mk.inj (Option.some.inj ((hj.1 rfl).2.2.1))).2
      subst e3
      cases hb
      exact mG.lle hk (lle_cons (lle_dead (lle_cons (lle_cons (lle_cons (lle_cons lle_nil))))))
    exact key _ _ _ _ _ _ σ b r hj hb hk
  · cases hb
set_option maxRecDepth 100000 in
theorem T_RW_ground_22 {d : Nat} (hC : ∀ k as σ p, C_RW_ground k as σ = some p → mEx d k as σ p) {l0 l2 l3 l4 l5 : Int} {σ : mS} {b : Int × mS} {r : Int × mS} (h : M_RW_ground_22 l0 l2 l3 l4 l5 σ = some b) (hk : (fun b r => r = b) b r) : mG (d + 1) 2 22 [(3, l0), (0, 0), (1, l2), (1, l3), (1, l4), (1, l5)] [] σ r :=
  miter_ok (G := fun (s : Int × Int × mS) r => mG (d + 1) 2 22 [(3, l0), (0, 0), (1, l2), (1, l3), (1, s.1), (1, s.2.1)] [] s.2.2 r) (K := (fun b r => r = b)) (fun s x r hs hx => TB_RW_ground_22 hC hs hx) mN _ b r h hk
set_option maxRecDepth 100000 in
theorem T_RW_ground_0 {d : Nat} (hC : ∀ k as σ p, C_RW_ground k as σ = some p → mEx d k as σ p) {l0 l1 l2 l3 : Int} {σ : mS} {b : Int × mS} {r : Int × mS} (h : M_RW_ground l0 l1 l2 l3 σ = some b) (hk : (fun b r => r = b) b r) : mG (d + 1) 2 0 (mInit 6 [(3, l0), (1, l1), (1, l2), (1, l3)]) [] σ r := by
  refine mblk_ok1 P_RW_ground (F := F_RW_ground_0) (fun b r => r = b) hC ?_ (fun v σ b r hb hk => by cases hb; exact hk) _ 0 (mInit 6 [(3, l0), (1, l1), (1, l2), (1, l3)]) [] σ b r ((E_RW_ground_0 l0 l1 l2 l3 σ).trans h) hk
  intro i L st σ b r hb hk
  unfold F_RW_ground_0 at hb
  split at hb
  · have key : ∀ (k0 k2 k3 k4 k5 : Int) (k1 : mV) (σ : mS) (b : Int × mS) (r : Int × mS), (M_RW_ground_22 k0 k2 k3 k4 k5 σ) = some b → (fun b r => r = b) b r → mG (d + 1) 2 22 [(3, k0), k1, (1, k2), (1, k3), (1, k4), (1, k5)] [] σ r := by
      intro k0 k2 k3 k4 k5 k1 σ b r hb hk
      exact (T_RW_ground_22 hC hb hk).lle (lle_cons (lle_dead (lle_cons (lle_cons (lle_cons (lle_cons lle_nil))))))
    exact key _ _ _ _ _ _ σ b r hb hk
  · cases hb
set_option maxRecDepth 100000 in
theorem T_RW_ground {l0 l1 l2 l3 : Int} {σ : mS} {r : Int × mS} (h : M_RW_ground l0 l1 l2 l3 σ = some r) : mEx 3 2 [(3, l0), (1, l1), (1, l2), (1, l3)] σ r :=
  ⟨by rw [P_RW_ground]; exact Nat.le_of_ble_eq_true rfl, by rw [P_RW_ground]; exact T_RW_ground_0 TC_RW_ground h rfl⟩
set_option maxRecDepth 100000 in
theorem P_RW_isTall : mProg 50 = (c_RW_isTall, 1) := rfl
set_option maxRecDepth 100000 in
theorem TC_RW_isTall : ∀ k as σ p, C_RW_isTall k as σ = some p → mEx 1 k as σ p := by
  intro k as σ p hp
  unfold C_RW_isTall at hp
  split at hp
  · exact (T_RW_isWithin hp).up (Nat.le_of_ble_eq_true rfl)
  · cases hp
set_option maxRecDepth 100000 in
theorem T_RW_isTall_0 {d : Nat} (hC : ∀ k as σ p, C_RW_isTall k as σ = some p → mEx d k as σ p) {l0 : Int} {σ : mS} {b : Int × mS} {r : Int × mS} (h : M_RW_isTall l0 σ = some b) (hk : (fun b r => r = b) b r) : mG (d + 1) 50 0 (mInit 1 [(1, l0)]) [] σ r := by
  refine mblk_ok1 P_RW_isTall (F := F_RW_isTall_0) (fun b r => r = b) hC ?_ (fun v σ b r hb hk => by cases hb; exact hk) _ 0 (mInit 1 [(1, l0)]) [] σ b r ((E_RW_isTall_0 l0 σ).trans h) hk
  intro i L st σ b r hb hk
  cases hb
set_option maxRecDepth 100000 in
theorem T_RW_isTall {l0 : Int} {σ : mS} {r : Int × mS} (h : M_RW_isTall l0 σ = some r) : mEx 2 50 [(1, l0)] σ r :=
  ⟨by rw [P_RW_isTall]; exact Nat.le_of_ble_eq_true rfl, by rw [P_RW_isTall]; exact T_RW_isTall_0 TC_RW_isTall h rfl⟩
set_option maxRecDepth 100000 in
theorem P_RW_thing : mProg 3 = (c_RW_thing, 4) := rfl
set_option maxRecDepth 100000 in
theorem TC_RW_thing : ∀ k as σ p, C_RW_thing k as σ = some p → mEx 2 k as σ p := by
  intro k as σ p hp
  unfold C_RW_thing at hp
  split at hp
  · exact (T_RW_refuse hp).up (Nat.le_of_ble_eq_true rfl)
  · exact (T_RW_accept hp).up (Nat.le_of_ble_eq_true rfl)
  · exact (T_RW_isPlace hp).up (Nat.le_of_ble_eq_true rfl)
  · exact (T_RW_isTall hp).up (Nat.le_of_ble_eq_true rfl)
  · cases hp
set_option maxRecDepth 100000 in
theorem T_RW_thing_0 {d : Nat} (hC : ∀ k as σ p, C_RW_thing k as σ = some p → mEx d k as σ p) {l0 l1 l2 : Int} {σ : mS} {b : Int × mS} {r : Int × mS} (h : M_RW_thing l0 l1 l2 σ = some b) (hk : (fun b r => r = b) b r) : mG (d + 1) 3 0 (mInit 4 [(3, l0), (1, l1), (1, l2)]) [] σ r := by
  refine mblk_ok1 P_RW_thing (F := F_RW_thing_0) (fun b r => r = b) hC ?_ (fun v σ b r hb hk => by cases hb; exact hk) _ 0 (mInit 4 [(3, l0), (1, l1), (1, l2)]) [] σ b r ((E_RW_thing_0 l0 l1 l2 σ).trans h) hk
  intro i L st σ b r hb hk
  cases hb
set_option maxRecDepth 100000 in
theorem T_RW_thing {l0 l1 l2 : Int} {σ : mS} {r : Int × mS} (h : M_RW_thing l0 l1 l2 σ = some r) : mEx 3 3 [(3, l0), (1, l1), (1, l2)] σ r :=
  ⟨by rw [P_RW_thing]; exact Nat.le_of_ble_eq_true rfl, by rw [P_RW_thing]; exact T_RW_thing_0 TC_RW_thing h rfl⟩
set_option maxRecDepth 100000 in
theorem P_Road_hasThing : mProg 222 = (c_Road_hasThing, 2) := rfl
set_option maxRecDepth 100000 in
theorem TC_Road_hasThing : ∀ k as σ p, C_Road_hasThing k as σ = some p → mEx 0 k as σ p := by
  intro k as σ p hp
  cases hp
set_option maxRecDepth 100000 in
theorem T_Road_hasThing_0 {d : Nat} (hC : ∀ k as σ p, C_Road_hasThing k as σ = some p → mEx d k as σ p) {l0 l1 : Int} {σ : mS} {b : Int × mS} {r : Int × mS} (h : M_Road_hasThing l0 l1 σ = some b) (hk : (fun b r => r = b) b r) : mG (d + 1) 222 0 (mInit 2 [(3, l0), (1, l1)]) [] σ r := by
  refine mblk_ok1 P_Road_hasThing (F := F_Road_hasThing_0) (fun b r => r = b) hC ?_ (fun v σ b r hb hk => by cases hb; exact hk) _ 0 (mInit 2 [(3, l0), (1, l1)]) [] σ b r ((E_Road_hasThing_0 l0 l1 σ).trans h) hk
  intro i L st σ b r hb hk
  cases hb
set_option maxRecDepth 100000 in
theorem T_Road_hasThing {l0 l1 : Int} {σ : mS} {r : Int × mS} (h : M_Road_hasThing l0 l1 σ = some r) : mEx 1 222 [(3, l0), (1, l1)] σ r :=
  ⟨by rw [P_Road_hasThing]; exact Nat.le_of_ble_eq_true rfl, by rw [P_Road_hasThing]; exact T_Road_hasThing_0 TC_Road_hasThing h rfl⟩
set_option maxRecDepth 100000 in
theorem P_RW_move : mProg 4 = (c_RW_move, 5) := rfl
set_option maxRecDepth 100000 in
theorem TC_RW_move : ∀ k as σ p, C_RW_move k as σ = some p → mEx 2 k as σ p := by
  intro k as σ p hp
  unfold C_RW_move at hp
  split at hp
  · exact (T_RW_refuse hp).up (Nat.le_of_ble_eq_true rfl)
  · exact (T_RW_accept hp).up (Nat.le_of_ble_eq_true rfl)
  · exact (T_RW_isPlace hp).up (Nat.le_of_ble_eq_true rfl)
  · exact (T_Road_hasThing hp).up (Nat.le_of_ble_eq_true rfl)
  · cases hp
set_option maxRecDepth 100000 in
theorem T_RW_move_32 {d : Nat} (hC : ∀ k as σ p, C_RW_move k as σ = some p → mEx d k as σ p) {l0 l1 l2 : Int} {σ : mS} {b : Int × mS} {r : Int × mS} (h : M_RW_move_32 l0 l1 l2 σ = some b) (hk : (fun b r => r = b) b r) : mG (d + 1) 4 32 [(3, l0), (1, l1), (1, l2), (0, 0), (0, 0)] [] σ r := by
  refine mblk_ok1 P_RW_move (F := F_RW_move_32) (fun b r => r = b) hC ?_ (fun v σ b r hb hk => by cases hb; exact hk) _ 32 [(3, l0), (1, l1), (1, l2), (0, 0), (0, 0)] [] σ b r ((E_RW_move_32 l0 l1 l2 σ).trans h) hk
  intro i L st σ b r hb hk
  cases hb
set_option maxRecDepth 100000 in
theorem T_RW_move_0 {d : Nat} (hC : ∀ k as σ p, C_RW_move k as σ = some p → mEx d k as σ p) {l0 l1 l2 : Int} {σ : mS} {b : Int × mS} {r : Int × mS} (h : M_RW_move l0 l1 l2 σ = some b) (hk : (fun b r => r = b) b r) : mG (d + 1) 4 0 (mInit 5 [(3, l0), (1, l1), (1, l2)]) [] σ r := by
  refine mblk_ok1 P_RW_move (F := F_RW_move_0) (fun b r => r = b) hC ?_ (fun v σ b r hb hk => by cases hb; exact hk) _ 0 (mInit 5 [(3, l0), (1, l1), (1, l2)]) [] σ b r ((E_RW_move_0 l0 l1 l2 σ).trans h) hk
  intro i L st σ b r hb hk
  unfold F_RW_move_0 at hb
  split at hb
  · have key : ∀ (k0 k1 k2 : Int) (k3 k4 : mV) (σ : mS) (b : Int × mS) (r : Int × mS), (M_RW_move_32 k0 k1 k2 σ) = some b → (fun b r => r = b) b r → mG (d + 1) 4 32 [(3, k0), (1, k1), (1, k2), k3, k4] [] σ r := by
      intro k0 k1 k2 k3 k4 σ b r hb hk
      exact (T_RW_move_32 hC hb hk).lle (lle_cons (lle_cons (lle_cons (lle_dead (lle_dead lle_nil)))))
    exact key _ _ _ _ _ σ b r hb hk
  · cases hb
set_option maxRecDepth 100000 in
theorem T_RW_move {l0 l1 l2 : Int} {σ : mS} {r : Int × mS} (h : M_RW_move l0 l1 l2 σ = some r) : mEx 3 4 [(3, l0), (1, l1), (1, l2)] σ r :=
  ⟨by rw [P_RW_move]; exact Nat.le_of_ble_eq_true rfl, by rw [P_RW_move]; exact T_RW_move_0 TC_RW_move h rfl⟩
set_option maxRecDepth 100000 in
theorem P_Road_inchesThere : mProg 223 = (c_Road_inchesThere, 2) := rfl
set_option maxRecDepth 100000 in
theorem TC_Road_inchesThere : ∀ k as σ p, C_Road_inchesThere k as σ = some p → mEx 0 k as σ p := by
  intro k as σ p hp
  cases hp
set_option maxRecDepth 100000 in
theorem T_Road_inchesThere_0 {d : Nat} (hC : ∀ k as σ p, C_Road_inchesThere k as σ = some p → mEx d k as σ p) {l0 l1 : Int} {σ : mS} {b : Int × mS} {r : Int × mS} (h : M_Road_inchesThere l0 l1 σ = some b) (hk : (fun b r => r = b) b r) : mG (d + 1) 223 0 (mInit 2 [(3, l0), (1, l1)]) [] σ r := by
  refine mblk_ok1 P_Road_inchesThere (F := F_Road_inchesThere_0) (fun b r => r = b) hC ?_ (fun v σ b r hb hk => by cases hb; exact hk) _ 0 (mInit 2 [(3, l0), (1, l1)]) [] σ b r ((E_Road_inchesThere_0 l0 l1 σ).trans h) hk
  intro i L st σ b r hb hk
  cases hb
set_option maxRecDepth 100000 in
theorem T_Road_inchesThere {l0 l1 : Int} {σ : mS} {r : Int × mS} (h : M_Road_inchesThere l0 l1 σ = some r) : mEx 1 223 [(3, l0), (1, l1)] σ r :=
  ⟨by rw [P_Road_inchesThere]; exact Nat.le_of_ble_eq_true rfl, by rw [P_Road_inchesThere]; exact T_Road_inchesThere_0 TC_Road_inchesThere h rfl⟩
set_option maxRecDepth 100000 in
theorem P_RW_of : mProg 5 = (c_RW_of, 3) := rfl
set_option maxRecDepth 100000 in
theorem TC_RW_of : ∀ k as σ p, C_RW_of k as σ = some p → mEx 1 k as σ p := by
  intro k as σ p hp
  unfold C_RW_of at hp
  split at hp
  · exact (T_Road_hasThing hp).up (Nat.le_of_ble_eq_true rfl)
  · exact (T_Road_inchesThere hp).up (Nat.le_of_ble_eq_true rfl)
  · cases hp
set_option maxRecDepth 100000 in
theorem T_RW_of_0 {d : Nat} (hC : ∀ k as σ p, C_RW_of k as σ = some p → mEx d k as σ p) {l0 l1 l2 : Int} {σ : mS} {b : Int × mS} {r : Int × mS} (h : M_RW_of l0 l1 l2 σ = some b) (hk : (fun b r => r = b) b r) : mG (d + 1) 5 0 (mInit 3 [(3, l0), (1, l1), (1, l2)]) [] σ r := by
  refine mblk_ok1 P_RW_of (F := F_RW_of_0) (fun b r => r = b) hC ?_ (fun v σ b r hb hk => by cases hb; exact hk) _ 0 (mInit 3 [(3, l0), (1, l1), (1, l2)]) [] σ b r ((E_RW_of_0 l0 l1 l2 σ).trans h) hk
  intro i L st σ b r hb hk
  cases hb
set_option maxRecDepth 100000 in
theorem T_RW_of {l0 l1 l2 : Int} {σ : mS} {r : Int × mS} (h : M_RW_of l0 l1 l2 σ = some r) : mEx 2 5 [(3, l0), (1, l1), (1, l2)] σ r :=
  ⟨by rw [P_RW_of]; exact Nat.le_of_ble_eq_true rfl, by rw [P_RW_of]; exact T_RW_of_0 TC_RW_of h rfl⟩
set_option maxRecDepth 100000 in
theorem P_RW_terms : mProg 6 = (c_RW_terms, 4) := rfl
set_option maxRecDepth 100000 in
theorem TC_RW_terms : ∀ k as σ p, C_RW_terms k as σ = some p → mEx 2 k as σ p := by
  intro k as σ p hp
  unfold C_RW_terms at hp
  split at hp
  · exact (T_RW_refuse hp).up (Nat.le_of_ble_eq_true rfl)
  · exact (T_RW_accept hp).up (Nat.le_of_ble_eq_true rfl)
  · exact (T_RW_isWithin hp).up (Nat.le_of_ble_eq_true rfl)
  · cases hp
set_option maxRecDepth 100000 in
theorem T_RW_terms_0 {d : Nat} (hC : ∀ k as σ p, C_RW_terms k as σ = some p → mEx d k as σ p) {l0 l1 l2 : Int} {σ : mS} {b : Int × mS} {r : Int × mS} (h : M_RW_terms l0 l1 l2 σ = some b) (hk : (fun b r => r = b) b r) : mG (d + 1) 6 0 (mInit 4 [(3, l0), (1, l1), (1, l2)]) [] σ r := by
  refine mblk_ok1 P_RW_terms (F := F_RW_terms_0) (fun b r => r = b) hC ?_ (fun v σ b r hb hk => by cases hb; exact hk) _ 0 (mInit 4 [(3, l0), (1, l1), (1, l2)]) [] σ b r ((E_RW_terms_0 l0 l1 l2 σ).trans h) hk
  intro i L st σ b r hb hk
  cases hb
set_option maxRecDepth 100000 in
theorem T_RW_terms {l0 l1 l2 : Int} {σ : mS} {r : Int × mS} (h : M_RW_terms l0 l1 l2 σ = some r) : mEx 3 6 [(3, l0), (1, l1), (1, l2)] σ r :=
  ⟨by rw [P_RW_terms]; exact Nat.le_of_ble_eq_true rfl, by rw [P_RW_terms]; exact T_RW_terms_0 TC_RW_terms h rfl⟩
set_option maxRecDepth 100000 in
theorem P_Tape_append : mProg 236 = (c_Tape_append, 3) := rfl
set_option maxRecDepth 100000 in
theorem TC_Tape_append : ∀ k as σ p, C_Tape_append k as σ = some p → mEx 0 k as σ p := by
  intro k as σ p hp
  cases hp
set_option maxRecDepth 100000 in
theorem TB_Tape_append_2 {d : Nat} (hC : ∀ k as σ p, C_Tape_append k as σ = some p → mEx d k as σ p) {l0 l1 l2 : Int} {σ : mS} {b : ((Int × mS) ⊕ (Int × mS))} {r : Int × mS} (h : B_Tape_append_2 l0 l1 l2 σ = some b) (hk : (Sum.elim (fun (s : Int × mS) r => mG (d + 1) 236 2 [(3, l0), (1, l1), (1, s.1)] [] s.2 r) (fun b r => r = b)) b r) : mG (d + 1) 236 2 [(3, l0), (1, l1), (1, l2)] [] σ r := by
  refine mblk_ok2 P_Tape_append (F := F_Tape_append_2) (Sum.elim (fun (s : Int × mS) r => mG (d + 1) 236 2 [(3, l0), (1, l1), (1, s.1)] [] s.2 r) (fun b r => r = b)) [([(2, 25)], [0, 1])] [(2, 26)] [(3, l0), (1, l1), (1, l2)] (by decide +kernel) rfl hC ?_ (fun v σ b r hb hk => by cases hb; exact hk) _ 2 [(3, l0), (1, l1), (1, l2)] [] σ b r rfl (mJ_self _ _ _) ((E_Tape_append_2 l0 l1 l2 σ).trans h) hk
  intro i L st σ b r hj hb hk
  unfold F_Tape_append_2 at hb
  split at hb
  · have key : ∀ (k0 k1 k2 : Int) (σ : mS) (b : ((Int × mS) ⊕ (Int × mS))) (r : Int × mS), mJ [(3, l0), (1, l1), (1, l2)] 2 [(3, k0), (1, k1), (1, k2)] [([(2, 25)], [0, 1])] → (some (.inl (k2, σ))) = some b → (Sum.elim (fun (s : Int × mS) r => mG (d + 1) 236 2 [(3, l0), (1, l1), (1, s.1)] [] s.2 r) (fun b r => r = b)) b r → mG (d + 1) 236 2 [(3, k0), (1, k1), (1, k2)] [] σ r := by
      intro k0 k1 k2 σ b r hj hb hk
      have e0 : k0 = l0 := (Prod.mk.inj (Option.some.inj ((hj.1 rfl).1))).2
      subst e0
      have e1 : k1 = l1 := (Prod.mk.inj (Option.some.inj ((hj.1 rfl).2.1))).2
      subst e1
      cases hb
      exact mG.lle hk (lle_cons (lle_cons (lle_cons lle_nil)))
    exact key _ _ _ σ b r hj hb hk
  · cases hb
set_option maxRecDepth 100000 in
theorem T_Tape_append_2 {d : Nat} (hC : ∀ k as σ p, C_Tape_append k as σ = some p → mEx d k as σ p) {l0 l1 l2 : Int} {σ : mS} {b : Int × mS} {r : Int × mS} (h : M_Tape_append_2 l0 l1 l2 σ = some b) (hk : (fun b r => r = b) b r) : mG (d + 1) 236 2 [(3, l0), (1, l1), (1, l2)] [] σ r :=
  miter_ok (G := fun (s : Int × mS) r => mG (d + 1) 236 2 [(3, l0), (1, l1), (1, s.1)] [] s.2 r) (K := (fun b r => r = b)) (fun s x r hs hx => TB_Tape_append_2 hC hs hx) mN _ b r h hk
set_option maxRecDepth 100000 in
theorem T_Tape_append_0 {d : Nat} (hC : ∀ k as σ p, C_Tape_append k as σ = some p → mEx d k as σ p) {l0 l1 : Int} {σ : mS} {b : Int × mS} {r : Int × mS} (h : M_Tape_append l0 l1 σ = some b) (hk : (fun b r => r = b) b r) : mG (d + 1) 236 0 (mInit 3 [(3, l0), (1, l1)]) [] σ r := by
  refine mblk_ok1 P_Tape_append (F := F_Tape_append_0) (fun b r => r = b) hC ?_ (fun v σ b r hb hk => by cases hb; exact hk) _ 0 (mInit 3 [(3, l0), (1, l1)]) [] σ b r ((E_Tape_append_0 l0 l1 σ).trans h) hk
  intro i L st σ b r hb hk
  unfold F_Tape_append_0 at hb
  split at hb
  · have key : ∀ (k0 k1 k2 : Int) (σ : mS) (b : Int × mS) (r : Int × mS), (M_Tape_append_2 k0 k1 k2 σ) = some b → (fun b r => r = b) b r → mG (d + 1) 236 2 [(3, k0), (1, k1), (1, k2)] [] σ r := by
      intro k0 k1 k2 σ b r hb hk
      exact (T_Tape_append_2 hC hb hk).lle (lle_cons (lle_cons (lle_cons lle_nil)))
    exact key _ _ _ σ b r hb hk
  · cases hb
set_option maxRecDepth 100000 in
theorem T_Tape_append {l0 l1 : Int} {σ : mS} {r : Int × mS} (h : M_Tape_append l0 l1 σ = some r) : mEx 1 236 [(3, l0), (1, l1)] σ r :=
  ⟨by rw [P_Tape_append]; exact Nat.le_of_ble_eq_true rfl, by rw [P_Tape_append]; exact T_Tape_append_0 TC_Tape_append h rfl⟩
set_option maxRecDepth 100000 in
theorem P_RW_feed : mProg 7 = (c_RW_feed, 6) := rfl
set_option maxRecDepth 100000 in
theorem TC_RW_feed : ∀ k as σ p, C_RW_feed k as σ = some p → mEx 1 k as σ p := by
  intro k as σ p hp
  unfold C_RW_feed at hp
  split at hp
  · exact (T_Tape_append hp).up (Nat.le_of_ble_eq_true rfl)
  · cases hp
set_option maxRecDepth 100000 in
theorem T_RW_feed_0 {d : Nat} (hC : ∀ k as σ p, C_RW_feed k as σ = some p → mEx d k as σ p) {l0 l1 l2 l3 l4 l5 : Int} {σ : mS} {b : Int × mS} {r : Int × mS} (h : M_RW_feed l0 l1 l2 l3 l4 l5 σ = some b) (hk : (fun b r => r = b) b r) : mG (d + 1) 7 0 (mInit 6 [(3, l0), (1, l1), (1, l2), (1, l3), (1, l4), (1, l5)]) [] σ r := by
  refine mblk_ok1 P_RW_feed (F := F_RW_feed_0) (fun b r => r = b) hC ?_ (fun v σ b r hb hk => by cases hb; exact hk) _ 0 (mInit 6 [(3, l0), (1, l1), (1, l2), (1, l3), (1, l4), (1, l5)]) [] σ b r ((E_RW_feed_0 l0 l1 l2 l3 l4 l5 σ).trans h) hk
  intro i L st σ b r hb hk
  cases hb
set_option maxRecDepth 100000 in
theorem T_RW_feed {l0 l1 l2 l3 l4 l5 : Int} {σ : mS} {r : Int × mS} (h : M_RW_feed l0 l1 l2 l3 l4 l5 σ = some r) : mEx 2 7 [(3, l0), (1, l1), (1, l2), (1, l3), (1, l4), (1, l5)] σ r :=
  ⟨by rw [P_RW_feed]; exact Nat.le_of_ble_eq_true rfl, by rw [P_RW_feed]; exact T_RW_feed_0 TC_RW_feed h rfl⟩
set_option maxRecDepth 100000 in
theorem P_RW_end : mProg 8 = (c_RW_end, 2) := rfl
set_option maxRecDepth 100000 in
theorem TC_RW_end : ∀ k as σ p, C_RW_end k as σ = some p → mEx 0 k as σ p := by
  intro k as σ p hp
  cases hp
set_option maxRecDepth 100000 in
theorem T_RW_end_0 {d : Nat} (hC : ∀ k as σ p, C_RW_end k as σ = some p → mEx d k as σ p) {l0 l1 : Int} {σ : mS} {b : Int × mS} {r : Int × mS} (h : M_RW_end l0 l1 σ = some b) (hk : (fun b r => r = b) b r) : mG (d + 1) 8 0 (mInit 2 [(3, l0), (1, l1)]) [] σ r := by
  refine mblk_ok1 P_RW_end (F := F_RW_end_0) (fun b r => r = b) hC ?_ (fun v σ b r hb hk => by cases hb; exact hk) _ 0 (mInit 2 [(3, l0), (1, l1)]) [] σ b r ((E_RW_end_0 l0 l1 σ).trans h) hk
  intro i L st σ b r hb hk
  cases hb
set_option maxRecDepth 100000 in
theorem T_RW_end {l0 l1 : Int} {σ : mS} {r : Int × mS} (h : M_RW_end l0 l1 σ = some r) : mEx 1 8 [(3, l0), (1, l1)] σ r :=
  ⟨by rw [P_RW_end]; exact Nat.le_of_ble_eq_true rfl, by rw [P_RW_end]; exact T_RW_end_0 TC_RW_end h rfl⟩
set_option maxRecDepth 100000 in
theorem P_RW_row : mProg 9 = (c_RW_row, 4) := rfl
set_option maxRecDepth 100000 in
theorem TC_RW_row : ∀ k as σ p, C_RW_row k as σ = some p → mEx 2 k as σ p := by
  intro k as σ p hp
  unfold C_RW_row at hp
  split at hp
  · exact (T_RW_refuse hp).up (Nat.le_of_ble_eq_true rfl)
  · exact (T_RW_accept hp).up (Nat.le_of_ble_eq_true rfl)
  · exact (T_RW_isWithin hp).up (Nat.le_of_ble_eq_true rfl)
  · exact (T_Air_forgetPlace hp).up (Nat.le_of_ble_eq_true rfl)
  · cases hp
set_option maxRecDepth 100000 in
theorem T_RW_row_46 {d : Nat} (hC : ∀ k as σ p, C_RW_row k as σ = some p → mEx d k as σ p) {l0 l1 l2 : Int} {σ : mS} {b : Int × mS} {r : Int × mS} (h : M_RW_row_46 l0 l1 l2 σ = some b) (hk : (fun b r => r = b) b r) : mG (d + 1) 9 46 [(3, l0), (1, l1), (1, l2), (0, 0)] [] σ r := by
  refine mblk_ok1 P_RW_row (F := F_RW_row_46) (fun b r => r = b) hC ?_ (fun v σ b r hb hk => by cases hb; exact hk) _ 46 [(3, l0), (1, l1), (1, l2), (0, 0)] [] σ b r ((E_RW_row_46 l0 l1 l2 σ).trans h) hk
  intro i L st σ b r hb hk
  cases hb
set_option maxRecDepth 100000 in
theorem TB_RW_row_14 {d : Nat} (hC : ∀ k as σ p, C_RW_row k as σ = some p → mEx d k as σ p) {l0 l1 l2 l3 : Int} {σ : mS} {b : ((Int × Int × mS) ⊕ (Int × mS))} {r : Int × mS} (h : B_RW_row_14 l0 l1 l2 l3 σ = some b) (hk : (Sum.elim (fun (s : Int × Int × mS) r => mG (d + 1) 9 14 [(3, l0), (1, l1), (1, s.1), (1, s.2.1)] [] s.2.2 r) (fun b r => r = b)) b r) : mG (d + 1) 9 14 [(3, l0), (1, l1), (1, l2), (1, l3)] [] σ r := by
  refine mblk_ok2 P_RW_row (F := F_RW_row_14) (Sum.elim (fun (s : Int × Int × mS) r => mG (d + 1) 9 14 [(3, l0), (1, l1), (1, s.1), (1, s.2.1)] [] s.2.2 r) (fun b r => r = b)) [([(14, 45)], [0, 1])] [(14, 45)] [(3, l0), (1, l1), (1, l2), (1, l3)] (by decide +kernel) rfl hC ?_ (fun v σ b r hb hk => by cases hb; exact hk) _ 14 [(3, l0), (1, l1), (1, l2), (1, l3)] [] σ b r rfl (mJ_self _ _ _) ((E_RW_row_14 l0 l1 l2 l3 σ).trans h) hk
  intro i L st σ b r hj hb hk
  unfold F_RW_row_14 at hb
  split at hb
  · have key : ∀ (k0 k1 k2 k3 : Int) (σ : mS) (b : ((Int × Int × mS) ⊕ (Int × mS))) (r : Int × mS), mJ [(3, l0), (1, l1), (1, l2), (1, l3)] 14 [(3, k0), (1, k1), (1, k2), (1, k3)] [([(14, 45)], [0, 1])] → (some (.inl (k2, k3, σ))) = some b → (Sum.elim (fun (s : Int × Int × mS) r => mG (d + 1) 9 14 [(3, l0), (1, l1), (1, s.1), (1, s.2.1)] [] s.2.2 r) (fun b r => r = b)) b r → mG (d + 1) 9 14 [(3, k0), (1, k1), (1, k2), (1, k3)] [] σ r := by
      intro k0 k1 k2 k3 σ b r hj hb hk
      have e0 : k0 = l0 := (Prod.mk.inj (Option.some.inj ((hj.1 rfl).1))).2
      subst e0
      have e1 : k1 = l1 := (Prod.mk.inj (Option.some.inj ((hj.1 rfl).2.1))).2
      subst e1
      cases hb
      exact mG.lle hk (lle_cons (lle_cons (lle_cons (lle_cons lle_nil))))
    exact key _ _ _ _ σ b r hj hb hk
  · have key : ∀ (k0 k1 k2 : Int) (k3 : mV) (σ : mS) (b : ((Int × Int × mS) ⊕ (Int × mS))) (r : Int × mS), mJ [(3, l0), (1, l1), (1, l2), (1, l3)] 46 [(3, k0), (1, k1), (1, k2), k3] [([(14, 45)], [0, 1])] → ((M_RW_row_46 k0 k1 k2 σ).bind fun z => some (.inr z)) = some b → (Sum.elim (fun (s : Int × Int × mS) r => mG (d + 1) 9 14 [(3, l0), (1, l1), (1, s.1), (1, s.2.1)] [] s.2.2 r) (fun b r => r = b)) b r → mG (d + 1) 9 46 [(3, k0), (1, k1), (1, k2), k3] [] σ r := by
      intro k0 k1 k2 k3 σ b r hj hb hk
      obtain ⟨z, hz, e⟩ := Option.bind_eq_some_iff.mp hb
      cases e
      exact (T_RW_row_46 hC hz hk).lle (lle_cons (lle_cons (lle_cons (lle_dead lle_nil))))
    exact key _ _ _ _ σ b r hj hb hk
  · cases hb
set_option maxRecDepth 100000 in
theorem T_RW_row_14 {d : Nat} (hC : ∀ k as σ p, C_RW_row k as σ = some p → mEx d k as σ p) {l0 l1 l2 l3 : Int} {σ : mS} {b : Int × mS} {r : Int × mS} (h : M_RW_row_14 l0 l1 l2 l3 σ = some b) (hk : (fun b r => r = b) b r) : mG (d + 1) 9 14 [(3, l0), (1, l1), (1, l2), (1, l3)] [] σ r :=
  miter_ok (G := fun (s : Int × Int × mS) r => mG (d + 1) 9 14 [(3, l0), (1, l1), (1, s.1), (1, s.2.1)] [] s.2.2 r) (K := (fun b r => r = b)) (fun s x r hs hx => TB_RW_row_14 hC hs hx) mN _ b r h hk
set_option maxRecDepth 100000 in
theorem T_RW_row_0 {d : Nat} (hC : ∀ k as σ p, C_RW_row k as σ = some p → mEx d k as σ p) {l0 : Int} {σ : mS} {b : Int × mS} {r : Int × mS} (h : M_RW_row l0 σ = some b) (hk : (fun b r => r = b) b r) : mG (d + 1) 9 0 (mInit 4 [(3, l0)]) [] σ r := by
  refine mblk_ok1 P_RW_row (F := F_RW_row_0) (fun b r => r = b) hC ?_ (fun v σ b r hb hk => by cases hb; exact hk) _ 0 (mInit 4 [(3, l0)]) [] σ b r ((E_RW_row_0 l0 σ).trans h) hk
  intro i L st σ b r hb hk
  unfold F_RW_row_0 at hb
  split at hb
  · have key : ∀ (k0 k1 k2 k3 : Int) (σ : mS) (b : Int × mS) (r : Int × mS), (M_RW_row_14 k0 k1 k2 k3 σ) = some b → (fun b r => r = b) b r → mG (d + 1) 9 14 [(3, k0), (1, k1), (1, k2), (1, k3)] [] σ r := by
      intro k0 k1 k2 k3 σ b r hb hk
      exact (T_RW_row_14 hC hb hk).lle (lle_cons (lle_cons (lle_cons (lle_cons lle_nil))))
    exact key _ _ _ _ σ b r hb hk
  · cases hb
set_option maxRecDepth 100000 in
theorem T_RW_row {l0 : Int} {σ : mS} {r : Int × mS} (h : M_RW_row l0 σ = some r) : mEx 3 9 [(3, l0)] σ r :=
  ⟨by rw [P_RW_row]; exact Nat.le_of_ble_eq_true rfl, by rw [P_RW_row]; exact T_RW_row_0 TC_RW_row h rfl⟩
set_option maxRecDepth 100000 in
theorem P_RW_worn : mProg 10 = (c_RW_worn, 1) := rfl
set_option maxRecDepth 100000 in
theorem TC_RW_worn : ∀ k as σ p, C_RW_worn k as σ = some p → mEx 0 k as σ p := by
  intro k as σ p hp
  cases hp
set_option maxRecDepth 100000 in
theorem T_RW_worn_0 {d : Nat} (hC : ∀ k as σ p, C_RW_worn k as σ = some p → mEx d k as σ p) {l0 : Int} {σ : mS} {b : Int × mS} {r : Int × mS} (h : M_RW_worn l0 σ = some b) (hk : (fun b r => r = b) b r) : mG (d + 1) 10 0 (mInit 1 [(3, l0)]) [] σ r := by
  refine mblk_ok1 P_RW_worn (F := F_RW_worn_0) (fun b r => r = b) hC ?_ (fun v σ b r hb hk => by cases hb; exact hk) _ 0 (mInit 1 [(3, l0)]) [] σ b r ((E_RW_worn_0 l0 σ).trans h) hk
  intro i L st σ b r hb hk
  cases hb
set_option maxRecDepth 100000 in
theorem T_RW_worn {l0 : Int} {σ : mS} {r : Int × mS} (h : M_RW_worn l0 σ = some r) : mEx 1 10 [(3, l0)] σ r :=
  ⟨by rw [P_RW_worn]; exact Nat.le_of_ble_eq_true rfl, by rw [P_RW_worn]; exact T_RW_worn_0 TC_RW_worn h rfl⟩
set_option maxRecDepth 100000 in
theorem P_Reader_sortOf : mProg 201 = (c_Reader_sortOf, 1) := rfl
set_option maxRecDepth 100000 in
theorem TC_Reader_sortOf : ∀ k as σ p, C_Reader_sortOf k as σ = some p → mEx 0 k as σ p := by
  intro k as σ p hp
  cases hp
set_option maxRecDepth 100000 in
theorem T_Reader_sortOf_8 {d : Nat} (hC : ∀ k as σ p, C_Reader_sortOf k as σ = some p → mEx d k as σ p) {l0 : Int} {σ : mS} {b : Int × mS} {r : Int × mS} (h : M_Reader_sortOf_8 l0 σ = some b) (hk : (fun b r => r = b) b r) : mG (d + 1) 201 8 [(1, l0)] [] σ r := by
  refine mblk_ok1 P_Reader_sortOf (F := F_Reader_sortOf_8) (fun b r => r = b) hC ?_ (fun v σ b r hb hk => by cases hb; exact hk) _ 8 [(1, l0)] [] σ b r ((E_Reader_sortOf_8 l0 σ).trans h) hk
  intro i L st σ b r hb hk
  cases hb
set_option maxRecDepth 100000 in
theorem T_Reader_sortOf_0 {d : Nat} (hC : ∀ k as σ p, C_Reader_sortOf k as σ = some p → mEx d k as σ p) {l0 : Int} {σ : mS} {b : Int × mS} {r : Int × mS} (h : M_Reader_sortOf l0 σ = some b) (hk : (fun b r => r = b) b r) : mG (d + 1) 201 0 (mInit 1 [(1, l0)]) [] σ r := by
  refine mblk_ok1 P_Reader_sortOf (F := F_Reader_sortOf_0) (fun b r => r = b) hC ?_ (fun v σ b r hb hk => by cases hb; exact hk) _ 0 (mInit 1 [(1, l0)]) [] σ b r ((E_Reader_sortOf_0 l0 σ).trans h) hk
  intro i L st σ b r hb hk
  unfold F_Reader_sortOf_0 at hb
  split at hb
  · have key : ∀ (k0 : Int) (σ : mS) (b : Int × mS) (r : Int × mS), (M_Reader_sortOf_8 k0 σ) = some b → (fun b r => r = b) b r → mG (d + 1) 201 8 [(1, k0)] [] σ r := by
      intro k0 σ b r hb hk
      exact (T_Reader_sortOf_8 hC hb hk).lle (lle_cons lle_nil)
    exact key _ σ b r hb hk
  · cases hb
set_option maxRecDepth 100000 in
theorem T_Reader_sortOf {l0 : Int} {σ : mS} {r : Int × mS} (h : M_Reader_sortOf l0 σ = some r) : mEx 1 201 [(1, l0)] σ r :=
  ⟨by rw [P_Reader_sortOf]; exact Nat.le_of_ble_eq_true rfl, by rw [P_Reader_sortOf]; exact T_Reader_sortOf_0 TC_Reader_sortOf h rfl⟩
set_option maxRecDepth 100000 in
theorem P_Reader_addToken : mProg 202 = (c_Reader_addToken, 4) := rfl
set_option maxRecDepth 100000 in
theorem TC_Reader_addToken : ∀ k as σ p, C_Reader_addToken k as σ = some p → mEx 0 k as σ p := by
  intro k as σ p hp
  cases hp
set_option maxRecDepth 100000 in
theorem T_Reader_addToken_0 {d : Nat} (hC : ∀ k as σ p, C_Reader_addToken k as σ = some p → mEx d k as σ p) {l0 l1 l2 l3 : Int} {σ : mS} {b : Int × mS} {r : Int × mS} (h : M_Reader_addToken l0 l1 l2 l3 σ = some b) (hk : (fun b r => r = b) b r) : mG (d + 1) 202 0 (mInit 4 [(3, l0), (1, l1), (1, l2), (1, l3)]) [] σ r := by
  refine mblk_ok1 P_Reader_addToken (F := F_Reader_addToken_0) (fun b r => r = b) hC ?_ (fun v σ b r hb hk => by cases hb; exact hk) _ 0 (mInit 4 [(3, l0), (1, l1), (1, l2), (1, l3)]) [] σ b r ((E_Reader_addToken_0 l0 l1 l2 l3 σ).trans h) hk
  intro i L st σ b r hb hk
  cases hb
set_option maxRecDepth 100000 in
theorem T_Reader_addToken {l0 l1 l2 l3 : Int} {σ : mS} {r : Int × mS} (h : M_Reader_addToken l0 l1 l2 l3 σ = some r) : mEx 1 202 [(3, l0), (1, l1), (1, l2), (1, l3)] σ r :=
  ⟨by rw [P_Reader_addToken]; exact Nat.le_of_ble_eq_true rfl, by rw [P_Reader_addToken]; exact T_Reader_addToken_0 TC_Reader_addToken h rfl⟩
set_option maxRecDepth 100000 in
theorem P_Reader_addDigit : mProg 203 = (c_Reader_addDigit, 2) := rfl
set_option maxRecDepth 100000 in
theorem TC_Reader_addDigit : ∀ k as σ p, C_Reader_addDigit k as σ = some p → mEx 0 k as σ p := by
  intro k as σ p hp
  cases hp
set_option maxRecDepth 100000 in
theorem T_Reader_addDigit_0 {d : Nat} (hC : ∀ k as σ p, C_Reader_addDigit k as σ = some p → mEx d k as σ p) {l0 l1 : Int} {σ : mS} {b : Int × mS} {r : Int × mS} (h : M_Reader_addDigit l0 l1 σ = some b) (hk : (fun b r => r = b) b r) : mG (d + 1) 203 0 (mInit 2 [(3, l0), (1, l1)]) [] σ r := by
  refine mblk_ok1 P_Reader_addDigit (F := F_Reader_addDigit_0) (fun b r => r = b) hC ?_ (fun v σ b r hb hk => by cases hb; exact hk) _ 0 (mInit 2 [(3, l0), (1, l1)]) [] σ b r ((E_Reader_addDigit_0 l0 l1 σ).trans h) hk
  intro i L st σ b r hb hk
  cases hb
set_option maxRecDepth 100000 in
theorem T_Reader_addDigit {l0 l1 : Int} {σ : mS} {r : Int × mS} (h : M_Reader_addDigit l0 l1 σ = some r) : mEx 1 203 [(3, l0), (1, l1)] σ r :=
  ⟨by rw [P_Reader_addDigit]; exact Nat.le_of_ble_eq_true rfl, by rw [P_Reader_addDigit]; exact T_Reader_addDigit_0 TC_Reader_addDigit h rfl⟩
set_option maxRecDepth 100000 in
theorem P_Reader_spells : mProg 206 = (c_Reader_spells, 5) := rfl
set_option maxRecDepth 100000 in
theorem TC_Reader_spells : ∀ k as σ p, C_Reader_spells k as σ = some p → mEx 0 k as σ p := by
  intro k as σ p hp
  cases hp
set_option maxRecDepth 100000 in
theorem TB_Reader_spells_10 {d : Nat} (hC : ∀ k as σ p, C_Reader_spells k as σ = some p → mEx d k as σ p) {l0 l1 l3 l4 : Int} {σ : mS} {b : ((Int × mS) ⊕ (Int × mS))} {r : Int × mS} (h : B_Reader_spells_10 l0 l1 l3 l4 σ = some b) (hk : (Sum.elim (fun (s : Int × mS) r => mG (d + 1) 206 10 [(3, l0), (1, l1), (0, 0), (3, l3), (1, s.1)] [] s.2 r) (fun b r => r = b)) b r) : mG (d + 1) 206 10 [(3, l0), (1, l1), (0, 0), (3, l3), (1, l4)] [] σ r := by
  refine mblk_ok2 P_Reader_spells (F := F_Reader_spells_10) (Sum.elim (fun (s : Int × mS) r => mG (d + 1) 206 10 [(3, l0), (1, l1), (0, 0), (3, l3), (1, s.1)] [] s.2 r) (fun b r => r = b)) [([(10, 22), (25, 26)], [0, 1, 3])] [(10, 28)] [(3, l0), (1, l1), (0, 0), (3, l3), (1, l4)] (by decide +kernel) rfl hC ?_ (fun v σ b r hb hk => by cases hb; exact hk) _ 10 [(3, l0), (1, l1), (0, 0), (3, l3), (1, l4)] [] σ b r rfl (mJ_self _ _ _) ((E_Reader_spells_10 l0 l1 l3 l4 σ).trans h) hk
  intro i L st σ b r hj hb hk
  unfold F_Reader_spells_10 at hb
  split at hb
  · have key : ∀ (k0 k1 k3 k4 : Int) (k2 : mV) (σ : mS) (b : ((Int × mS) ⊕ (Int × mS))) (r : Int × mS), mJ [(3, l0), (1, l1), (0, 0), (3, l3), (1, l4)] 10 [(3, k0), (1, k1), k2, (3, k3), (1, k4)] [([(10, 22), (25, 26)], [0, 1, 3])] → (some (.inl (k4, σ))) = some b → (Sum.elim (fun (s : Int × mS) r => mG (d + 1) 206 10 [(3, l0), (1, l1), (0, 0), (3, l3), (1, s.1)] [] s.2 r) (fun b r => r = b)) b r → mG (d + 1) 206 10 [(3, k0), (1, k1), k2, (3, k3), (1, k4)] [] σ r := by
      intro k0 k1 k3 k4 k2 σ b r hj hb hk
      have e0 : k0 = l0 := (Prod.mk.inj (Option.some.inj ((hj.1 rfl).1))).2
      subst e0
      have e1 : k1 = l1 := (Prod.mk.inj (Option.some.inj ((hj.1 rfl).2.1))).2
      subst e1
      have e3 : k3 = l3 := (Prod.mk.inj (Option.some.inj ((hj.1 rfl).2.2.1))).2
      subst e3
      cases hb
      exact mG.lle hk (lle_cons (lle_cons (lle_dead (lle_cons (lle_cons lle_nil)))))
    exact key _ _ _ _ _ σ b r hj hb hk
  · cases hb
set_option maxRecDepth 100000 in
theorem T_Reader_spells_10 {d : Nat} (hC : ∀ k as σ p, C_Reader_spells k as σ = some p → mEx d k as σ p) {l0 l1 l3 l4 : Int} {σ : mS} {b : Int × mS} {r : Int × mS} (h : M_Reader_spells_10 l0 l1 l3 l4 σ = some b) (hk : (fun b r => r = b) b r) : mG (d + 1) 206 10 [(3, l0), (1, l1), (0, 0), (3, l3), (1, l4)] [] σ r :=
  miter_ok (G := fun (s : Int × mS) r => mG (d + 1) 206 10 [(3, l0), (1, l1), (0, 0), (3, l3), (1, s.1)] [] s.2 r) (K := (fun b r => r = b)) (fun s x r hs hx => TB_Reader_spells_10 hC hs hx) mN _ b r h hk
set_option maxRecDepth 100000 in
theorem T_Reader_spells_0 {d : Nat} (hC : ∀ k as σ p, C_Reader_spells k as σ = some p → mEx d k as σ p) {l0 l1 l2 l3 : Int} {σ : mS} {b : Int × mS} {r : Int × mS} (h : M_Reader_spells l0 l1 l2 l3 σ = some b) (hk : (fun b r => r = b) b r) : mG (d + 1) 206 0 (mInit 5 [(3, l0), (1, l1), (1, l2), (3, l3)]) [] σ r := by
  refine mblk_ok1 P_Reader_spells (F := F_Reader_spells_0) (fun b r => r = b) hC ?_ (fun v σ b r hb hk => by cases hb; exact hk) _ 0 (mInit 5 [(3, l0), (1, l1), (1, l2), (3, l3)]) [] σ b r ((E_Reader_spells_0 l0 l1 l2 l3 σ).trans h) hk
  intro i L st σ b r hb hk
  unfold F_Reader_spells_0 at hb
  split at hb
  · have key : ∀ (k0 k1 k3 k4 : Int) (k2 : mV) (σ : mS) (b : Int × mS) (r : Int × mS), (M_Reader_spells_10 k0 k1 k3 k4 σ) = some b → (fun b r => r = b) b r → mG (d + 1) 206 10 [(3, k0), (1, k1), k2, (3, k3), (1, k4)] [] σ r := by
      intro k0 k1 k3 k4 k2 σ b r hb hk
      exact (T_Reader_spells_10 hC hb hk).lle (lle_cons (lle_cons (lle_dead (lle_cons (lle_cons lle_nil)))))
    exact key _ _ _ _ _ σ b r hb hk
  · cases hb
set_option maxRecDepth 100000 in
theorem T_Reader_spells {l0 l1 l2 l3 : Int} {σ : mS} {r : Int × mS} (h : M_Reader_spells l0 l1 l2 l3 σ = some r) : mEx 1 206 [(3, l0), (1, l1), (1, l2), (3, l3)] σ r :=
  ⟨by rw [P_Reader_spells]; exact Nat.le_of_ble_eq_true rfl, by rw [P_Reader_spells]; exact T_Reader_spells_0 TC_Reader_spells h rfl⟩
set_option maxRecDepth 100000 in
theorem P_Reader_askedWord : mProg 205 = (c_Reader_askedWord, 3) := rfl
set_option maxRecDepth 100000 in
theorem TC_Reader_askedWord : ∀ k as σ p, C_Reader_askedWord k as σ = some p → mEx 1 k as σ p := by
  intro k as σ p hp
  unfold C_Reader_askedWord at hp
  split at hp
  · exact (T_Reader_spells hp).up (Nat.le_of_ble_eq_true rfl)
  · cases hp
set_option maxRecDepth 100000 in
theorem T_Reader_askedWord_0 {d : Nat} (hC : ∀ k as σ p, C_Reader_askedWord k as σ = some p → mEx d k as σ p) {l0 l1 l2 : Int} {σ : mS} {b : Int × mS} {r : Int × mS} (h : M_Reader_askedWord l0 l1 l2 σ = some b) (hk : (fun b r => r = b) b r) : mG (d + 1) 205 0 (mInit 3 [(3, l0), (1, l1), (1, l2)]) [] σ r := by
  refine mblk_ok1 P_Reader_askedWord (F := F_Reader_askedWord_0) (fun b r => r = b) hC ?_ (fun v σ b r hb hk => by cases hb; exact hk) _ 0 (mInit 3 [(3, l0), (1, l1), (1, l2)]) [] σ b r ((E_Reader_askedWord_0 l0 l1 l2 σ).trans h) hk
  intro i L st σ b r hb hk
  cases hb
set_option maxRecDepth 100000 in
theorem T_Reader_askedWord {l0 l1 l2 : Int} {σ : mS} {r : Int × mS} (h : M_Reader_askedWord l0 l1 l2 σ = some r) : mEx 2 205 [(3, l0), (1, l1), (1, l2)] σ r :=
  ⟨by rw [P_Reader_askedWord]; exact Nat.le_of_ble_eq_true rfl, by rw [P_Reader_askedWord]; exact T_Reader_askedWord_0 TC_Reader_askedWord h rfl⟩
set_option maxRecDepth 100000 in
theorem P_Reader_wordKind : mProg 204 = (c_Reader_wordKind, 5) := rfl
set_option maxRecDepth 100000 in
theorem TC_Reader_wordKind : ∀ k as σ p, C_Reader_wordKind k as σ = some p → mEx 2 k as σ p := by
  intro k as σ p hp
  unfold C_Reader_wordKind at hp
  split at hp
  · exact (T_Reader_sortOf hp).up (Nat.le_of_ble_eq_true rfl)
  · exact (T_Reader_askedWord hp).up (Nat.le_of_ble_eq_true rfl)
  · exact (T_Reader_spells hp).up (Nat.le_of_ble_eq_true rfl)
  · cases hp
set_option maxRecDepth 100000 in
theorem T_Reader_wordKind_13 {d : Nat} (hC : ∀ k as σ p, C_Reader_wordKind k as σ = some p → mEx d k as σ p) {l0 l1 l3 : Int} {σ : mS} {b : Int × mS} {r : Int × mS} (h : M_Reader_wordKind_13 l0 l1 l3 σ = some b) (hk : (fun b r => r = b) b r) : mG (d + 1) 204 13 [(3, l0), (1, l1), (0, 0), (1, l3), (0, 0)] [] σ r := by
  refine mblk_ok1 P_Reader_wordKind (F := F_Reader_wordKind_13) (fun b r => r = b) hC ?_ (fun v σ b r hb hk => by cases hb; exact hk) _ 13 [(3, l0), (1, l1), (0, 0), (1, l3), (0, 0)] [] σ b r ((E_Reader_wordKind_13 l0 l1 l3 σ).trans h) hk
  intro i L st σ b r hb hk
  cases hb
set_option maxRecDepth 100000 in
theorem TB_Reader_wordKind_2 {d : Nat} (hC : ∀ k as σ p, C_Reader_wordKind k as σ = some p → mEx d k as σ p) {l0 l1 l2 l3 : Int} {σ : mS} {b : ((Int × mS) ⊕ (Int × mS))} {r : Int × mS} (h : B_Reader_wordKind_2 l0 l1 l2 l3 σ = some b) (hk : (Sum.elim (fun (s : Int × mS) r => mG (d + 1) 204 2 [(3, l0), (1, l1), (1, l2), (1, s.1), (0, 0)] [] s.2 r) (fun b r => r = b)) b r) : mG (d + 1) 204 2 [(3, l0), (1, l1), (1, l2), (1, l3), (0, 0)] [] σ r := by
  refine mblk_ok2 P_Reader_wordKind (F := F_Reader_wordKind_2) (Sum.elim (fun (s : Int × mS) r => mG (d + 1) 204 2 [(3, l0), (1, l1), (1, l2), (1, s.1), (0, 0)] [] s.2 r) (fun b r => r = b)) [([(2, 12)], [0, 1, 2])] [(2, 12)] [(3, l0), (1, l1), (1, l2), (1, l3), (0, 0)] (by decide +kernel) rfl hC ?_ (fun v σ b r hb hk => by cases hb; exact hk) _ 2 [(3, l0), (1, l1), (1, l2), (1, l3), (0, 0)] [] σ b r rfl (mJ_self _ _ _) ((E_Reader_wordKind_2 l0 l1 l2 l3 σ).trans h) hk
  intro i L st σ b r hj hb hk
  unfold F_Reader_wordKind_2 at hb
  split at hb
  · have key : ∀ (k0 k1 k2 k3 : Int) (k4 : mV) (σ : mS) (b : ((Int × mS) ⊕ (Int × mS))) (r : Int × mS), mJ [(3, l0), (1, l1), (1, l2), (1, l3), (0, 0)] 2 [(3, k0), (1, k1), (1, k2), (1, k3), k4] [([(2, 12)], [0, 1, 2])] → (some (.inl (k3, σ))) = some b → (Sum.elim (fun (s : Int × mS) r => mG (d + 1) 204 2 [(3, l0), (1, l1), (1, l2), (1, s.1), (0, 0)] [] s.2 r) (fun b r => r = b)) b r → mG (d + 1) 204 2 [(3, k0), (1, k1), (1, k2), (1, k3), k4] [] σ r := by
      intro k0 k1 k2 k3 k4 σ b r hj hb hk
      have e0 : k0 = l0 := (Prod.mk.inj (Option.some.inj ((hj.1 rfl).1))).2
      subst e0
      have e1 : k1 = l1 := (Prod.mk.inj (Option.some.inj ((hj.1 rfl).2.1))).2
      subst e1
      have e2 : k2 = l2 := (Prod.mk.inj (Option.some.inj ((hj.1 rfl).2.2.1))).2
      subst e2
      cases hb
      exact mG.lle hk (lle_cons (lle_cons (lle_cons (lle_cons (lle_dead lle_nil)))))
    exact key _ _ _ _ _ σ b r hj hb hk
  · have key : ∀ (k0 k1 k3 : Int) (k2 k4 : mV) (σ : mS) (b : ((Int × mS) ⊕ (Int × mS))) (r : Int × mS), mJ [(3, l0), (1, l1), (1, l2), (1, l3), (0, 0)] 13 [(3, k0), (1, k1), k2, (1, k3), k4] [([(2, 12)], [0, 1, 2])] → ((M_Reader_wordKind_13 k0 k1 k3 σ).bind fun z => some (.inr z)) = some b → (Sum.elim (fun (s : Int × mS) r => mG (d + 1) 204 2 [(3, l0), (1, l1), (1, l2), (1, s.1), (0, 0)] [] s.2 r) (fun b r => r = b)) b r → mG (d + 1) 204 13 [(3, k0), (1, k1), k2, (1, k3), k4] [] σ r := by
      intro k0 k1 k3 k2 k4 σ b r hj hb hk
      obtain ⟨z, hz, e⟩ := Option.bind_eq_some_iff.mp hb
      cases e
      exact (T_Reader_wordKind_13 hC hz hk).lle (lle_cons (lle_cons (lle_dead (lle_cons (lle_dead lle_nil)))))
    exact key _ _ _ _ _ σ b r hj hb hk
  · cases hb
set_option maxRecDepth 100000 in
theorem T_Reader_wordKind_2 {d : Nat} (hC : ∀ k as σ p, C_Reader_wordKind k as σ = some p → mEx d k as σ p) {l0 l1 l2 l3 : Int} {σ : mS} {b : Int × mS} {r : Int × mS} (h : M_Reader_wordKind_2 l0 l1 l2 l3 σ = some b) (hk : (fun b r => r = b) b r) : mG (d + 1) 204 2 [(3, l0), (1, l1), (1, l2), (1, l3), (0, 0)] [] σ r :=
  miter_ok (G := fun (s : Int × mS) r => mG (d + 1) 204 2 [(3, l0), (1, l1), (1, l2), (1, s.1), (0, 0)] [] s.2 r) (K := (fun b r => r = b)) (fun s x r hs hx => TB_Reader_wordKind_2 hC hs hx) mN _ b r h hk
set_option maxRecDepth 100000 in
theorem T_Reader_wordKind_0 {d : Nat} (hC : ∀ k as σ p, C_Reader_wordKind k as σ = some p → mEx d k as σ p) {l0 l1 l2 : Int} {σ : mS} {b : Int × mS} {r : Int × mS} (h : M_Reader_wordKind l0 l1 l2 σ = some b) (hk : (fun b r => r = b) b r) : mG (d + 1) 204 0 (mInit 5 [(3, l0), (1, l1), (1, l2)]) [] σ r := by
  refine mblk_ok1 P_Reader_wordKind (F := F_Reader_wordKind_0) (fun b r => r = b) hC ?_ (fun v σ b r hb hk => by cases hb; exact hk) _ 0 (mInit 5 [(3, l0), (1, l1), (1, l2)]) [] σ b r ((E_Reader_wordKind_0 l0 l1 l2 σ).trans h) hk
  intro i L st σ b r hb hk
  unfold F_Reader_wordKind_0 at hb
  split at hb
  · have key : ∀ (k0 k1 k2 k3 : Int) (k4 : mV) (σ : mS) (b : Int × mS) (r : Int × mS), (M_Reader_wordKind_2 k0 k1 k2 k3 σ) = some b → (fun b r => r = b) b r → mG (d + 1) 204 2 [(3, k0), (1, k1), (1, k2), (1, k3), k4] [] σ r := by
      intro k0 k1 k2 k3 k4 σ b r hb hk
      exact (T_Reader_wordKind_2 hC hb hk).lle (lle_cons (lle_cons (lle_cons (lle_cons (lle_dead lle_nil)))))
    exact key _ _ _ _ _ σ b r hb hk
  · cases hb
set_option maxRecDepth 100000 in
theorem T_Reader_wordKind {l0 l1 l2 : Int} {σ : mS} {r : Int × mS} (h : M_Reader_wordKind l0 l1 l2 σ = some r) : mEx 3 204 [(3, l0), (1, l1), (1, l2)] σ r :=
  ⟨by rw [P_Reader_wordKind]; exact Nat.le_of_ble_eq_true rfl, by rw [P_Reader_wordKind]; exact T_Reader_wordKind_0 TC_Reader_wordKind h rfl⟩
set_option maxRecDepth 100000 in
theorem P_Reader_split : mProg 200 = (c_Reader_split, 6) := rfl
set_option maxRecDepth 100000 in
theorem TC_Reader_split : ∀ k as σ p, C_Reader_split k as σ = some p → mEx 3 k as σ p := by
  intro k as σ p hp
  unfold C_Reader_split at hp
  split at hp
  · exact (T_Reader_sortOf hp).up (Nat.le_of_ble_eq_true rfl)
  · exact (T_Reader_addToken hp).up (Nat.le_of_ble_eq_true rfl)
  · exact (T_Reader_addDigit hp).up (Nat.le_of_ble_eq_true rfl)
  · exact (T_Reader_wordKind hp).up (Nat.le_of_ble_eq_true rfl)
  · cases hp
set_option maxRecDepth 100000 in
theorem T_Reader_split_55 {d : Nat} (hC : ∀ k as σ p, C_Reader_split k as σ = some p → mEx d k as σ p) {l0 l1 l2 l4 l5 : Int} {σ : mS} {b : ((Int × Int × mS) ⊕ (Int × mS))} {r : Int × mS} (h : M_Reader_split_55 l0 l1 l2 l4 l5 σ = some b) (hk : (Sum.elim (fun (s : Int × Int × mS) r => mG (d + 1) 200 7 [(3, l0), (3, l1), (1, l2), (1, s.1), (1, s.2.1), (0, 0)] [] s.2.2 r) (fun b r => r = b)) b r) : mG (d + 1) 200 55 [(3, l0), (3, l1), (1, l2), (0, 0), (1, l4), (1, l5)] [] σ r := by
  refine mblk_ok2 P_Reader_split (F := F_Reader_split_55) (Sum.elim (fun (s : Int × Int × mS) r => mG (d + 1) 200 7 [(3, l0), (3, l1), (1, l2), (1, s.1), (1, s.2.1), (0, 0)] [] s.2.2 r) (fun b r => r = b)) [([(7, 69)], [0, 1, 2])] [(55, 69)] [(3, l0), (3, l1), (1, l2), (0, 0), (1, l4), (1, l5)] (by decide +kernel) rfl hC ?_ (fun v σ b r hb hk => by cases hb; exact hk) _ 55 [(3, l0), (3, l1), (1, l2), (0, 0), (1, l4), (1, l5)] [] σ b r rfl (mJ_self _ _ _) ((E_Reader_split_55 l0 l1 l2 l4 l5 σ).trans h) hk
  intro i L st σ b r hj hb hk
  unfold F_Reader_split_55 at hb
  split at hb
  · have key : ∀ (k0 k1 k2 k3 k4 : Int) (k5 : mV) (σ : mS) (b : ((Int × Int × mS) ⊕ (Int × mS))) (r : Int × mS), mJ [(3, l0), (3, l1), (1, l2), (0, 0), (1, l4), (1, l5)] 7 [(3, k0), (3, k1), (1, k2), (1, k3), (1, k4), k5] [([(7, 69)], [0, 1, 2])] → (some (.inl (k3, k4, σ))) = some b → (Sum.elim (fun (s : Int × Int × mS) r => mG (d + 1) 200 7 [(3, l0), (3, l1), (1, l2), (1, s.1), (1, s.2.1), (0, 0)] [] s.2.2 r) (fun b r => r = b)) b r → mG (d + 1) 200 7 [(3, k0), (3, k1), (1, k2), (1, k3), (1, k4), k5] [] σ r := by
      intro k0 k1 k2 k3 k4 k5 σ b r hj hb hk
      have e0 : k0 = l0 := (Prod.mk.inj (Option.some.inj ((hj.1 rfl).1))).2
      subst e0
      have e1 : k1 = l1 := (Prod.mk.inj (Option.some.inj ((hj.1 rfl).2.1))).2
      subst e1
      have e2 : k2 = l2 := (Prod.mk.inj (Option.some.inj ((hj.1 rfl).2.2.1))).2
      subst e2
      cases hb
      exact mG.lle hk (lle_cons (lle_cons (lle_cons (lle_cons (lle_cons (lle_dead lle_nil))))))
    exact key _ _ _ _ _ _ σ b r hj hb hk
  · cases hb
set_option maxRecDepth 100000 in
theorem T_Reader_split_27 {d : Nat} (hC : ∀ k as σ p, C_Reader_split k as σ = some p → mEx d k as σ p) {l0 l1 l2 l3 l4 l5 : Int} {σ : mS} {b : ((Int × Int × mS) ⊕ (Int × mS))} {r : Int × mS} (h : M_Reader_split_27 l0 l1 l2 l3 l4 l5 σ = some b) (hk : (Sum.elim (fun (s : Int × Int × mS) r => mG (d + 1) 200 7 [(3, l0), (3, l1), (1, l2), (1, s.1), (1, s.2.1), (0, 0)] [] s.2.2 r) (fun b r => r = b)) b r) : mG (d + 1) 200 27 [(3, l0), (3, l1), (1, l2), (1, l3), (1, l4), (1, l5)] [] σ r := by
  refine mblk_ok2 P_Reader_split (F := F_Reader_split_27) (Sum.elim (fun (s : Int × Int × mS) r => mG (d + 1) 200 7 [(3, l0), (3, l1), (1, l2), (1, s.1), (1, s.2.1), (0, 0)] [] s.2.2 r) (fun b r => r = b)) [([(7, 69)], [0, 1, 2])] [(27, 54), (66, 69)] [(3, l0), (3, l1), (1, l2), (1, l3), (1, l4), (1, l5)] (by decide +kernel) rfl hC ?_ (fun v σ b r hb hk => by cases hb; exact hk) _ 27 [(3, l0), (3, l1), (1, l2), (1, l3), (1, l4), (1, l5)] [] σ b r rfl (mJ_self _ _ _) ((E_Reader_split_27 l0 l1 l2 l3 l4 l5 σ).trans h) hk
  intro i L st σ b r hj hb hk
  unfold F_Reader_split_27 at hb
  split at hb
  · have key : ∀ (k0 k1 k2 k3 k4 : Int) (k5 : mV) (σ : mS) (b : ((Int × Int × mS) ⊕ (Int × mS))) (r : Int × mS), mJ [(3, l0), (3, l1), (1, l2), (1, l3), (1, l4), (1, l5)] 7 [(3, k0), (3, k1), (1, k2), (1, k3), (1, k4), k5] [([(7, 69)], [0, 1, 2])] → (some (.inl (k3, k4, σ))) = some b → (Sum.elim (fun (s : Int × Int × mS) r => mG (d + 1) 200 7 [(3, l0), (3, l1), (1, l2), (1, s.1), (1, s.2.1), (0, 0)] [] s.2.2 r) (fun b r => r = b)) b r → mG (d + 1) 200 7 [(3, k0), (3, k1), (1, k2), (1, k3), (1, k4), k5] [] σ r := by
      intro k0 k1 k2 k3 k4 k5 σ b r hj hb hk
      have e0 : k0 = l0 := (Prod.mk.inj (Option.some.inj ((hj.1 rfl).1))).2
      subst e0
      have e1 : k1 = l1 := (Prod.mk.inj (Option.some.inj ((hj.1 rfl).2.1))).2
      subst e1
      have e2 : k2 = l2 := (Prod.mk.inj (Option.some.inj ((hj.1 rfl).2.2.1))).2
      subst e2
      cases hb
      exact mG.lle hk (lle_cons (lle_cons (lle_cons (lle_cons (lle_cons (lle_dead lle_nil))))))
    exact key _ _ _ _ _ _ σ b r hj hb hk
  · have key : ∀ (k0 k1 k2 k4 k5 : Int) (k3 : mV) (σ : mS) (b : ((Int × Int × mS) ⊕ (Int × mS))) (r : Int × mS), mJ [(3, l0), (3, l1), (1, l2), (1, l3), (1, l4), (1, l5)] 55 [(3, k0), (3, k1), (1, k2), k3, (1, k4), (1, k5)] [([(7, 69)], [0, 1, 2])] → (M_Reader_split_55 k0 k1 k2 k4 k5 σ) = some b → (Sum.elim (fun (s : Int × Int × mS) r => mG (d + 1) 200 7 [(3, l0), (3, l1), (1, l2), (1, s.1), (1, s.2.1), (0, 0)] [] s.2.2 r) (fun b r => r = b)) b r → mG (d + 1) 200 55 [(3, k0), (3, k1), (1, k2), k3, (1, k4), (1, k5)] [] σ r := by
      intro k0 k1 k2 k4 k5 k3 σ b r hj hb hk
      have e0 : k0 = l0 := (Prod.mk.inj (Option.some.inj ((hj.1 rfl).1))).2
      subst e0
      have e1 : k1 = l1 := (Prod.mk.inj (Option.some.inj ((hj.1 rfl).2.1))).2
      subst e1
      have e2 : k2 = l2 := (Prod.mk.inj (Option.some.inj ((hj.1 rfl).2.2.1))).2
      subst e2
      exact (T_Reader_split_55 hC hb hk).lle (lle_cons (lle_cons (lle_cons (lle_dead (lle_cons (lle_cons lle_nil))))))
    exact key _ _ _ _ _ _ σ b r hj hb hk
  · cases hb
set_option maxRecDepth 100000 in
theorem TB_Reader_split_7 {d : Nat} (hC : ∀ k as σ p, C_Reader_split k as σ = some p → mEx d k as σ p) {l0 l1 l2 l3 l4 : Int} {σ : mS} {b : ((Int × Int × mS) ⊕ (Int × mS))} {r : Int × mS} (h : B_Reader_split_7 l0 l1 l2 l3 l4 σ = some b) (hk : (Sum.elim (fun (s : Int × Int × mS) r => mG (d + 1) 200 7 [(3, l0), (3, l1), (1, l2), (1, s.1), (1, s.2.1), (0, 0)] [] s.2.2 r) (fun b r => r = b)) b r) : mG (d + 1) 200 7 [(3, l0), (3, l1), (1, l2), (1, l3), (1, l4), (0, 0)] [] σ r := by
  refine mblk_ok2 P_Reader_split (F := F_Reader_split_7) (Sum.elim (fun (s : Int × Int × mS) r => mG (d + 1) 200 7 [(3, l0), (3, l1), (1, l2), (1, s.1), (1, s.2.1), (0, 0)] [] s.2.2 r) (fun b r => r = b)) [([(7, 69)], [0, 1, 2])] [(7, 26), (66, 75)] [(3, l0), (3, l1), (1, l2), (1, l3), (1, l4), (0, 0)] (by decide +kernel) rfl hC ?_ (fun v σ b r hb hk => by cases hb; exact hk) _ 7 [(3, l0), (3, l1), (1, l2), (1, l3), (1, l4), (0, 0)] [] σ b r rfl (mJ_self _ _ _) ((E_Reader_split_7 l0 l1 l2 l3 l4 σ).trans h) hk
  intro i L st σ b r hj hb hk
  unfold F_Reader_split_7 at hb
  split at hb
  · have key : ∀ (k0 k1 k2 k3 k4 : Int) (k5 : mV) (σ : mS) (b : ((Int × Int × mS) ⊕ (Int × mS))) (r : Int × mS), mJ [(3, l0), (3, l1), (1, l2), (1, l3), (1, l4), (0, 0)] 7 [(3, k0), (3, k1), (1, k2), (1, k3), (1, k4), k5] [([(7, 69)], [0, 1, 2])] → (some (.inl (k3, k4, σ))) = some b → (Sum.elim (fun (s : Int × Int × mS) r => mG (d + 1) 200 7 [(3, l0), (3, l1), (1, l2), (1, s.1), (1, s.2.1), (0, 0)] [] s.2.2 r) (fun b r => r = b)) b r → mG (d + 1) 200 7 [(3, k0), (3, k1), (1, k2), (1, k3), (1, k4), k5] [] σ r := by
      intro k0 k1 k2 k3 k4 k5 σ b r hj hb hk
      have e0 : k0 = l0 := (Prod.mk.inj (Option.some.inj ((hj.1 rfl).1))).2
      subst e0
      have e1 : k1 = l1 := (Prod.mk.inj (Option.some.inj ((hj.1 rfl).2.1))).2
      subst e1
      have e2 : k2 = l2 := (Prod.mk.inj (Option.some.inj ((hj.1 rfl).2.2.1))).2
      subst e2
      cases hb
      exact mG.lle hk (lle_cons (lle_cons (lle_cons (lle_cons (lle_cons (lle_dead lle_nil))))))
    exact key _ _ _ _ _ _ σ b r hj hb hk
  · have key : ∀ (k0 k1 k2 k3 k4 k5 : Int) (σ : mS) (b : ((Int × Int × mS) ⊕ (Int × mS))) (r : Int × mS), mJ [(3, l0), (3, l1), (1, l2), (1, l3), (1, l4), (0, 0)] 27 [(3, k0), (3, k1), (1, k2), (1, k3), (1, k4), (1, k5)] [([(7, 69)], [0, 1, 2])] → (M_Reader_split_27 k0 k1 k2 k3 k4 k5 σ) = some b → (Sum.elim (fun (s : Int × Int × mS) r => mG (d + 1) 200 7 [(3, l0), (3, l1), (1, l2), (1, s.1), (1, s.2.1), (0, 0)] [] s.2.2 r) (fun b r => r = b)) b r → mG (d + 1) 200 27 [(3, k0), (3, k1), (1, k2), (1, k3), (1, k4), (1, k5)] [] σ r := by
      intro k0 k1 k2 k3 k4 k5 σ b r hj hb hk
      have e0 : k0 = l0 := (Prod.mk.inj (Option.some.inj ((hj.1 rfl).1))).2
      subst e0
      have e1 : k1 = l1 := (Prod.mk.inj (Option.some.inj ((hj.1 rfl).2.1))).2
      subst e1
      have e2 : k2 = l2 := (Prod.mk.inj (Option.some.inj ((hj.1 rfl).2.2.1))).2
      subst e2
      exact (T_Reader_split_27 hC hb hk).lle (lle_cons (lle_cons (lle_cons (lle_cons (lle_cons (lle_cons lle_nil))))))
    exact key _ _ _ _ _ _ σ b r hj hb hk
  · cases hb
set_option maxRecDepth 100000 in
theorem T_Reader_split_7 {d : Nat} (hC : ∀ k as σ p, C_Reader_split k as σ = some p → mEx d k as σ p) {l0 l1 l2 l3 l4 : Int} {σ : mS} {b : Int × mS} {r : Int × mS} (h : M_Reader_split_7 l0 l1 l2 l3 l4 σ = some b) (hk : (fun b r => r = b) b r) : mG (d + 1) 200 7 [(3, l0), (3, l1), (1, l2), (1, l3), (1, l4), (0, 0)] [] σ r :=
  miter_ok (G := fun (s : Int × Int × mS) r => mG (d + 1) 200 7 [(3, l0), (3, l1), (1, l2), (1, s.1), (1, s.2.1), (0, 0)] [] s.2.2 r) (K := (fun b r => r = b)) (fun s x r hs hx => TB_Reader_split_7 hC hs hx) mN _ b r h hk
set_option maxRecDepth 100000 in
theorem T_Reader_split_0 {d : Nat} (hC : ∀ k as σ p, C_Reader_split k as σ = some p → mEx d k as σ p) {l0 l1 l2 : Int} {σ : mS} {b : Int × mS} {r : Int × mS} (h : M_Reader_split l0 l1 l2 σ = some b) (hk : (fun b r => r = b) b r) : mG (d + 1) 200 0 (mInit 6 [(3, l0), (3, l1), (1, l2)]) [] σ r := by
  refine mblk_ok1 P_Reader_split (F := F_Reader_split_0) (fun b r => r = b) hC ?_ (fun v σ b r hb hk => by cases hb; exact hk) _ 0 (mInit 6 [(3, l0), (3, l1), (1, l2)]) [] σ b r ((E_Reader_split_0 l0 l1 l2 σ).trans h) hk
  intro i L st σ b r hb hk
  unfold F_Reader_split_0 at hb
  split at hb
  · have key : ∀ (k0 k1 k2 k3 k4 : Int) (k5 : mV) (σ : mS) (b : Int × mS) (r : Int × mS), (M_Reader_split_7 k0 k1 k2 k3 k4 σ) = some b → (fun b r => r = b) b r → mG (d + 1) 200 7 [(3, k0), (3, k1), (1, k2), (1, k3), (1, k4), k5] [] σ r := by
      intro k0 k1 k2 k3 k4 k5 σ b r hb hk
      exact (T_Reader_split_7 hC hb hk).lle (lle_cons (lle_cons (lle_cons (lle_cons (lle_cons (lle_dead lle_nil))))))
    exact key _ _ _ _ _ _ σ b r hb hk
  · cases hb
set_option maxRecDepth 100000 in
theorem T_Reader_split {l0 l1 l2 : Int} {σ : mS} {r : Int × mS} (h : M_Reader_split l0 l1 l2 σ = some r) : mEx 4 200 [(3, l0), (3, l1), (1, l2)] σ r :=
  ⟨by rw [P_Reader_split]; exact Nat.le_of_ble_eq_true rfl, by rw [P_Reader_split]; exact T_Reader_split_0 TC_Reader_split h rfl⟩
set_option maxRecDepth 100000 in
theorem P_Reader_kindHere : mProg 207 = (c_Reader_kindHere, 1) := rfl
set_option maxRecDepth 100000 in
theorem TC_Reader_kindHere : ∀ k as σ p, C_Reader_kindHere k as σ = some p → mEx 0 k as σ p := by
  intro k as σ p hp
  cases hp
set_option maxRecDepth 100000 in
theorem T_Reader_kindHere_0 {d : Nat} (hC : ∀ k as σ p, C_Reader_kindHere k as σ = some p → mEx d k as σ p) {l0 : Int} {σ : mS} {b : Int × mS} {r : Int × mS} (h : M_Reader_kindHere l0 σ = some b) (hk : (fun b r => r = b) b r) : mG (d + 1) 207 0 (mInit 1 [(3, l0)]) [] σ r := by
  refine mblk_ok1 P_Reader_kindHere (F := F_Reader_kindHere_0) (fun b r => r = b) hC ?_ (fun v σ b r hb hk => by cases hb; exact hk) _ 0 (mInit 1 [(3, l0)]) [] σ b r ((E_Reader_kindHere_0 l0 σ).trans h) hk
  intro i L st σ b r hb hk
  cases hb
set_option maxRecDepth 100000 in
theorem T_Reader_kindHere {l0 : Int} {σ : mS} {r : Int × mS} (h : M_Reader_kindHere l0 σ = some r) : mEx 1 207 [(3, l0)] σ r :=
  ⟨by rw [P_Reader_kindHere]; exact Nat.le_of_ble_eq_true rfl, by rw [P_Reader_kindHere]; exact T_Reader_kindHere_0 TC_Reader_kindHere h rfl⟩
set_option maxRecDepth 100000 in
theorem P_Reader_takes : mProg 208 = (c_Reader_takes, 2) := rfl
set_option maxRecDepth 100000 in
theorem TC_Reader_takes : ∀ k as σ p, C_Reader_takes k as σ = some p → mEx 0 k as σ p := by
  intro k as σ p hp
  cases hp
set_option maxRecDepth 100000 in
theorem T_Reader_takes_0 {d : Nat} (hC : ∀ k as σ p, C_Reader_takes k as σ = some p → mEx d k as σ p) {l0 l1 : Int} {σ : mS} {b : Int × mS} {r : Int × mS} (h : M_Reader_takes l0 l1 σ = some b) (hk : (fun b r => r = b) b r) : mG (d + 1) 208 0 (mInit 2 [(3, l0), (1, l1)]) [] σ r := by
  refine mblk_ok1 P_Reader_takes (F := F_Reader_takes_0) (fun b r => r = b) hC ?_ (fun v σ b r hb hk => by cases hb; exact hk) _ 0 (mInit 2 [(3, l0), (1, l1)]) [] σ b r ((E_Reader_takes_0 l0 l1 σ).trans h) hk
  intro i L st σ b r hb hk
  cases hb
set_option maxRecDepth 100000 in
theorem T_Reader_takes {l0 l1 : Int} {σ : mS} {r : Int × mS} (h : M_Reader_takes l0 l1 σ = some r) : mEx 1 208 [(3, l0), (1, l1)] σ r :=
  ⟨by rw [P_Reader_takes]; exact Nat.le_of_ble_eq_true rfl, by rw [P_Reader_takes]; exact T_Reader_takes_0 TC_Reader_takes h rfl⟩
set_option maxRecDepth 100000 in
theorem P_Reader_emit : mProg 209 = (c_Reader_emit, 4) := rfl
set_option maxRecDepth 100000 in
theorem TC_Reader_emit : ∀ k as σ p, C_Reader_emit k as σ = some p → mEx 0 k as σ p := by
  intro k as σ p hp
  cases hp
set_option maxRecDepth 100000 in
theorem T_Reader_emit_0 {d : Nat} (hC : ∀ k as σ p, C_Reader_emit k as σ = some p → mEx d k as σ p) {l0 l1 l2 : Int} {σ : mS} {b : Int × mS} {r : Int × mS} (h : M_Reader_emit l0 l1 l2 σ = some b) (hk : (fun b r => r = b) b r) : mG (d + 1) 209 0 (mInit 4 [(3, l0), (1, l1), (1, l2)]) [] σ r := by
  refine mblk_ok1 P_Reader_emit (F := F_Reader_emit_0) (fun b r => r = b) hC ?_ (fun v σ b r hb hk => by cases hb; exact hk) _ 0 (mInit 4 [(3, l0), (1, l1), (1, l2)]) [] σ b r ((E_Reader_emit_0 l0 l1 l2 σ).trans h) hk
  intro i L st σ b r hb hk
  cases hb
set_option maxRecDepth 100000 in
theorem T_Reader_emit {l0 l1 l2 : Int} {σ : mS} {r : Int × mS} (h : M_Reader_emit l0 l1 l2 σ = some r) : mEx 1 209 [(3, l0), (1, l1), (1, l2)] σ r :=
  ⟨by rw [P_Reader_emit]; exact Nat.le_of_ble_eq_true rfl, by rw [P_Reader_emit]; exact T_Reader_emit_0 TC_Reader_emit h rfl⟩
set_option maxRecDepth 100000 in
theorem P_Reader_aimBehind : mProg 210 = (c_Reader_aimBehind, 2) := rfl
set_option maxRecDepth 100000 in
theorem TC_Reader_aimBehind : ∀ k as σ p, C_Reader_aimBehind k as σ = some p → mEx 0 k as σ p := by
  intro k as σ p hp
  cases hp
set_option maxRecDepth 100000 in
theorem T_Reader_aimBehind_0 {d : Nat} (hC : ∀ k as σ p, C_Reader_aimBehind k as σ = some p → mEx d k as σ p) {l0 l1 : Int} {σ : mS} {b : Int × mS} {r : Int × mS} (h : M_Reader_aimBehind l0 l1 σ = some b) (hk : (fun b r => r = b) b r) : mG (d + 1) 210 0 (mInit 2 [(3, l0), (1, l1)]) [] σ r := by
  refine mblk_ok1 P_Reader_aimBehind (F := F_Reader_aimBehind_0) (fun b r => r = b) hC ?_ (fun v σ b r hb hk => by cases hb; exact hk) _ 0 (mInit 2 [(3, l0), (1, l1)]) [] σ b r ((E_Reader_aimBehind_0 l0 l1 σ).trans h) hk
  intro i L st σ b r hb hk
  cases hb
set_option maxRecDepth 100000 in
theorem T_Reader_aimBehind {l0 l1 : Int} {σ : mS} {r : Int × mS} (h : M_Reader_aimBehind l0 l1 σ = some r) : mEx 1 210 [(3, l0), (1, l1)] σ r :=
  ⟨by rw [P_Reader_aimBehind]; exact Nat.le_of_ble_eq_true rfl, by rw [P_Reader_aimBehind]; exact T_Reader_aimBehind_0 TC_Reader_aimBehind h rfl⟩
set_option maxRecDepth 100000 in
theorem P_Reader_readSum : mProg 217 = (c_Reader_readSum, 4) := rfl
set_option maxRecDepth 100000 in
theorem TC_Reader_readSum {G : Nat → List mV → mS → Option (Int × mS)} {d : Nat} (hG : ∀ k as σ p, G k as σ = some p → mEx d k as σ p) (hd : 1 ≤ d) : ∀ k as σ p, C_Reader_readSum G k as σ = some p → mEx d k as σ p := by
  intro k as σ p hp
  unfold C_Reader_readSum at hp
  split at hp
  · exact (T_Reader_kindHere hp).up (Nat.le_trans (Nat.le_of_ble_eq_true rfl) hd)
  · exact (T_Reader_emit hp).up (Nat.le_trans (Nat.le_of_ble_eq_true rfl) hd)
  · exact hG _ _ _ _ hp
  · cases hp
set_option maxRecDepth 100000 in
theorem T_Reader_readSum_26 {G : Nat → List mV → mS → Option (Int × mS)} {d : Nat} (hC : ∀ k as σ p, C_Reader_readSum G k as σ = some p → mEx d k as σ p) {l0 l1 l2 s0 : Int} {σ : mS} {b : ((Int × mS) ⊕ (Int × mS))} {r : Int × mS} (h : M_Reader_readSum_26 G l0 l1 l2 s0 σ = some b) (hk : (Sum.elim (fun (s : Int × mS) r => mG (d + 1) 217 8 [(3, l0), (1, l1), (1, s.1), (0, 0)] [] s.2 r) (fun b r => r = b)) b r) : mG (d + 1) 217 26 [(3, l0), (1, l1), (1, l2), (0, 0)] [(1, s0)] σ r := by
  refine mblk_ok2 P_Reader_readSum (F := F_Reader_readSum_26 G) (Sum.elim (fun (s : Int × mS) r => mG (d + 1) 217 8 [(3, l0), (1, l1), (1, s.1), (0, 0)] [] s.2 r) (fun b r => r = b)) [([(8, 36), (39, 45)], [0, 1])] [(26, 45)] [(3, l0), (1, l1), (1, l2), (0, 0)] (by decide +kernel) rfl hC ?_ (fun v σ b r hb hk => by cases hb; exact hk) _ 26 [(3, l0), (1, l1), (1, l2), (0, 0)] [(1, s0)] σ b r rfl (mJ_self _ _ _) ((E_Reader_readSum_26 G l0 l1 l2 s0 σ).trans h) hk
  intro i L st σ b r hj hb hk
  unfold F_Reader_readSum_26 at hb
  split at hb
  · have key : ∀ (k0 k1 k2 : Int) (k3 : mV) (σ : mS) (b : ((Int × mS) ⊕ (Int × mS))) (r : Int × mS), mJ [(3, l0), (1, l1), (1, l2), (0, 0)] 8 [(3, k0), (1, k1), (1, k2), k3] [([(8, 36), (39, 45)], [0, 1])] → (some (.inl (k2, σ))) = some b → (Sum.elim (fun (s : Int × mS) r => mG (d + 1) 217 8 [(3, l0), (1, l1), (1, s.1), (0, 0)] [] s.2 r) (fun b r => r = b)) b r → mG (d + 1) 217 8 [(3, k0), (1, k1), (1, k2), k3] [] σ r := by
      intro k0 k1 k2 k3 σ b r hj hb hk
      have e0 : k0 = l0 := (Prod.mk.inj (Option.some.inj ((hj.1 rfl).1))).2
      subst e0
      have e1 : k1 = l1 := (Prod.mk.inj (Option.some.inj ((hj.1 rfl).2.1))).2
      subst e1
      cases hb
      exact mG.lle hk (lle_cons (lle_cons (lle_cons (lle_dead lle_nil))))
    exact key _ _ _ _ σ b r hj hb hk
  · cases hb
set_option maxRecDepth 100000 in
theorem T_Reader_readSum_19 {G : Nat → List mV → mS → Option (Int × mS)} {d : Nat} (hC : ∀ k as σ p, C_Reader_readSum G k as σ = some p → mEx d k as σ p) {l0 l1 l2 : Int} {σ : mS} {b : ((Int × mS) ⊕ (Int × mS))} {r : Int × mS} (h : M_Reader_readSum_19 G l0 l1 l2 σ = some b) (hk : (Sum.elim (fun (s : Int × mS) r => mG (d + 1) 217 8 [(3, l0), (1, l1), (1, s.1), (0, 0)] [] s.2 r) (fun b r => r = b)) b r) : mG (d + 1) 217 19 [(3, l0), (1, l1), (1, l2), (0, 0)] [] σ r := by
  refine mblk_ok2 P_Reader_readSum (F := F_Reader_readSum_19 G) (Sum.elim (fun (s : Int × mS) r => mG (d + 1) 217 8 [(3, l0), (1, l1), (1, s.1), (0, 0)] [] s.2 r) (fun b r => r = b)) [([(8, 36), (39, 45)], [0, 1])] [(19, 25)] [(3, l0), (1, l1), (1, l2), (0, 0)] (by decide +kernel) rfl hC ?_ (fun v σ b r hb hk => by cases hb; exact hk) _ 19 [(3, l0), (1, l1), (1, l2), (0, 0)] [] σ b r rfl (mJ_self _ _ _) ((E_Reader_readSum_19 G l0 l1 l2 σ).trans h) hk
  intro i L st σ b r hj hb hk
  unfold F_Reader_readSum_19 at hb
  split at hb
  · have key : ∀ (k0 k1 k2 u0 : Int) (k3 : mV) (σ : mS) (b : ((Int × mS) ⊕ (Int × mS))) (r : Int × mS), mJ [(3, l0), (1, l1), (1, l2), (0, 0)] 26 [(3, k0), (1, k1), (1, k2), k3] [([(8, 36), (39, 45)], [0, 1])] → (M_Reader_readSum_26 G k0 k1 k2 u0 σ) = some b → (Sum.elim (fun (s : Int × mS) r => mG (d + 1) 217 8 [(3, l0), (1, l1), (1, s.1), (0, 0)] [] s.2 r) (fun b r => r = b)) b r → mG (d + 1) 217 26 [(3, k0), (1, k1), (1, k2), k3] [(1, u0)] σ r := by
      intro k0 k1 k2 u0 k3 σ b r hj hb hk
      have e0 : k0 = l0 := (Prod.mk.inj (Option.some.inj ((hj.1 rfl).1))).2
      subst e0
      have e1 : k1 = l1 := (Prod.mk.inj (Option.some.inj ((hj.1 rfl).2.1))).2
      subst e1
      exact (T_Reader_readSum_26 hC hb hk).lle (lle_cons (lle_cons (lle_cons (lle_dead lle_nil))))
    exact key _ _ _ _ _ σ b r hj hb hk
  · cases hb
set_option maxRecDepth 100000 in
theorem TB_Reader_readSum_8 {G : Nat → List mV → mS → Option (Int × mS)} {d : Nat} (hC : ∀ k as σ p, C_Reader_readSum G k as σ = some p → mEx d k as σ p) {l0 l1 l2 : Int} {σ : mS} {b : ((Int × mS) ⊕ (Int × mS))} {r : Int × mS} (h : B_Reader_readSum_8 G l0 l1 l2 σ = some b) (hk : (Sum.elim (fun (s : Int × mS) r => mG (d + 1) 217 8 [(3, l0), (1, l1), (1, s.1), (0, 0)] [] s.2 r) (fun b r => r = b)) b r) : mG (d + 1) 217 8 [(3, l0), (1, l1), (1, l2), (0, 0)] [] σ r := by
  refine mblk_ok2 P_Reader_readSum (F := F_Reader_readSum_8 G) (Sum.elim (fun (s : Int × mS) r => mG (d + 1) 217 8 [(3, l0), (1, l1), (1, s.1), (0, 0)] [] s.2 r) (fun b r => r = b)) [([(8, 36), (39, 45)], [0, 1])] [(8, 18), (46, 47)] [(3, l0), (1, l1), (1, l2), (0, 0)] (by decide +kernel) rfl hC ?_ (fun v σ b r hb hk => by cases hb; exact hk) _ 8 [(3, l0), (1, l1), (1, l2), (0, 0)] [] σ b r rfl (mJ_self _ _ _) ((E_Reader_readSum_8 G l0 l1 l2 σ).trans h) hk
  intro i L st σ b r hj hb hk
  unfold F_Reader_readSum_8 at hb
  split at hb
  · have key : ∀ (k0 k1 k2 : Int) (k3 : mV) (σ : mS) (b : ((Int × mS) ⊕ (Int × mS))) (r : Int × mS), mJ [(3, l0), (1, l1), (1, l2), (0, 0)] 19 [(3, k0), (1, k1), (1, k2), k3] [([(8, 36), (39, 45)], [0, 1])] → (M_Reader_readSum_19 G k0 k1 k2 σ) = some b → (Sum.elim (fun (s : Int × mS) r => mG (d + 1) 217 8 [(3, l0), (1, l1), (1, s.1), (0, 0)] [] s.2 r) (fun b r => r = b)) b r → mG (d + 1) 217 19 [(3, k0), (1, k1), (1, k2), k3] [] σ r := by
      intro k0 k1 k2 k3 σ b r hj hb hk
      have e0 : k0 = l0 := (Prod.mk.inj (Option.some.inj ((hj.1 rfl).1))).2
      subst e0
      have e1 : k1 = l1 := (Prod.mk.inj (Option.some.inj ((hj.1 rfl).2.1))).2
      subst e1
      exact (T_Reader_readSum_19 hC hb hk).lle (lle_cons (lle_cons (lle_cons (lle_dead lle_nil))))
    exact key _ _ _ _ σ b r hj hb hk
  · cases hb
set_option maxRecDepth 100000 in
theorem T_Reader_readSum_8 {G : Nat → List mV → mS → Option (Int × mS)} {d : Nat} (hC : ∀ k as σ p, C_Reader_readSum G k as σ = some p → mEx d k as σ p) {l0 l1 l2 : Int} {σ : mS} {b : Int × mS} {r : Int × mS} (h : M_Reader_readSum_8 G l0 l1 l2 σ = some b) (hk : (fun b r => r = b) b r) : mG (d + 1) 217 8 [(3, l0), (1, l1), (1, l2), (0, 0)] [] σ r :=
  miter_ok (G := fun (s : Int × mS) r => mG (d + 1) 217 8 [(3, l0), (1, l1), (1, s.1), (0, 0)] [] s.2 r) (K := (fun b r => r = b)) (fun s x r hs hx => TB_Reader_readSum_8 hC hs hx) mN _ b r h hk
set_option maxRecDepth 100000 in
theorem T_Reader_readSum_0 {G : Nat → List mV → mS → Option (Int × mS)} {d : Nat} (hC : ∀ k as σ p, C_Reader_readSum G k as σ = some p → mEx d k as σ p) {l0 l1 : Int} {σ : mS} {b : Int × mS} {r : Int × mS} (h : B_Reader_readSum G l0 l1 σ = some b) (hk : (fun b r => r = b) b r) : mG (d + 1) 217 0 (mInit 4 [(3, l0), (1, l1)]) [] σ r := by
  refine mblk_ok1 P_Reader_readSum (F := F_Reader_readSum_0 G) (fun b r => r = b) hC ?_ (fun v σ b r hb hk => by cases hb; exact hk) _ 0 (mInit 4 [(3, l0), (1, l1)]) [] σ b r ((E_Reader_readSum_0 G l0 l1 σ).trans h) hk
  intro i L st σ b r hb hk
  unfold F_Reader_readSum_0 at hb
  split at hb
  · have key : ∀ (k0 k1 k2 : Int) (k3 : mV) (σ : mS) (b : Int × mS) (r : Int × mS), (M_Reader_readSum_8 G k0 k1 k2 σ) = some b → (fun b r => r = b) b r → mG (d + 1) 217 8 [(3, k0), (1, k1), (1, k2), k3] [] σ r := by
      intro k0 k1 k2 k3 σ b r hb hk
      exact (T_Reader_readSum_8 hC hb hk).lle (lle_cons (lle_cons (lle_cons (lle_dead lle_nil))))
    exact key _ _ _ _ σ b r hb hk
  · cases hb
set_option maxRecDepth 100000 in
theorem T_Reader_readSum {G : Nat → List mV → mS → Option (Int × mS)} {d : Nat} (hG : ∀ k as σ p, G k as σ = some p → mEx d k as σ p) (hd : 1 ≤ d) {l0 l1 : Int} {σ : mS} {r : Int × mS} (h : B_Reader_readSum G l0 l1 σ = some r) : mEx (d + 1) 217 [(3, l0), (1, l1)] σ r :=
  ⟨by rw [P_Reader_readSum]; exact Nat.le_of_ble_eq_true rfl, by rw [P_Reader_readSum]; exact T_Reader_readSum_0 (TC_Reader_readSum hG hd) h rfl⟩
set_option maxRecDepth 100000 in
theorem P_Reader_readTerm : mProg 218 = (c_Reader_readTerm, 4) := rfl
set_option maxRecDepth 100000 in
theorem TC_Reader_readTerm {G : Nat → List mV → mS → Option (Int × mS)} {d : Nat} (hG : ∀ k as σ p, G k as σ = some p → mEx d k as σ p) (hd : 1 ≤ d) : ∀ k as σ p, C_Reader_readTerm G k as σ = some p → mEx d k as σ p := by
  intro k as σ p hp
  unfold C_Reader_readTerm at hp
  split at hp
  · exact (T_Reader_kindHere hp).up (Nat.le_trans (Nat.le_of_ble_eq_true rfl) hd)
  · exact (T_Reader_emit hp).up (Nat.le_trans (Nat.le_of_ble_eq_true rfl) hd)
  · exact hG _ _ _ _ hp
  · cases hp
set_option maxRecDepth 100000 in
theorem T_Reader_readTerm_26 {G : Nat → List mV → mS → Option (Int × mS)} {d : Nat} (hC : ∀ k as σ p, C_Reader_readTerm G k as σ = some p → mEx d k as σ p) {l0 l1 l2 s0 : Int} {σ : mS} {b : ((Int × mS) ⊕ (Int × mS))} {r : Int × mS} (h : M_Reader_readTerm_26 G l0 l1 l2 s0 σ = some b) (hk : (Sum.elim (fun (s : Int × mS) r => mG (d + 1) 218 8 [(3, l0), (1, l1), (1, s.1), (0, 0)] [] s.2 r) (fun b r => r = b)) b r) : mG (d + 1) 218 26 [(3, l0), (1, l1), (1, l2), (0, 0)] [(1, s0)] σ r := by
  refine mblk_ok2 P_Reader_readTerm (F := F_Reader_readTerm_26 G) (Sum.elim (fun (s : Int × mS) r => mG (d + 1) 218 8 [(3, l0), (1, l1), (1, s.1), (0, 0)] [] s.2 r) (fun b r => r = b)) [([(8, 36), (39, 45)], [0, 1])] [(26, 45)] [(3, l0), (1, l1), (1, l2), (0, 0)] (by decide +kernel) rfl hC ?_ (fun v σ b r hb hk => by cases hb; exact hk) _ 26 [(3, l0), (1, l1), (1, l2), (0, 0)] [(1, s0)] σ b r rfl (mJ_self _ _ _) ((E_Reader_readTerm_26 G l0 l1 l2 s0 σ).trans h) hk
  intro i L st σ b r hj hb hk
  unfold F_Reader_readTerm_26 at hb
  split at hb
  · have key : ∀ (k0 k1 k2 : Int) (k3 : mV) (σ : mS) (b : ((Int × mS) ⊕ (Int × mS))) (r : Int × mS), mJ [(3, l0), (1, l1), (1, l2), (0, 0)] 8 [(3, k0), (1, k1), (1, k2), k3] [([(8, 36), (39, 45)], [0, 1])] → (some (.inl (k2, σ))) = some b → (Sum.elim (fun (s : Int × mS) r => mG (d + 1) 218 8 [(3, l0), (1, l1), (1, s.1), (0, 0)] [] s.2 r) (fun b r => r = b)) b r → mG (d + 1) 218 8 [(3, k0), (1, k1), (1, k2), k3] [] σ r := by
      intro k0 k1 k2 k3 σ b r hj hb hk
      have e0 : k0 = l0 := (Prod.mk.inj (Option.some.inj ((hj.1 rfl).1))).2
      subst e0
      have e1 : k1 = l1 := (Prod.mk.inj (Option.some.inj ((hj.1 rfl).2.1))).2
      subst e1
      cases hb
      exact mG.lle hk (lle_cons (lle_cons (lle_cons (lle_dead lle_nil))))
    exact key _ _ _ _ σ b r hj hb hk
  · cases hb
set_option maxRecDepth 100000 in
theorem T_Reader_readTerm_19 {G : Nat → List mV → mS → Option (Int × mS)} {d : Nat} (hC : ∀ k as σ p, C_Reader_readTerm G k as σ = some p → mEx d k as σ p) {l0 l1 l2 : Int} {σ : mS} {b : ((Int × mS) ⊕ (Int × mS))} {r : Int × mS} (h : M_Reader_readTerm_19 G l0 l1 l2 σ = some b) (hk : (Sum.elim (fun (s : Int × mS) r => mG (d + 1) 218 8 [(3, l0), (1, l1), (1, s.1), (0, 0)] [] s.2 r) (fun b r => r = b)) b r) : mG (d + 1) 218 19 [(3, l0), (1, l1), (1, l2), (0, 0)] [] σ r := by
  refine mblk_ok2 P_Reader_readTerm (F := F_Reader_readTerm_19 G) (Sum.elim (fun (s : Int × mS) r => mG (d + 1) 218 8 [(3, l0), (1, l1), (1, s.1), (0, 0)] [] s.2 r) (fun b r => r = b)) [([(8, 36), (39, 45)], [0, 1])] [(19, 25)] [(3, l0), (1, l1), (1, l2), (0, 0)] (by decide +kernel) rfl hC ?_ (fun v σ b r hb hk => by cases hb; exact hk) _ 19 [(3, l0), (1, l1), (1, l2), (0, 0)] [] σ b r rfl (mJ_self _ _ _) ((E_Reader_readTerm_19 G l0 l1 l2 σ).trans h) hk
  intro i L st σ b r hj hb hk
  unfold F_Reader_readTerm_19 at hb
  split at hb
  · have key : ∀ (k0 k1 k2 u0 : Int) (k3 : mV) (σ : mS) (b : ((Int × mS) ⊕ (Int × mS))) (r : Int × mS), mJ [(3, l0), (1, l1), (1, l2), (0, 0)] 26 [(3, k0), (1, k1), (1, k2), k3] [([(8, 36), (39, 45)], [0, 1])] → (M_Reader_readTerm_26 G k0 k1 k2 u0 σ) = some b → (Sum.elim (fun (s : Int × mS) r => mG (d + 1) 218 8 [(3, l0), (1, l1), (1, s.1), (0, 0)] [] s.2 r) (fun b r => r = b)) b r → mG (d + 1) 218 26 [(3, k0), (1, k1), (1, k2), k3] [(1, u0)] σ r := by
      intro k0 k1 k2 u0 k3 σ b r hj hb hk
      have e0 : k0 = l0 := (Prod.mk.inj (Option.some.inj ((hj.1 rfl).1))).2
      subst e0
      have e1 : k1 = l1 := (Prod.mk.inj (Option.some.inj ((hj.1 rfl).2.1))).2
      subst e1
      exact (T_Reader_readTerm_26 hC hb hk).lle (lle_cons (lle_cons (lle_cons (lle_dead lle_nil))))
    exact key _ _ _ _ _ σ b r hj hb hk
  · cases hb
set_option maxRecDepth 100000 in
theorem TB_Reader_readTerm_8 {G : Nat → List mV → mS → Option (Int × mS)} {d : Nat} (hC : ∀ k as σ p, C_Reader_readTerm G k as σ = some p → mEx d k as σ p) {l0 l1 l2 : Int} {σ : mS} {b : ((Int × mS) ⊕ (Int × mS))} {r : Int × mS} (h : B_Reader_readTerm_8 G l0 l1 l2 σ = some b) (hk : (Sum.elim (fun (s : Int × mS) r => mG (d + 1) 218 8 [(3, l0), (1, l1), (1, s.1), (0, 0)] [] s.2 r) (fun b r => r = b)) b r) : mG (d + 1) 218 8 [(3, l0), (1, l1), (1, l2), (0, 0)] [] σ r := by
  refine mblk_ok2 P_Reader_readTerm (F := F_Reader_readTerm_8 G) (Sum.elim (fun (s : Int × mS) r => mG (d + 1) 218 8 [(3, l0), (1, l1), (1, s.1), (0, 0)] [] s.2 r) (fun b r => r = b)) [([(8, 36), (39, 45)], [0, 1])] [(8, 18), (46, 47)] [(3, l0), (1, l1), (1, l2), (0, 0)] (by decide +kernel) rfl hC ?_ (fun v σ b r hb hk => by cases hb; exact hk) _ 8 [(3, l0), (1, l1), (1, l2), (0, 0)] [] σ b r rfl (mJ_self _ _ _) ((E_Reader_readTerm_8 G l0 l1 l2 σ).trans h) hk
  intro i L st σ b r hj hb hk
  unfold F_Reader_readTerm_8 at hb
  split at hb
  · have key : ∀ (k0 k1 k2 : Int) (k3 : mV) (σ : mS) (b : ((Int × mS) ⊕ (Int × mS))) (r : Int × mS), mJ [(3, l0), (1, l1), (1, l2), (0, 0)] 19 [(3, k0), (1, k1), (1, k2), k3] [([(8, 36), (39, 45)], [0, 1])] → (M_Reader_readTerm_19 G k0 k1 k2 σ) = some b → (Sum.elim (fun (s : Int × mS) r => mG (d + 1) 218 8 [(3, l0), (1, l1), (1, s.1), (0, 0)] [] s.2 r) (fun b r => r = b)) b r → mG (d + 1) 218 19 [(3, k0), (1, k1), (1, k2), k3] [] σ r := by
      intro k0 k1 k2 k3 σ b r hj hb hk
      have e0 : k0 = l0 := (Prod.mk.inj (Option.some.inj ((hj.1 rfl).1))).2
      subst e0
      have e1 : k1 = l1 := (Prod.mk.inj (Option.some.inj ((hj.1 rfl).2.1))).2
      subst e1
      exact (T_Reader_readTerm_19 hC hb hk).lle (lle_cons (lle_cons (lle_cons (lle_dead lle_nil))))
    exact key _ _ _ _ σ b r hj hb hk
  · cases hb
set_option maxRecDepth 100000 in
theorem T_Reader_readTerm_8 {G : Nat → List mV → mS → Option (Int × mS)} {d : Nat} (hC : ∀ k as σ p, C_Reader_readTerm G k as σ = some p → mEx d k as σ p) {l0 l1 l2 : Int} {σ : mS} {b : Int × mS} {r : Int × mS} (h : M_Reader_readTerm_8 G l0 l1 l2 σ = some b) (hk : (fun b r => r = b) b r) : mG (d + 1) 218 8 [(3, l0), (1, l1), (1, l2), (0, 0)] [] σ r :=
  miter_ok (G := fun (s : Int × mS) r => mG (d + 1) 218 8 [(3, l0), (1, l1), (1, s.1), (0, 0)] [] s.2 r) (K := (fun b r => r = b)) (fun s x r hs hx => TB_Reader_readTerm_8 hC hs hx) mN _ b r h hk
set_option maxRecDepth 100000 in
theorem T_Reader_readTerm_0 {G : Nat → List mV → mS → Option (Int × mS)} {d : Nat} (hC : ∀ k as σ p, C_Reader_readTerm G k as σ = some p → mEx d k as σ p) {l0 l1 : Int} {σ : mS} {b : Int × mS} {r : Int × mS} (h : B_Reader_readTerm G l0 l1 σ = some b) (hk : (fun b r => r = b) b r) : mG (d + 1) 218 0 (mInit 4 [(3, l0), (1, l1)]) [] σ r := by
  refine mblk_ok1 P_Reader_readTerm (F := F_Reader_readTerm_0 G) (fun b r => r = b) hC ?_ (fun v σ b r hb hk => by cases hb; exact hk) _ 0 (mInit 4 [(3, l0), (1, l1)]) [] σ b r ((E_Reader_readTerm_0 G l0 l1 σ).trans h) hk
  intro i L st σ b r hb hk
  unfold F_Reader_readTerm_0 at hb
  split at hb
  · have key : ∀ (k0 k1 k2 : Int) (k3 : mV) (σ : mS) (b : Int × mS) (r : Int × mS), (M_Reader_readTerm_8 G k0 k1 k2 σ) = some b → (fun b r => r = b) b r → mG (d + 1) 218 8 [(3, k0), (1, k1), (1, k2), k3] [] σ r := by
      intro k0 k1 k2 k3 σ b r hb hk
      exact (T_Reader_readTerm_8 hC hb hk).lle (lle_cons (lle_cons (lle_cons (lle_dead lle_nil))))
    exact key _ _ _ _ σ b r hb hk
  · cases hb
set_option maxRecDepth 100000 in
theorem T_Reader_readTerm {G : Nat → List mV → mS → Option (Int × mS)} {d : Nat} (hG : ∀ k as σ p, G k as σ = some p → mEx d k as σ p) (hd : 1 ≤ d) {l0 l1 : Int} {σ : mS} {r : Int × mS} (h : B_Reader_readTerm G l0 l1 σ = some r) : mEx (d + 1) 218 [(3, l0), (1, l1)] σ r :=
  ⟨by rw [P_Reader_readTerm]; exact Nat.le_of_ble_eq_true rfl, by rw [P_Reader_readTerm]; exact T_Reader_readTerm_0 (TC_Reader_readTerm hG hd) h rfl⟩
set_option maxRecDepth 100000 in
theorem P_Reader_readPart : mProg 219 = (c_Reader_readPart, 5) := rfl
set_option maxRecDepth 100000 in
theorem TC_Reader_readPart {G : Nat → List mV → mS → Option (Int × mS)} {d : Nat} (hG : ∀ k as σ p, G k as σ = some p → mEx d k as σ p) (hd : 1 ≤ d) : ∀ k as σ p, C_Reader_readPart G k as σ = some p → mEx d k as σ p := by
  intro k as σ p hp
  unfold C_Reader_readPart at hp
  split at hp
  · exact (T_Reader_kindHere hp).up (Nat.le_trans (Nat.le_of_ble_eq_true rfl) hd)
  · exact (T_Reader_takes hp).up (Nat.le_trans (Nat.le_of_ble_eq_true rfl) hd)
  · exact (T_Reader_emit hp).up (Nat.le_trans (Nat.le_of_ble_eq_true rfl) hd)
  · exact hG _ _ _ _ hp
  · cases hp
set_option maxRecDepth 100000 in
theorem T_Reader_readPart_91 {G : Nat → List mV → mS → Option (Int × mS)} {d : Nat} (hC : ∀ k as σ p, C_Reader_readPart G k as σ = some p → mEx d k as σ p) {l0 : Int} {σ : mS} {b : Int × mS} {r : Int × mS} (h : M_Reader_readPart_91 G l0 σ = some b) (hk : (fun b r => r = b) b r) : mG (d + 1) 219 91 [(3, l0), (0, 0), (0, 0), (0, 0), (0, 0)] [] σ r := by
  refine mblk_ok1 P_Reader_readPart (F := F_Reader_readPart_91 G) (fun b r => r = b) hC ?_ (fun v σ b r hb hk => by cases hb; exact hk) _ 91 [(3, l0), (0, 0), (0, 0), (0, 0), (0, 0)] [] σ b r ((E_Reader_readPart_91 G l0 σ).trans h) hk
  intro i L st σ b r hb hk
  cases hb
set_option maxRecDepth 100000 in
theorem T_Reader_readPart_90 {G : Nat → List mV → mS → Option (Int × mS)} {d : Nat} (hC : ∀ k as σ p, C_Reader_readPart G k as σ = some p → mEx d k as σ p) {l0 s1 s0 : Int} {σ : mS} {b : Int × mS} {r : Int × mS} (h : M_Reader_readPart_90 G l0 s1 s0 σ = some b) (hk : (fun b r => r = b) b r) : mG (d + 1) 219 90 [(3, l0), (0, 0), (0, 0), (0, 0), (0, 0)] [(1, s1), (3, s0)] σ r := by
  refine mblk_ok1 P_Reader_readPart (F := F_Reader_readPart_90 G) (fun b r => r = b) hC ?_ (fun v σ b r hb hk => by cases hb; exact hk) _ 90 [(3, l0), (0, 0), (0, 0), (0, 0), (0, 0)] [(1, s1), (3, s0)] σ b r ((E_Reader_readPart_90 G l0 s1 s0 σ).trans h) hk
  intro i L st σ b r hb hk
  unfold F_Reader_readPart_90 at hb
  split at hb
  · have key : ∀ (k0 : Int) (k1 k2 k3 k4 : mV) (σ : mS) (b : Int × mS) (r : Int × mS), (M_Reader_readPart_91 G k0 σ) = some b → (fun b r => r = b) b r → mG (d + 1) 219 91 [(3, k0), k1, k2, k3, k4] [] σ r := by
      intro k0 k1 k2 k3 k4 σ b r hb hk
      exact (T_Reader_readPart_91 hC hb hk).lle (lle_cons (lle_dead (lle_dead (lle_dead (lle_dead lle_nil)))))
    exact key _ _ _ _ _ σ b r hb hk
  · cases hb
set_option maxRecDepth 100000 in
theorem T_Reader_readPart_87 {G : Nat → List mV → mS → Option (Int × mS)} {d : Nat} (hC : ∀ k as σ p, C_Reader_readPart G k as σ = some p → mEx d k as σ p) {l0 s0 : Int} {σ : mS} {b : Int × mS} {r : Int × mS} (h : M_Reader_readPart_87 G l0 s0 σ = some b) (hk : (fun b r => r = b) b r) : mG (d + 1) 219 87 [(3, l0), (0, 0), (0, 0), (0, 0), (0, 0)] [(3, s0)] σ r := by
  refine mblk_ok1 P_Reader_readPart (F := F_Reader_readPart_87 G) (fun b r => r = b) hC ?_ (fun v σ b r hb hk => by cases hb; exact hk) _ 87 [(3, l0), (0, 0), (0, 0), (0, 0), (0, 0)] [(3, s0)] σ b r ((E_Reader_readPart_87 G l0 s0 σ).trans h) hk
  intro i L st σ b r hb hk
  unfold F_Reader_readPart_87 at hb
  split at hb
  · have key : ∀ (k0 u1 u0 : Int) (k1 k2 k3 k4 : mV) (σ : mS) (b : Int × mS) (r : Int × mS), (M_Reader_readPart_90 G k0 u1 u0 σ) = some b → (fun b r => r = b) b r → mG (d + 1) 219 90 [(3, k0), k1, k2, k3, k4] [(1, u1), (3, u0)] σ r := by
      intro k0 u1 u0 k1 k2 k3 k4 σ b r hb hk
      exact (T_Reader_readPart_90 hC hb hk).lle (lle_cons (lle_dead (lle_dead (lle_dead (lle_dead lle_nil)))))
    exact key _ _ _ _ _ _ _ σ b r hb hk
  · cases hb
set_option maxRecDepth 100000 in
theorem T_Reader_readPart_55 {G : Nat → List mV → mS → Option (Int × mS)} {d : Nat} (hC : ∀ k as σ p, C_Reader_readPart G k as σ = some p → mEx d k as σ p) {l0 l2 l3 : Int} {σ : mS} {b : Int × mS} {r : Int × mS} (h : M_Reader_readPart_55 G l0 l2 l3 σ = some b) (hk : (fun b r => r = b) b r) : mG (d + 1) 219 55 [(3, l0), (0, 0), (1, l2), (1, l3), (0, 0)] [] σ r := by
  refine mblk_ok1 P_Reader_readPart (F := F_Reader_readPart_55 G) (fun b r => r = b) hC ?_ (fun v σ b r hb hk => by cases hb; exact hk) _ 55 [(3, l0), (0, 0), (1, l2), (1, l3), (0, 0)] [] σ b r ((E_Reader_readPart_55 G l0 l2 l3 σ).trans h) hk
  intro i L st σ b r hb hk
  unfold F_Reader_readPart_55 at hb
  split at hb
  · have key : ∀ (k0 u0 : Int) (k1 k2 k3 k4 : mV) (σ : mS) (b : Int × mS) (r : Int × mS), (M_Reader_readPart_87 G k0 u0 σ) = some b → (fun b r => r = b) b r → mG (d + 1) 219 87 [(3, k0), k1, k2, k3, k4] [(3, u0)] σ r := by
      intro k0 u0 k1 k2 k3 k4 σ b r hb hk
      exact (T_Reader_readPart_87 hC hb hk).lle (lle_cons (lle_dead (lle_dead (lle_dead (lle_dead lle_nil)))))
    exact key _ _ _ _ _ _ σ b r hb hk
  · have key : ∀ (k0 u1 u0 : Int) (k1 k2 k3 k4 : mV) (σ : mS) (b : Int × mS) (r : Int × mS), (M_Reader_readPart_90 G k0 u1 u0 σ) = some b → (fun b r => r = b) b r → mG (d + 1) 219 90 [(3, k0), k1, k2, k3, k4] [(1, u1), (3, u0)] σ r := by
      intro k0 u1 u0 k1 k2 k3 k4 σ b r hb hk
      exact (T_Reader_readPart_90 hC hb hk).lle (lle_cons (lle_dead (lle_dead (lle_dead (lle_dead lle_nil)))))
    exact key _ _ _ _ _ _ _ σ b r hb hk
  · have key : ∀ (k0 : Int) (k1 k2 k3 k4 : mV) (σ : mS) (b : Int × mS) (r : Int × mS), (M_Reader_readPart_91 G k0 σ) = some b → (fun b r => r = b) b r → mG (d + 1) 219 91 [(3, k0), k1, k2, k3, k4] [] σ r := by
      intro k0 k1 k2 k3 k4 σ b r hb hk
      exact (T_Reader_readPart_91 hC hb hk).lle (lle_cons (lle_dead (lle_dead (lle_dead (lle_dead lle_nil)))))
    exact key _ _ _ _ _ σ b r hb hk
  · cases hb
set_option maxRecDepth 100000 in
theorem T_Reader_readPart_50 {G : Nat → List mV → mS → Option (Int × mS)} {d : Nat} (hC : ∀ k as σ p, C_Reader_readPart G k as σ = some p → mEx d k as σ p) {l0 l2 l3 s0 : Int} {σ : mS} {b : Int × mS} {r : Int × mS} (h : M_Reader_readPart_50 G l0 l2 l3 s0 σ = some b) (hk : (fun b r => r = b) b r) : mG (d + 1) 219 50 [(3, l0), (0, 0), (1, l2), (1, l3), (0, 0)] [(1, s0)] σ r := by
  refine mblk_ok1 P_Reader_readPart (F := F_Reader_readPart_50 G) (fun b r => r = b) hC ?_ (fun v σ b r hb hk => by cases hb; exact hk) _ 50 [(3, l0), (0, 0), (1, l2), (1, l3), (0, 0)] [(1, s0)] σ b r ((E_Reader_readPart_50 G l0 l2 l3 s0 σ).trans h) hk
  intro i L st σ b r hb hk
  unfold F_Reader_readPart_50 at hb
  split at hb
  · have key : ∀ (k0 k2 k3 : Int) (k1 k4 : mV) (σ : mS) (b : Int × mS) (r : Int × mS), (M_Reader_readPart_55 G k0 k2 k3 σ) = some b → (fun b r => r = b) b r → mG (d + 1) 219 55 [(3, k0), k1, (1, k2), (1, k3), k4] [] σ r := by
      intro k0 k2 k3 k1 k4 σ b r hb hk
      exact (T_Reader_readPart_55 hC hb hk).lle (lle_cons (lle_dead (lle_cons (lle_cons (lle_dead lle_nil)))))
    exact key _ _ _ _ _ σ b r hb hk
  · cases hb
set_option maxRecDepth 100000 in
theorem T_Reader_readPart_49 {G : Nat → List mV → mS → Option (Int × mS)} {d : Nat} (hC : ∀ k as σ p, C_Reader_readPart G k as σ = some p → mEx d k as σ p) {l0 l2 l3 : Int} {σ : mS} {b : Int × mS} {r : Int × mS} (h : M_Reader_readPart_49 G l0 l2 l3 σ = some b) (hk : (fun b r => r = b) b r) : mG (d + 1) 219 49 [(3, l0), (0, 0), (1, l2), (1, l3), (0, 0)] [] σ r := by
  refine mblk_ok1 P_Reader_readPart (F := F_Reader_readPart_49 G) (fun b r => r = b) hC ?_ (fun v σ b r hb hk => by cases hb; exact hk) _ 49 [(3, l0), (0, 0), (1, l2), (1, l3), (0, 0)] [] σ b r ((E_Reader_readPart_49 G l0 l2 l3 σ).trans h) hk
  intro i L st σ b r hb hk
  unfold F_Reader_readPart_49 at hb
  split at hb
  · have key : ∀ (k0 k2 k3 u0 : Int) (k1 k4 : mV) (σ : mS) (b : Int × mS) (r : Int × mS), (M_Reader_readPart_50 G k0 k2 k3 u0 σ) = some b → (fun b r => r = b) b r → mG (d + 1) 219 50 [(3, k0), k1, (1, k2), (1, k3), k4] [(1, u0)] σ r := by
      intro k0 k2 k3 u0 k1 k4 σ b r hb hk
      exact (T_Reader_readPart_50 hC hb hk).lle (lle_cons (lle_dead (lle_cons (lle_cons (lle_dead lle_nil)))))
    exact key _ _ _ _ _ _ σ b r hb hk
  · cases hb
set_option maxRecDepth 100000 in
theorem T_Reader_readPart_40 {G : Nat → List mV → mS → Option (Int × mS)} {d : Nat} (hC : ∀ k as σ p, C_Reader_readPart G k as σ = some p → mEx d k as σ p) {l0 l2 s0 : Int} {σ : mS} {b : Int × mS} {r : Int × mS} (h : M_Reader_readPart_40 G l0 l2 s0 σ = some b) (hk : (fun b r => r = b) b r) : mG (d + 1) 219 40 [(3, l0), (0, 0), (1, l2), (0, 0), (0, 0)] [(1, s0)] σ r := by
  refine mblk_ok1 P_Reader_readPart (F := F_Reader_readPart_40 G) (fun b r => r = b) hC ?_ (fun v σ b r hb hk => by cases hb; exact hk) _ 40 [(3, l0), (0, 0), (1, l2), (0, 0), (0, 0)] [(1, s0)] σ b r ((E_Reader_readPart_40 G l0 l2 s0 σ).trans h) hk
  intro i L st σ b r hb hk
  unfold F_Reader_readPart_40 at hb
  split at hb
  · have key : ∀ (k0 k2 k3 : Int) (k1 k4 : mV) (σ : mS) (b : Int × mS) (r : Int × mS), (M_Reader_readPart_49 G k0 k2 k3 σ) = some b → (fun b r => r = b) b r → mG (d + 1) 219 49 [(3, k0), k1, (1, k2), (1, k3), k4] [] σ r := by
      intro k0 k2 k3 k1 k4 σ b r hb hk
      exact (T_Reader_readPart_49 hC hb hk).lle (lle_cons (lle_dead (lle_cons (lle_cons (lle_dead lle_nil)))))
    exact key _ _ _ _ _ σ b r hb hk
  · have key : ∀ (k0 k2 k3 u0 : Int) (k1 k4 : mV) (σ : mS) (b : Int × mS) (r : Int × mS), (M_Reader_readPart_50 G k0 k2 k3 u0 σ) = some b → (fun b r => r = b) b r → mG (d + 1) 219 50 [(3, k0), k1, (1, k2), (1, k3), k4] [(1, u0)] σ r := by
      intro k0 k2 k3 u0 k1 k4 σ b r hb hk
      exact (T_Reader_readPart_50 hC hb hk).lle (lle_cons (lle_dead (lle_cons (lle_cons (lle_dead lle_nil)))))
    exact key _ _ _ _ _ _ σ b r hb hk
  · cases hb
set_option maxRecDepth 100000 in
theorem T_Reader_readPart_39 {G : Nat → List mV → mS → Option (Int × mS)} {d : Nat} (hC : ∀ k as σ p, C_Reader_readPart G k as σ = some p → mEx d k as σ p) {l0 l2 : Int} {σ : mS} {b : Int × mS} {r : Int × mS} (h : M_Reader_readPart_39 G l0 l2 σ = some b) (hk : (fun b r => r = b) b r) : mG (d + 1) 219 39 [(3, l0), (0, 0), (1, l2), (0, 0), (0, 0)] [] σ r := by
  refine mblk_ok1 P_Reader_readPart (F := F_Reader_readPart_39 G) (fun b r => r = b) hC ?_ (fun v σ b r hb hk => by cases hb; exact hk) _ 39 [(3, l0), (0, 0), (1, l2), (0, 0), (0, 0)] [] σ b r ((E_Reader_readPart_39 G l0 l2 σ).trans h) hk
  intro i L st σ b r hb hk
  unfold F_Reader_readPart_39 at hb
  split at hb
  · have key : ∀ (k0 k2 u0 : Int) (k1 k3 k4 : mV) (σ : mS) (b : Int × mS) (r : Int × mS), (M_Reader_readPart_40 G k0 k2 u0 σ) = some b → (fun b r => r = b) b r → mG (d + 1) 219 40 [(3, k0), k1, (1, k2), k3, k4] [(1, u0)] σ r := by
      intro k0 k2 u0 k1 k3 k4 σ b r hb hk
      exact (T_Reader_readPart_40 hC hb hk).lle (lle_cons (lle_dead (lle_cons (lle_dead (lle_dead lle_nil)))))
    exact key _ _ _ _ _ _ σ b r hb hk
  · cases hb
set_option maxRecDepth 100000 in
theorem T_Reader_readPart_0 {G : Nat → List mV → mS → Option (Int × mS)} {d : Nat} (hC : ∀ k as σ p, C_Reader_readPart G k as σ = some p → mEx d k as σ p) {l0 l1 : Int} {σ : mS} {b : Int × mS} {r : Int × mS} (h : B_Reader_readPart G l0 l1 σ = some b) (hk : (fun b r => r = b) b r) : mG (d + 1) 219 0 (mInit 5 [(3, l0), (1, l1)]) [] σ r := by
  refine mblk_ok1 P_Reader_readPart (F := F_Reader_readPart_0 G) (fun b r => r = b) hC ?_ (fun v σ b r hb hk => by cases hb; exact hk) _ 0 (mInit 5 [(3, l0), (1, l1)]) [] σ b r ((E_Reader_readPart_0 G l0 l1 σ).trans h) hk
  intro i L st σ b r hb hk
  unfold F_Reader_readPart_0 at hb
  split at hb
  · have key : ∀ (k0 k2 : Int) (k1 k3 k4 : mV) (σ : mS) (b : Int × mS) (r : Int × mS), (M_Reader_readPart_39 G k0 k2 σ) = some b → (fun b r => r = b) b r → mG (d + 1) 219 39 [(3, k0), k1, (1, k2), k3, k4] [] σ r := by
      intro k0 k2 k1 k3 k4 σ b r hb hk
      exact (T_Reader_readPart_39 hC hb hk).lle (lle_cons (lle_dead (lle_cons (lle_dead (lle_dead lle_nil)))))
    exact key _ _ _ _ _ σ b r hb hk
  · have key : ∀ (k0 k2 u0 : Int) (k1 k3 k4 : mV) (σ : mS) (b : Int × mS) (r : Int × mS), (M_Reader_readPart_40 G k0 k2 u0 σ) = some b → (fun b r => r = b) b r → mG (d + 1) 219 40 [(3, k0), k1, (1, k2), k3, k4] [(1, u0)] σ r := by
      intro k0 k2 u0 k1 k3 k4 σ b r hb hk
      exact (T_Reader_readPart_40 hC hb hk).lle (lle_cons (lle_dead (lle_cons (lle_dead (lle_dead lle_nil)))))
    exact key _ _ _ _ _ _ σ b r hb hk
  · cases hb
set_option maxRecDepth 100000 in
theorem T_Reader_readPart {G : Nat → List mV → mS → Option (Int × mS)} {d : Nat} (hG : ∀ k as σ p, G k as σ = some p → mEx d k as σ p) (hd : 1 ≤ d) {l0 l1 : Int} {σ : mS} {r : Int × mS} (h : B_Reader_readPart G l0 l1 σ = some r) : mEx (d + 1) 219 [(3, l0), (1, l1)] σ r :=
  ⟨by rw [P_Reader_readPart]; exact Nat.le_of_ble_eq_true rfl, by rw [P_Reader_readPart]; exact T_Reader_readPart_0 (TC_Reader_readPart hG hd) h rfl⟩
set_option maxRecDepth 100000 in
theorem TR_Reader_readSum : ∀ n k as σ r, R_Reader_readSum n k as σ = some r → mEx (1 + n) k as σ r := by
  intro n
  induction n with
  | zero => intro k as σ r h; cases h
  | succ n ih =>
    intro k as σ r h
    unfold R_Reader_readSum at h
    split at h
    · exact T_Reader_readSum ih (Nat.le_add_right _ _) h
    · exact T_Reader_readTerm ih (Nat.le_add_right _ _) h
    · exact T_Reader_readPart ih (Nat.le_add_right _ _) h
    · cases h
set_option maxRecDepth 100000 in
theorem P_Reader_readComparison : mProg 216 = (c_Reader_readComparison, 3) := rfl
set_option maxRecDepth 100000 in
theorem TC_Reader_readComparison : ∀ k as σ p, C_Reader_readComparison k as σ = some p → mEx 61 k as σ p := by
  intro k as σ p hp
  unfold C_Reader_readComparison at hp
  split at hp
  · exact (T_Reader_kindHere hp).up (Nat.le_of_ble_eq_true rfl)
  · exact (T_Reader_emit hp).up (Nat.le_of_ble_eq_true rfl)
  · exact (TR_Reader_readSum _ _ _ _ _ hp).up (by rw [mD_eq]; exact Nat.le_of_ble_eq_true rfl)
  · cases hp
set_option maxRecDepth 100000 in
theorem T_Reader_readComparison_20 {d : Nat} (hC : ∀ k as σ p, C_Reader_readComparison k as σ = some p → mEx d k as σ p) {l0 l1 l2 : Int} {σ : mS} {b : Int × mS} {r : Int × mS} (h : M_Reader_readComparison_20 l0 l1 l2 σ = some b) (hk : (fun b r => r = b) b r) : mG (d + 1) 216 20 [(3, l0), (1, l1), (1, l2)] [] σ r := by
  refine mblk_ok1 P_Reader_readComparison (F := F_Reader_readComparison_20) (fun b r => r = b) hC ?_ (fun v σ b r hb hk => by cases hb; exact hk) _ 20 [(3, l0), (1, l1), (1, l2)] [] σ b r ((E_Reader_readComparison_20 l0 l1 l2 σ).trans h) hk
  intro i L st σ b r hb hk
  cases hb
set_option maxRecDepth 100000 in
theorem T_Reader_readComparison_0 {d : Nat} (hC : ∀ k as σ p, C_Reader_readComparison k as σ = some p → mEx d k as σ p) {l0 l1 : Int} {σ : mS} {b : Int × mS} {r : Int × mS} (h : M_Reader_readComparison l0 l1 σ = some b) (hk : (fun b r => r = b) b r) : mG (d + 1) 216 0 (mInit 3 [(3, l0), (1, l1)]) [] σ r := by
  refine mblk_ok1 P_Reader_readComparison (F := F_Reader_readComparison_0) (fun b r => r = b) hC ?_ (fun v σ b r hb hk => by cases hb; exact hk) _ 0 (mInit 3 [(3, l0), (1, l1)]) [] σ b r ((E_Reader_readComparison_0 l0 l1 σ).trans h) hk
  intro i L st σ b r hb hk
  unfold F_Reader_readComparison_0 at hb
  split at hb
  · have key : ∀ (k0 k1 k2 : Int) (σ : mS) (b : Int × mS) (r : Int × mS), (M_Reader_readComparison_20 k0 k1 k2 σ) = some b → (fun b r => r = b) b r → mG (d + 1) 216 20 [(3, k0), (1, k1), (1, k2)] [] σ r := by
      intro k0 k1 k2 σ b r hb hk
      exact (T_Reader_readComparison_20 hC hb hk).lle (lle_cons (lle_cons (lle_cons lle_nil)))
    exact key _ _ _ σ b r hb hk
  · cases hb
set_option maxRecDepth 100000 in
theorem T_Reader_readComparison {l0 l1 : Int} {σ : mS} {r : Int × mS} (h : M_Reader_readComparison l0 l1 σ = some r) : mEx 62 216 [(3, l0), (1, l1)] σ r :=
  ⟨by rw [P_Reader_readComparison]; exact Nat.le_of_ble_eq_true rfl, by rw [P_Reader_readComparison]; exact T_Reader_readComparison_0 TC_Reader_readComparison h rfl⟩
set_option maxRecDepth 100000 in
theorem P_Reader_readTest : mProg 212 = (c_Reader_readTest, 4) := rfl
set_option maxRecDepth 100000 in
theorem TC_Reader_readTest {G : Nat → List mV → mS → Option (Int × mS)} {d : Nat} (hG : ∀ k as σ p, G k as σ = some p → mEx d k as σ p) (hd : 62 ≤ d) : ∀ k as σ p, C_Reader_readTest G k as σ = some p → mEx d k as σ p := by
  intro k as σ p hp
  unfold C_Reader_readTest at hp
  split at hp
  · exact (T_Reader_takes hp).up (Nat.le_trans (Nat.le_of_ble_eq_true rfl) hd)
  · exact (T_Reader_emit hp).up (Nat.le_trans (Nat.le_of_ble_eq_true rfl) hd)
  · exact (T_Reader_aimBehind hp).up (Nat.le_trans (Nat.le_of_ble_eq_true rfl) hd)
  · exact hG _ _ _ _ hp
  · cases hp
set_option maxRecDepth 100000 in
theorem TB_Reader_readTest_8 {G : Nat → List mV → mS → Option (Int × mS)} {d : Nat} (hC : ∀ k as σ p, C_Reader_readTest G k as σ = some p → mEx d k as σ p) {l0 l1 l2 : Int} {σ : mS} {b : ((Int × mS) ⊕ (Int × mS))} {r : Int × mS} (h : B_Reader_readTest_8 G l0 l1 l2 σ = some b) (hk : (Sum.elim (fun (s : Int × mS) r => mG (d + 1) 212 8 [(3, l0), (1, l1), (1, s.1), (0, 0)] [] s.2 r) (fun b r => r = b)) b r) : mG (d + 1) 212 8 [(3, l0), (1, l1), (1, l2), (0, 0)] [] σ r := by
  refine mblk_ok2 P_Reader_readTest (F := F_Reader_readTest_8 G) (Sum.elim (fun (s : Int × mS) r => mG (d + 1) 212 8 [(3, l0), (1, l1), (1, s.1), (0, 0)] [] s.2 r) (fun b r => r = b)) [([(8, 23), (26, 30)], [0, 1])] [(8, 32)] [(3, l0), (1, l1), (1, l2), (0, 0)] (by decide +kernel) rfl hC ?_ (fun v σ b r hb hk => by cases hb; exact hk) _ 8 [(3, l0), (1, l1), (1, l2), (0, 0)] [] σ b r rfl (mJ_self _ _ _) ((E_Reader_readTest_8 G l0 l1 l2 σ).trans h) hk
  intro i L st σ b r hj hb hk
  unfold F_Reader_readTest_8 at hb
  split at hb
  · have key : ∀ (k0 k1 k2 : Int) (k3 : mV) (σ : mS) (b : ((Int × mS) ⊕ (Int × mS))) (r : Int × mS), mJ [(3, l0), (1, l1), (1, l2), (0, 0)] 8 [(3, k0), (1, k1), (1, k2), k3] [([(8, 23), (26, 30)], [0, 1])] → (some (.inl (k2, σ))) = some b → (Sum.elim (fun (s : Int × mS) r => mG (d + 1) 212 8 [(3, l0), (1, l1), (1, s.1), (0, 0)] [] s.2 r) (fun b r => r = b)) b r → mG (d + 1) 212 8 [(3, k0), (1, k1), (1, k2), k3] [] σ r := by
      intro k0 k1 k2 k3 σ b r hj hb hk
      have e0 : k0 = l0 := (Prod.mk.inj (Option.some.inj ((hj.1 rfl).1))).2
      subst e0
      have e1 : k1 = l1 := (Prod.mk.inj (Option.some.inj ((hj.1 rfl).2.1))).2
      subst e1
      cases hb
      exact mG.lle hk (lle_cons (lle_cons (lle_cons (lle_dead lle_nil))))
    exact key _ _ _ _ σ b r hj hb hk
  · cases hb
set_option maxRecDepth 100000 in
theorem T_Reader_readTest_8 {G : Nat → List mV → mS → Option (Int × mS)} {d : Nat} (hC : ∀ k as σ p, C_Reader_readTest G k as σ = some p → mEx d k as σ p) {l0 l1 l2 : Int} {σ : mS} {b : Int × mS} {r : Int × mS} (h : M_Reader_readTest_8 G l0 l1 l2 σ = some b) (hk : (fun b r => r = b) b r) : mG (d + 1) 212 8 [(3, l0), (1, l1), (1, l2), (0, 0)] [] σ r :=
  miter_ok (G := fun (s : Int × mS) r => mG (d + 1) 212 8 [(3, l0), (1, l1), (1, s.1), (0, 0)] [] s.2 r) (K := (fun b r => r = b)) (fun s x r hs hx => TB_Reader_readTest_8 hC hs hx) mN _ b r h hk
set_option maxRecDepth 100000 in
theorem T_Reader_readTest_0 {G : Nat → List mV → mS → Option (Int × mS)} {d : Nat} (hC : ∀ k as σ p, C_Reader_readTest G k as σ = some p → mEx d k as σ p) {l0 l1 : Int} {σ : mS} {b : Int × mS} {r : Int × mS} (h : B_Reader_readTest G l0 l1 σ = some b) (hk : (fun b r => r = b) b r) : mG (d + 1) 212 0 (mInit 4 [(3, l0), (1, l1)]) [] σ r := by
  refine mblk_ok1 P_Reader_readTest (F := F_Reader_readTest_0 G) (fun b r => r = b) hC ?_ (fun v σ b r hb hk => by cases hb; exact hk) _ 0 (mInit 4 [(3, l0), (1, l1)]) [] σ b r ((E_Reader_readTest_0 G l0 l1 σ).trans h) hk
  intro i L st σ b r hb hk
  unfold F_Reader_readTest_0 at hb
  split at hb
  · have key : ∀ (k0 k1 k2 : Int) (k3 : mV) (σ : mS) (b : Int × mS) (r : Int × mS), (M_Reader_readTest_8 G k0 k1 k2 σ) = some b → (fun b r => r = b) b r → mG (d + 1) 212 8 [(3, k0), (1, k1), (1, k2), k3] [] σ r := by
      intro k0 k1 k2 k3 σ b r hb hk
      exact (T_Reader_readTest_8 hC hb hk).lle (lle_cons (lle_cons (lle_cons (lle_dead lle_nil))))
    exact key _ _ _ _ σ b r hb hk
  · cases hb
set_option maxRecDepth 100000 in
theorem T_Reader_readTest {G : Nat → List mV → mS → Option (Int × mS)} {d : Nat} (hG : ∀ k as σ p, G k as σ = some p → mEx d k as σ p) (hd : 62 ≤ d) {l0 l1 : Int} {σ : mS} {r : Int × mS} (h : B_Reader_readTest G l0 l1 σ = some r) : mEx (d + 1) 212 [(3, l0), (1, l1)] σ r :=
  ⟨by rw [P_Reader_readTest]; exact Nat.le_of_ble_eq_true rfl, by rw [P_Reader_readTest]; exact T_Reader_readTest_0 (TC_Reader_readTest hG hd) h rfl⟩
set_option maxRecDepth 100000 in
theorem P_Reader_readBoth : mProg 213 = (c_Reader_readBoth, 4) := rfl
set_option maxRecDepth 100000 in
theorem TC_Reader_readBoth {G : Nat → List mV → mS → Option (Int × mS)} {d : Nat} (hG : ∀ k as σ p, G k as σ = some p → mEx d k as σ p) (hd : 62 ≤ d) : ∀ k as σ p, C_Reader_readBoth G k as σ = some p → mEx d k as σ p := by
  intro k as σ p hp
  unfold C_Reader_readBoth at hp
  split at hp
  · exact (T_Reader_takes hp).up (Nat.le_trans (Nat.le_of_ble_eq_true rfl) hd)
  · exact (T_Reader_emit hp).up (Nat.le_trans (Nat.le_of_ble_eq_true rfl) hd)
  · exact (T_Reader_aimBehind hp).up (Nat.le_trans (Nat.le_of_ble_eq_true rfl) hd)
  · exact hG _ _ _ _ hp
  · cases hp
set_option maxRecDepth 100000 in
theorem TB_Reader_readBoth_8 {G : Nat → List mV → mS → Option (Int × mS)} {d : Nat} (hC : ∀ k as σ p, C_Reader_readBoth G k as σ = some p → mEx d k as σ p) {l0 l1 l2 : Int} {σ : mS} {b : ((Int × mS) ⊕ (Int × mS))} {r : Int × mS} (h : B_Reader_readBoth_8 G l0 l1 l2 σ = some b) (hk : (Sum.elim (fun (s : Int × mS) r => mG (d + 1) 213 8 [(3, l0), (1, l1), (1, s.1), (0, 0)] [] s.2 r) (fun b r => r = b)) b r) : mG (d + 1) 213 8 [(3, l0), (1, l1), (1, l2), (0, 0)] [] σ r := by
  refine mblk_ok2 P_Reader_readBoth (F := F_Reader_readBoth_8 G) (Sum.elim (fun (s : Int × mS) r => mG (d + 1) 213 8 [(3, l0), (1, l1), (1, s.1), (0, 0)] [] s.2 r) (fun b r => r = b)) [([(8, 23), (26, 30)], [0, 1])] [(8, 32)] [(3, l0), (1, l1), (1, l2), (0, 0)] (by decide +kernel) rfl hC ?_ (fun v σ b r hb hk => by cases hb; exact hk) _ 8 [(3, l0), (1, l1), (1, l2), (0, 0)] [] σ b r rfl (mJ_self _ _ _) ((E_Reader_readBoth_8 G l0 l1 l2 σ).trans h) hk
  intro i L st σ b r hj hb hk
  unfold F_Reader_readBoth_8 at hb
  split at hb
  · have key : ∀ (k0 k1 k2 : Int) (k3 : mV) (σ : mS) (b : ((Int × mS) ⊕ (Int × mS))) (r : Int × mS), mJ [(3, l0), (1, l1), (1, l2), (0, 0)] 8 [(3, k0), (1, k1), (1, k2), k3] [([(8, 23), (26, 30)], [0, 1])] → (some (.inl (k2, σ))) = some b → (Sum.elim (fun (s : Int × mS) r => mG (d + 1) 213 8 [(3, l0), (1, l1), (1, s.1), (0, 0)] [] s.2 r) (fun b r => r = b)) b r → mG (d + 1) 213 8 [(3, k0), (1, k1), (1, k2), k3] [] σ r := by
      intro k0 k1 k2 k3 σ b r hj hb hk
      have e0 : k0 = l0 := (Prod.mk.inj (Option.some.inj ((hj.1 rfl).1))).2
      subst e0
      have e1 : k1 = l1 := (Prod.mk.inj (Option.some.inj ((hj.1 rfl).2.1))).2
      subst e1
      cases hb
      exact mG.lle hk (lle_cons (lle_cons (lle_cons (lle_dead lle_nil))))
    exact key _ _ _ _ σ b r hj hb hk
  · cases hb
set_option maxRecDepth 100000 in
theorem T_Reader_readBoth_8 {G : Nat → List mV → mS → Option (Int × mS)} {d : Nat} (hC : ∀ k as σ p, C_Reader_readBoth G k as σ = some p → mEx d k as σ p) {l0 l1 l2 : Int} {σ : mS} {b : Int × mS} {r : Int × mS} (h : M_Reader_readBoth_8 G l0 l1 l2 σ = some b) (hk : (fun b r => r = b) b r) : mG (d + 1) 213 8 [(3, l0), (1, l1), (1, l2), (0, 0)] [] σ r :=
  miter_ok (G := fun (s : Int × mS) r => mG (d + 1) 213 8 [(3, l0), (1, l1), (1, s.1), (0, 0)] [] s.2 r) (K := (fun b r => r = b)) (fun s x r hs hx => TB_Reader_readBoth_8 hC hs hx) mN _ b r h hk
set_option maxRecDepth 100000 in
theorem T_Reader_readBoth_0 {G : Nat → List mV → mS → Option (Int × mS)} {d : Nat} (hC : ∀ k as σ p, C_Reader_readBoth G k as σ = some p → mEx d k as σ p) {l0 l1 : Int} {σ : mS} {b : Int × mS} {r : Int × mS} (h : B_Reader_readBoth G l0 l1 σ = some b) (hk : (fun b r => r = b) b r) : mG (d + 1) 213 0 (mInit 4 [(3, l0), (1, l1)]) [] σ r := by
  refine mblk_ok1 P_Reader_readBoth (F := F_Reader_readBoth_0 G) (fun b r => r = b) hC ?_ (fun v σ b r hb hk => by cases hb; exact hk) _ 0 (mInit 4 [(3, l0), (1, l1)]) [] σ b r ((E_Reader_readBoth_0 G l0 l1 σ).trans h) hk
  intro i L st σ b r hb hk
  unfold F_Reader_readBoth_0 at hb
  split at hb
  · have key : ∀ (k0 k1 k2 : Int) (k3 : mV) (σ : mS) (b : Int × mS) (r : Int × mS), (M_Reader_readBoth_8 G k0 k1 k2 σ) = some b → (fun b r => r = b) b r → mG (d + 1) 213 8 [(3, k0), (1, k1), (1, k2), k3] [] σ r := by
      intro k0 k1 k2 k3 σ b r hb hk
      exact (T_Reader_readBoth_8 hC hb hk).lle (lle_cons (lle_cons (lle_cons (lle_dead lle_nil))))
    exact key _ _ _ _ σ b r hb hk
  · cases hb
set_option maxRecDepth 100000 in
theorem T_Reader_readBoth {G : Nat → List mV → mS → Option (Int × mS)} {d : Nat} (hG : ∀ k as σ p, G k as σ = some p → mEx d k as σ p) (hd : 62 ≤ d) {l0 l1 : Int} {σ : mS} {r : Int × mS} (h : B_Reader_readBoth G l0 l1 σ = some r) : mEx (d + 1) 213 [(3, l0), (1, l1)] σ r :=
  ⟨by rw [P_Reader_readBoth]; exact Nat.le_of_ble_eq_true rfl, by rw [P_Reader_readBoth]; exact T_Reader_readBoth_0 (TC_Reader_readBoth hG hd) h rfl⟩
set_option maxRecDepth 100000 in
theorem P_Reader_readPlain : mProg 214 = (c_Reader_readPlain, 4) := rfl
set_option maxRecDepth 100000 in
theorem TC_Reader_readPlain {G : Nat → List mV → mS → Option (Int × mS)} {d : Nat} (hG : ∀ k as σ p, G k as σ = some p → mEx d k as σ p) (hd : 62 ≤ d) : ∀ k as σ p, C_Reader_readPlain G k as σ = some p → mEx d k as σ p := by
  intro k as σ p hp
  unfold C_Reader_readPlain at hp
  split at hp
  · exact (T_Reader_kindHere hp).up (Nat.le_trans (Nat.le_of_ble_eq_true rfl) hd)
  · exact (T_Reader_takes hp).up (Nat.le_trans (Nat.le_of_ble_eq_true rfl) hd)
  · exact (T_Reader_emit hp).up (Nat.le_trans (Nat.le_of_ble_eq_true rfl) hd)
  · exact hG _ _ _ _ hp
  · exact (T_Reader_readComparison hp).up (Nat.le_trans (Nat.le_of_ble_eq_true rfl) hd)
  · cases hp
set_option maxRecDepth 100000 in
theorem T_Reader_readPlain_30 {G : Nat → List mV → mS → Option (Int × mS)} {d : Nat} (hC : ∀ k as σ p, C_Reader_readPlain G k as σ = some p → mEx d k as σ p) {l0 l2 s0 : Int} {σ : mS} {b : Int × mS} {r : Int × mS} (h : M_Reader_readPlain_30 G l0 l2 s0 σ = some b) (hk : (fun b r => r = b) b r) : mG (d + 1) 214 30 [(3, l0), (0, 0), (1, l2), (0, 0)] [(1, s0)] σ r := by
  refine mblk_ok1 P_Reader_readPlain (F := F_Reader_readPlain_30 G) (fun b r => r = b) hC ?_ (fun v σ b r hb hk => by cases hb; exact hk) _ 30 [(3, l0), (0, 0), (1, l2), (0, 0)] [(1, s0)] σ b r ((E_Reader_readPlain_30 G l0 l2 s0 σ).trans h) hk
  intro i L st σ b r hb hk
  cases hb
set_option maxRecDepth 100000 in
theorem T_Reader_readPlain_19 {G : Nat → List mV → mS → Option (Int × mS)} {d : Nat} (hC : ∀ k as σ p, C_Reader_readPlain G k as σ = some p → mEx d k as σ p) {l0 l1 l2 : Int} {σ : mS} {b : Int × mS} {r : Int × mS} (h : M_Reader_readPlain_19 G l0 l1 l2 σ = some b) (hk : (fun b r => r = b) b r) : mG (d + 1) 214 19 [(3, l0), (1, l1), (1, l2), (0, 0)] [] σ r := by
  refine mblk_ok1 P_Reader_readPlain (F := F_Reader_readPlain_19 G) (fun b r => r = b) hC ?_ (fun v σ b r hb hk => by cases hb; exact hk) _ 19 [(3, l0), (1, l1), (1, l2), (0, 0)] [] σ b r ((E_Reader_readPlain_19 G l0 l1 l2 σ).trans h) hk
  intro i L st σ b r hb hk
  unfold F_Reader_readPlain_19 at hb
  split at hb
  · have key : ∀ (k0 k2 u0 : Int) (k1 k3 : mV) (σ : mS) (b : Int × mS) (r : Int × mS), (M_Reader_readPlain_30 G k0 k2 u0 σ) = some b → (fun b r => r = b) b r → mG (d + 1) 214 30 [(3, k0), k1, (1, k2), k3] [(1, u0)] σ r := by
      intro k0 k2 u0 k1 k3 σ b r hb hk
      exact (T_Reader_readPlain_30 hC hb hk).lle (lle_cons (lle_dead (lle_cons (lle_dead lle_nil))))
    exact key _ _ _ _ _ σ b r hb hk
  · cases hb
set_option maxRecDepth 100000 in
theorem TB_Reader_readPlain_4 {G : Nat → List mV → mS → Option (Int × mS)} {d : Nat} (hC : ∀ k as σ p, C_Reader_readPlain G k as σ = some p → mEx d k as σ p) {l0 l1 l2 l3 : Int} {σ : mS} {b : ((Int × Int × mS) ⊕ (Int × mS))} {r : Int × mS} (h : B_Reader_readPlain_4 G l0 l1 l2 l3 σ = some b) (hk : (Sum.elim (fun (s : Int × Int × mS) r => mG (d + 1) 214 4 [(3, l0), (1, l1), (1, s.1), (1, s.2.1)] [] s.2.2 r) (fun b r => r = b)) b r) : mG (d + 1) 214 4 [(3, l0), (1, l1), (1, l2), (1, l3)] [] σ r := by
  refine mblk_ok2 P_Reader_readPlain (F := F_Reader_readPlain_4 G) (Sum.elim (fun (s : Int × Int × mS) r => mG (d + 1) 214 4 [(3, l0), (1, l1), (1, s.1), (1, s.2.1)] [] s.2.2 r) (fun b r => r = b)) [([(4, 18)], [0, 1])] [(4, 18)] [(3, l0), (1, l1), (1, l2), (1, l3)] (by decide +kernel) rfl hC ?_ (fun v σ b r hb hk => by cases hb; exact hk) _ 4 [(3, l0), (1, l1), (1, l2), (1, l3)] [] σ b r rfl (mJ_self _ _ _) ((E_Reader_readPlain_4 G l0 l1 l2 l3 σ).trans h) hk
  intro i L st σ b r hj hb hk
  unfold F_Reader_readPlain_4 at hb
  split at hb
  · have key : ∀ (k0 k1 k2 k3 : Int) (σ : mS) (b : ((Int × Int × mS) ⊕ (Int × mS))) (r : Int × mS), mJ [(3, l0), (1, l1), (1, l2), (1, l3)] 4 [(3, k0), (1, k1), (1, k2), (1, k3)] [([(4, 18)], [0, 1])] → (some (.inl (k2, k3, σ))) = some b → (Sum.elim (fun (s : Int × Int × mS) r => mG (d + 1) 214 4 [(3, l0), (1, l1), (1, s.1), (1, s.2.1)] [] s.2.2 r) (fun b r => r = b)) b r → mG (d + 1) 214 4 [(3, k0), (1, k1), (1, k2), (1, k3)] [] σ r := by
      intro k0 k1 k2 k3 σ b r hj hb hk
      have e0 : k0 = l0 := (Prod.mk.inj (Option.some.inj ((hj.1 rfl).1))).2
      subst e0
      have e1 : k1 = l1 := (Prod.mk.inj (Option.some.inj ((hj.1 rfl).2.1))).2
      subst e1
      cases hb
      exact mG.lle hk (lle_cons (lle_cons (lle_cons (lle_cons lle_nil))))
    exact key _ _ _ _ σ b r hj hb hk
  · have key : ∀ (k0 k1 k2 : Int) (k3 : mV) (σ : mS) (b : ((Int × Int × mS) ⊕ (Int × mS))) (r : Int × mS), mJ [(3, l0), (1, l1), (1, l2), (1, l3)] 19 [(3, k0), (1, k1), (1, k2), k3] [([(4, 18)], [0, 1])] → ((M_Reader_readPlain_19 G k0 k1 k2 σ).bind fun z => some (.inr z)) = some b → (Sum.elim (fun (s : Int × Int × mS) r => mG (d + 1) 214 4 [(3, l0), (1, l1), (1, s.1), (1, s.2.1)] [] s.2.2 r) (fun b r => r = b)) b r → mG (d + 1) 214 19 [(3, k0), (1, k1), (1, k2), k3] [] σ r := by
      intro k0 k1 k2 k3 σ b r hj hb hk
      obtain ⟨z, hz, e⟩ := Option.bind_eq_some_iff.mp hb
      cases e
      exact (T_Reader_readPlain_19 hC hz hk).lle (lle_cons (lle_cons (lle_cons (lle_dead lle_nil))))
    exact key _ _ _ _ σ b r hj hb hk
  · cases hb
set_option maxRecDepth 100000 in
theorem T_Reader_readPlain_4 {G : Nat → List mV → mS → Option (Int × mS)} {d : Nat} (hC : ∀ k as σ p, C_Reader_readPlain G k as σ = some p → mEx d k as σ p) {l0 l1 l2 l3 : Int} {σ : mS} {b : Int × mS} {r : Int × mS} (h : M_Reader_readPlain_4 G l0 l1 l2 l3 σ = some b) (hk : (fun b r => r = b) b r) : mG (d + 1) 214 4 [(3, l0), (1, l1), (1, l2), (1, l3)] [] σ r :=
  miter_ok (G := fun (s : Int × Int × mS) r => mG (d + 1) 214 4 [(3, l0), (1, l1), (1, s.1), (1, s.2.1)] [] s.2.2 r) (K := (fun b r => r = b)) (fun s x r hs hx => TB_Reader_readPlain_4 hC hs hx) mN _ b r h hk
set_option maxRecDepth 100000 in
theorem T_Reader_readPlain_0 {G : Nat → List mV → mS → Option (Int × mS)} {d : Nat} (hC : ∀ k as σ p, C_Reader_readPlain G k as σ = some p → mEx d k as σ p) {l0 l1 : Int} {σ : mS} {b : Int × mS} {r : Int × mS} (h : B_Reader_readPlain G l0 l1 σ = some b) (hk : (fun b r => r = b) b r) : mG (d + 1) 214 0 (mInit 4 [(3, l0), (1, l1)]) [] σ r := by
  refine mblk_ok1 P_Reader_readPlain (F := F_Reader_readPlain_0 G) (fun b r => r = b) hC ?_ (fun v σ b r hb hk => by cases hb; exact hk) _ 0 (mInit 4 [(3, l0), (1, l1)]) [] σ b r ((E_Reader_readPlain_0 G l0 l1 σ).trans h) hk
  intro i L st σ b r hb hk
  unfold F_Reader_readPlain_0 at hb
  split at hb
  · have key : ∀ (k0 k1 k2 k3 : Int) (σ : mS) (b : Int × mS) (r : Int × mS), (M_Reader_readPlain_4 G k0 k1 k2 k3 σ) = some b → (fun b r => r = b) b r → mG (d + 1) 214 4 [(3, k0), (1, k1), (1, k2), (1, k3)] [] σ r := by
      intro k0 k1 k2 k3 σ b r hb hk
      exact (T_Reader_readPlain_4 hC hb hk).lle (lle_cons (lle_cons (lle_cons (lle_cons lle_nil))))
    exact key _ _ _ _ σ b r hb hk
  · cases hb
set_option maxRecDepth 100000 in
theorem T_Reader_readPlain {G : Nat → List mV → mS → Option (Int × mS)} {d : Nat} (hG : ∀ k as σ p, G k as σ = some p → mEx d k as σ p) (hd : 62 ≤ d) {l0 l1 : Int} {σ : mS} {r : Int × mS} (h : B_Reader_readPlain G l0 l1 σ = some r) : mEx (d + 1) 214 [(3, l0), (1, l1)] σ r :=
  ⟨by rw [P_Reader_readPlain]; exact Nat.le_of_ble_eq_true rfl, by rw [P_Reader_readPlain]; exact T_Reader_readPlain_0 (TC_Reader_readPlain hG hd) h rfl⟩
set_option maxRecDepth 100000 in
theorem P_Reader_readInBrackets : mProg 215 = (c_Reader_readInBrackets, 2) := rfl
set_option maxRecDepth 100000 in
theorem TC_Reader_readInBrackets {G : Nat → List mV → mS → Option (Int × mS)} {d : Nat} (hG : ∀ k as σ p, G k as σ = some p → mEx d k as σ p) (hd : 62 ≤ d) : ∀ k as σ p, C_Reader_readInBrackets G k as σ = some p → mEx d k as σ p := by
  intro k as σ p hp
  unfold C_Reader_readInBrackets at hp
  split at hp
  · exact (T_Reader_takes hp).up (Nat.le_trans (Nat.le_of_ble_eq_true rfl) hd)
  · exact hG _ _ _ _ hp
  · cases hp
set_option maxRecDepth 100000 in
theorem T_Reader_readInBrackets_0 {G : Nat → List mV → mS → Option (Int × mS)} {d : Nat} (hC : ∀ k as σ p, C_Reader_readInBrackets G k as σ = some p → mEx d k as σ p) {l0 l1 : Int} {σ : mS} {b : Int × mS} {r : Int × mS} (h : B_Reader_readInBrackets G l0 l1 σ = some b) (hk : (fun b r => r = b) b r) : mG (d + 1) 215 0 (mInit 2 [(3, l0), (1, l1)]) [] σ r := by
  refine mblk_ok1 P_Reader_readInBrackets (F := F_Reader_readInBrackets_0 G) (fun b r => r = b) hC ?_ (fun v σ b r hb hk => by cases hb; exact hk) _ 0 (mInit 2 [(3, l0), (1, l1)]) [] σ b r ((E_Reader_readInBrackets_0 G l0 l1 σ).trans h) hk
  intro i L st σ b r hb hk
  cases hb
set_option maxRecDepth 100000 in
theorem T_Reader_readInBrackets {G : Nat → List mV → mS → Option (Int × mS)} {d : Nat} (hG : ∀ k as σ p, G k as σ = some p → mEx d k as σ p) (hd : 62 ≤ d) {l0 l1 : Int} {σ : mS} {r : Int × mS} (h : B_Reader_readInBrackets G l0 l1 σ = some r) : mEx (d + 1) 215 [(3, l0), (1, l1)] σ r :=
  ⟨by rw [P_Reader_readInBrackets]; exact Nat.le_of_ble_eq_true rfl, by rw [P_Reader_readInBrackets]; exact T_Reader_readInBrackets_0 (TC_Reader_readInBrackets hG hd) h rfl⟩
set_option maxRecDepth 100000 in
theorem TR_Reader_readTest : ∀ n k as σ r, R_Reader_readTest n k as σ = some r → mEx (62 + n) k as σ r := by
  intro n
  induction n with
  | zero => intro k as σ r h; cases h
  | succ n ih =>
    intro k as σ r h
    unfold R_Reader_readTest at h
    split at h
    · exact T_Reader_readTest ih (Nat.le_add_right _ _) h
    · exact T_Reader_readBoth ih (Nat.le_add_right _ _) h
    · exact T_Reader_readPlain ih (Nat.le_add_right _ _) h
    · exact T_Reader_readInBrackets ih (Nat.le_add_right _ _) h
    · cases h
set_option maxRecDepth 100000 in
theorem P_Reader_readClause : mProg 211 = (c_Reader_readClause, 1) := rfl
set_option maxRecDepth 100000 in
theorem TC_Reader_readClause : ∀ k as σ p, C_Reader_readClause k as σ = some p → mEx 122 k as σ p := by
  intro k as σ p hp
  unfold C_Reader_readClause at hp
  split at hp
  · exact (T_Reader_takes hp).up (Nat.le_of_ble_eq_true rfl)
  · exact (TR_Reader_readTest _ _ _ _ _ hp).up (by rw [mD_eq]; exact Nat.le_of_ble_eq_true rfl)
  · exact (TR_Reader_readSum _ _ _ _ _ hp).up (by rw [mD_eq]; exact Nat.le_of_ble_eq_true rfl)
  · cases hp
set_option maxRecDepth 100000 in
theorem T_Reader_readClause_31 {d : Nat} (hC : ∀ k as σ p, C_Reader_readClause k as σ = some p → mEx d k as σ p) {l0 : Int} {σ : mS} {b : Int × mS} {r : Int × mS} (h : M_Reader_readClause_31 l0 σ = some b) (hk : (fun b r => r = b) b r) : mG (d + 1) 211 31 [(3, l0)] [] σ r := by
  refine mblk_ok1 P_Reader_readClause (F := F_Reader_readClause_31) (fun b r => r = b) hC ?_ (fun v σ b r hb hk => by cases hb; exact hk) _ 31 [(3, l0)] [] σ b r ((E_Reader_readClause_31 l0 σ).trans h) hk
  intro i L st σ b r hb hk
  cases hb
set_option maxRecDepth 100000 in
theorem T_Reader_readClause_0 {d : Nat} (hC : ∀ k as σ p, C_Reader_readClause k as σ = some p → mEx d k as σ p) {l0 : Int} {σ : mS} {b : Int × mS} {r : Int × mS} (h : M_Reader_readClause l0 σ = some b) (hk : (fun b r => r = b) b r) : mG (d + 1) 211 0 (mInit 1 [(3, l0)]) [] σ r := by
  refine mblk_ok1 P_Reader_readClause (F := F_Reader_readClause_0) (fun b r => r = b) hC ?_ (fun v σ b r hb hk => by cases hb; exact hk) _ 0 (mInit 1 [(3, l0)]) [] σ b r ((E_Reader_readClause_0 l0 σ).trans h) hk
  intro i L st σ b r hb hk
  unfold F_Reader_readClause_0 at hb
  split at hb
  · have key : ∀ (k0 : Int) (σ : mS) (b : Int × mS) (r : Int × mS), (M_Reader_readClause_31 k0 σ) = some b → (fun b r => r = b) b r → mG (d + 1) 211 31 [(3, k0)] [] σ r := by
      intro k0 σ b r hb hk
      exact (T_Reader_readClause_31 hC hb hk).lle (lle_cons lle_nil)
    exact key _ σ b r hb hk
  · cases hb
set_option maxRecDepth 100000 in
theorem T_Reader_readClause {l0 : Int} {σ : mS} {r : Int × mS} (h : M_Reader_readClause l0 σ = some r) : mEx 123 211 [(3, l0)] σ r :=
  ⟨by rw [P_Reader_readClause]; exact Nat.le_of_ble_eq_true rfl, by rw [P_Reader_readClause]; exact T_Reader_readClause_0 TC_Reader_readClause h rfl⟩
