/-! the functions beside the machine: written by gen/corr.py -/
set_option maxRecDepth 100000 in
theorem P_Reader_readText : mProg 198 = (c_Reader_readText, 5) := rfl
set_option maxRecDepth 100000 in
theorem TC_Reader_readText : ∀ k as σ p, C_Reader_readText k as σ = some p → mEx 123 k as σ p := by
  intro k as σ p hp
  unfold C_Reader_readText at hp
  split at hp
  · exact (T_Reader_split hp).up (Nat.le_of_ble_eq_true rfl)
  · exact (T_Reader_kindHere hp).up (Nat.le_of_ble_eq_true rfl)
  · exact (T_Reader_takes hp).up (Nat.le_of_ble_eq_true rfl)
  · exact (T_Reader_readClause hp).up (Nat.le_of_ble_eq_true rfl)
  · cases hp
set_option maxRecDepth 100000 in
theorem T_Reader_readText_51 {d : Nat} (hC : ∀ k as σ p, C_Reader_readText k as σ = some p → mEx d k as σ p) {l0 : Int} {σ : mS} {b : Int × mS} {r : Int × mS} (h : M_Reader_readText_51 l0 σ = some b) (hk : (fun b r => r = b) b r) : mG (d + 1) 198 51 [(3, l0), (0, 0), (0, 0), (0, 0), (0, 0)] [] σ r := by
  refine mblk_ok1 P_Reader_readText (F := F_Reader_readText_51) (fun b r => r = b) hC ?_ (fun v σ b r hb hk => by cases hb; exact hk) _ 51 [(3, l0), (0, 0), (0, 0), (0, 0), (0, 0)] [] σ b r ((E_Reader_readText_51 l0 σ).trans h) hk
  intro i L st σ b r hb hk
  cases hb
set_option maxRecDepth 100000 in
theorem T_Reader_readText_43 {d : Nat} (hC : ∀ k as σ p, C_Reader_readText k as σ = some p → mEx d k as σ p) {l0 l3 : Int} {σ : mS} {b : Int × mS} {r : Int × mS} (h : M_Reader_readText_43 l0 l3 σ = some b) (hk : (fun b r => r = b) b r) : mG (d + 1) 198 43 [(3, l0), (0, 0), (0, 0), (1, l3), (0, 0)] [] σ r := by
  refine mblk_ok1 P_Reader_readText (F := F_Reader_readText_43) (fun b r => r = b) hC ?_ (fun v σ b r hb hk => by cases hb; exact hk) _ 43 [(3, l0), (0, 0), (0, 0), (1, l3), (0, 0)] [] σ b r ((E_Reader_readText_43 l0 l3 σ).trans h) hk
  intro i L st σ b r hb hk
  unfold F_Reader_readText_43 at hb
  split at hb
  · have key : ∀ (k0 : Int) (k1 k2 k3 k4 : mV) (σ : mS) (b : Int × mS) (r : Int × mS), (M_Reader_readText_51 k0 σ) = some b → (fun b r => r = b) b r → mG (d + 1) 198 51 [(3, k0), k1, k2, k3, k4] [] σ r := by
      intro k0 k1 k2 k3 k4 σ b r hb hk
      exact (T_Reader_readText_51 hC hb hk).lle (lle_cons (lle_dead (lle_dead (lle_dead (lle_dead lle_nil)))))
    exact key _ _ _ _ _ σ b r hb hk
  · cases hb
set_option maxRecDepth 100000 in
theorem TB_Reader_readText_29 {d : Nat} (hC : ∀ k as σ p, C_Reader_readText k as σ = some p → mEx d k as σ p) {l0 l3 l4 : Int} {σ : mS} {b : ((Int × Int × mS) ⊕ (Int × mS))} {r : Int × mS} (h : B_Reader_readText_29 l0 l3 l4 σ = some b) (hk : (Sum.elim (fun (s : Int × Int × mS) r => mG (d + 1) 198 29 [(3, l0), (0, 0), (0, 0), (1, s.1), (1, s.2.1)] [] s.2.2 r) (fun b r => r = b)) b r) : mG (d + 1) 198 29 [(3, l0), (0, 0), (0, 0), (1, l3), (1, l4)] [] σ r := by
  refine mblk_ok2 P_Reader_readText (F := F_Reader_readText_29) (Sum.elim (fun (s : Int × Int × mS) r => mG (d + 1) 198 29 [(3, l0), (0, 0), (0, 0), (1, s.1), (1, s.2.1)] [] s.2.2 r) (fun b r => r = b)) [([(29, 42)], [0])] [(29, 42)] [(3, l0), (0, 0), (0, 0), (1, l3), (1, l4)] (by decide +kernel) rfl hC ?_ (fun v σ b r hb hk => by cases hb; exact hk) _ 29 [(3, l0), (0, 0), (0, 0), (1, l3), (1, l4)] [] σ b r rfl (mJ_self _ _ _) ((E_Reader_readText_29 l0 l3 l4 σ).trans h) hk
  intro i L st σ b r hj hb hk
  unfold F_Reader_readText_29 at hb
  split at hb
  · have key : ∀ (k0 k3 k4 : Int) (k1 k2 : mV) (σ : mS) (b : ((Int × Int × mS) ⊕ (Int × mS))) (r : Int × mS), mJ [(3, l0), (0, 0), (0, 0), (1, l3), (1, l4)] 29 [(3, k0), k1, k2, (1, k3), (1, k4)] [([(29, 42)], [0])] → (some (.inl (k3, k4, σ))) = some b → (Sum.elim (fun (s : Int × Int × mS) r => mG (d + 1) 198 29 [(3, l0), (0, 0), (0, 0), (1, s.1), (1, s.2.1)] [] s.2.2 r) (fun b r => r = b)) b r → mG (d + 1) 198 29 [(3, k0), k1, k2, (1, k3), (1, k4)] [] σ r := by
      intro k0 k3 k4 k1 k2 σ b r hj hb hk
      have e0 : k0 = l0 := (Prod.mk.inj (Option.some.inj ((hj.1 rfl).1))).2
      subst e0
      cases hb
      exact mG.lle hk (lle_cons (lle_dead (lle_dead (lle_cons (lle_cons lle_nil)))))
    exact key _ _ _ _ _ σ b r hj hb hk
  · have key : ∀ (k0 k3 : Int) (k1 k2 k4 : mV) (σ : mS) (b : ((Int × Int × mS) ⊕ (Int × mS))) (r : Int × mS), mJ [(3, l0), (0, 0), (0, 0), (1, l3), (1, l4)] 43 [(3, k0), k1, k2, (1, k3), k4] [([(29, 42)], [0])] → ((M_Reader_readText_43 k0 k3 σ).bind fun z => some (.inr z)) = some b → (Sum.elim (fun (s : Int × Int × mS) r => mG (d + 1) 198 29 [(3, l0), (0, 0), (0, 0), (1, s.1), (1, s.2.1)] [] s.2.2 r) (fun b r => r = b)) b r → mG (d + 1) 198 43 [(3, k0), k1, k2, (1, k3), k4] [] σ r := by
      intro k0 k3 k1 k2 k4 σ b r hj hb hk
      obtain ⟨z, hz, e⟩ := Option.bind_eq_some_iff.mp hb
      cases e
      exact (T_Reader_readText_43 hC hz hk).lle (lle_cons (lle_dead (lle_dead (lle_cons (lle_dead lle_nil)))))
    exact key _ _ _ _ _ σ b r hj hb hk
  · cases hb
set_option maxRecDepth 100000 in
theorem T_Reader_readText_29 {d : Nat} (hC : ∀ k as σ p, C_Reader_readText k as σ = some p → mEx d k as σ p) {l0 l3 l4 : Int} {σ : mS} {b : Int × mS} {r : Int × mS} (h : M_Reader_readText_29 l0 l3 l4 σ = some b) (hk : (fun b r => r = b) b r) : mG (d + 1) 198 29 [(3, l0), (0, 0), (0, 0), (1, l3), (1, l4)] [] σ r :=
  miter_ok (G := fun (s : Int × Int × mS) r => mG (d + 1) 198 29 [(3, l0), (0, 0), (0, 0), (1, s.1), (1, s.2.1)] [] s.2.2 r) (K := (fun b r => r = b)) (fun s x r hs hx => TB_Reader_readText_29 hC hs hx) mN _ b r h hk
set_option maxRecDepth 100000 in
theorem T_Reader_readText_0 {d : Nat} (hC : ∀ k as σ p, C_Reader_readText k as σ = some p → mEx d k as σ p) {l0 l1 l2 : Int} {σ : mS} {b : Int × mS} {r : Int × mS} (h : M_Reader_readText l0 l1 l2 σ = some b) (hk : (fun b r => r = b) b r) : mG (d + 1) 198 0 (mInit 5 [(3, l0), (3, l1), (1, l2)]) [] σ r := by
  refine mblk_ok1 P_Reader_readText (F := F_Reader_readText_0) (fun b r => r = b) hC ?_ (fun v σ b r hb hk => by cases hb; exact hk) _ 0 (mInit 5 [(3, l0), (3, l1), (1, l2)]) [] σ b r ((E_Reader_readText_0 l0 l1 l2 σ).trans h) hk
  intro i L st σ b r hb hk
  unfold F_Reader_readText_0 at hb
  split at hb
  · have key : ∀ (k0 k3 k4 : Int) (k1 k2 : mV) (σ : mS) (b : Int × mS) (r : Int × mS), (M_Reader_readText_29 k0 k3 k4 σ) = some b → (fun b r => r = b) b r → mG (d + 1) 198 29 [(3, k0), k1, k2, (1, k3), (1, k4)] [] σ r := by
      intro k0 k3 k4 k1 k2 σ b r hb hk
      exact (T_Reader_readText_29 hC hb hk).lle (lle_cons (lle_dead (lle_dead (lle_cons (lle_cons lle_nil)))))
    exact key _ _ _ _ _ σ b r hb hk
  · cases hb
set_option maxRecDepth 100000 in
theorem T_Reader_readText {l0 l1 l2 : Int} {σ : mS} {r : Int × mS} (h : M_Reader_readText l0 l1 l2 σ = some r) : mEx 124 198 [(3, l0), (3, l1), (1, l2)] σ r :=
  ⟨by rw [P_Reader_readText]; exact Nat.le_of_ble_eq_true rfl, by rw [P_Reader_readText]; exact T_Reader_readText_0 TC_Reader_readText h rfl⟩
set_option maxRecDepth 100000 in
theorem P_Law_init : mProg 183 = (c_Law_init, 5) := rfl
set_option maxRecDepth 100000 in
theorem TC_Law_init : ∀ k as σ p, C_Law_init k as σ = some p → mEx 0 k as σ p := by
  intro k as σ p hp
  cases hp
set_option maxRecDepth 100000 in
theorem T_Law_init_0 {d : Nat} (hC : ∀ k as σ p, C_Law_init k as σ = some p → mEx d k as σ p) {l0 l1 l2 l3 l4 : Int} {σ : mS} {b : Int × mS} {r : Int × mS} (h : M_Law_init l0 l1 l2 l3 l4 σ = some b) (hk : (fun b r => r = b) b r) : mG (d + 1) 183 0 (mInit 5 [(3, l0), (3, l1), (3, l2), (3, l3), (1, l4)]) [] σ r := by
  refine mblk_ok1 P_Law_init (F := F_Law_init_0) (fun b r => r = b) hC ?_ (fun v σ b r hb hk => by cases hb; exact hk) _ 0 (mInit 5 [(3, l0), (3, l1), (3, l2), (3, l3), (1, l4)]) [] σ b r ((E_Law_init_0 l0 l1 l2 l3 l4 σ).trans h) hk
  intro i L st σ b r hb hk
  cases hb
set_option maxRecDepth 100000 in
theorem T_Law_init {l0 l1 l2 l3 l4 : Int} {σ : mS} {r : Int × mS} (h : M_Law_init l0 l1 l2 l3 l4 σ = some r) : mEx 1 183 [(3, l0), (3, l1), (3, l2), (3, l3), (1, l4)] σ r :=
  ⟨by rw [P_Law_init]; exact Nat.le_of_ble_eq_true rfl, by rw [P_Law_init]; exact T_Law_init_0 TC_Law_init h rfl⟩
set_option maxRecDepth 100000 in
theorem P_JA_copyOf : mProg 240 = (c_JA_copyOf, 3) := rfl
set_option maxRecDepth 100000 in
theorem TC_JA_copyOf : ∀ k as σ p, C_JA_copyOf k as σ = some p → mEx 0 k as σ p := by
  intro k as σ p hp
  cases hp
set_option maxRecDepth 100000 in
theorem T_JA_copyOf_0 {d : Nat} (hC : ∀ k as σ p, C_JA_copyOf k as σ = some p → mEx d k as σ p) {l0 l1 : Int} {σ : mS} {b : Int × mS} {r : Int × mS} (h : M_JA_copyOf l0 l1 σ = some b) (hk : (fun b r => r = b) b r) : mG (d + 1) 240 0 (mInit 3 [(3, l0), (1, l1)]) [] σ r := by
  refine mblk_ok1 P_JA_copyOf (F := F_JA_copyOf_0) (fun b r => r = b) hC ?_ (fun v σ b r hb hk => by cases hb; exact hk) _ 0 (mInit 3 [(3, l0), (1, l1)]) [] σ b r ((E_JA_copyOf_0 l0 l1 σ).trans h) hk
  intro i L st σ b r hb hk
  cases hb
set_option maxRecDepth 100000 in
theorem T_JA_copyOf {l0 l1 : Int} {σ : mS} {r : Int × mS} (h : M_JA_copyOf l0 l1 σ = some r) : mEx 1 240 [(3, l0), (1, l1)] σ r :=
  ⟨by rw [P_JA_copyOf]; exact Nat.le_of_ble_eq_true rfl, by rw [P_JA_copyOf]; exact T_JA_copyOf_0 TC_JA_copyOf h rfl⟩
set_option maxRecDepth 100000 in
theorem P_Reader_makeLaw : mProg 199 = (c_Reader_makeLaw, 1) := rfl
set_option maxRecDepth 100000 in
theorem TC_Reader_makeLaw : ∀ k as σ p, C_Reader_makeLaw k as σ = some p → mEx 1 k as σ p := by
  intro k as σ p hp
  unfold C_Reader_makeLaw at hp
  split at hp
  · exact (T_Law_init hp).up (Nat.le_of_ble_eq_true rfl)
  · exact (T_JA_copyOf hp).up (Nat.le_of_ble_eq_true rfl)
  · cases hp
set_option maxRecDepth 100000 in
theorem T_Reader_makeLaw_0 {d : Nat} (hC : ∀ k as σ p, C_Reader_makeLaw k as σ = some p → mEx d k as σ p) {l0 : Int} {σ : mS} {b : Int × mS} {r : Int × mS} (h : M_Reader_makeLaw l0 σ = some b) (hk : (fun b r => r = b) b r) : mG (d + 1) 199 0 (mInit 1 [(3, l0)]) [] σ r := by
  refine mblk_ok1 P_Reader_makeLaw (F := F_Reader_makeLaw_0) (fun b r => r = b) hC ?_ (fun v σ b r hb hk => by cases hb; exact hk) _ 0 (mInit 1 [(3, l0)]) [] σ b r ((E_Reader_makeLaw_0 l0 σ).trans h) hk
  intro i L st σ b r hb hk
  cases hb
set_option maxRecDepth 100000 in
theorem T_Reader_makeLaw {l0 : Int} {σ : mS} {r : Int × mS} (h : M_Reader_makeLaw l0 σ = some r) : mEx 2 199 [(3, l0)] σ r :=
  ⟨by rw [P_Reader_makeLaw]; exact Nat.le_of_ble_eq_true rfl, by rw [P_Reader_makeLaw]; exact T_Reader_makeLaw_0 TC_Reader_makeLaw h rfl⟩
set_option maxRecDepth 100000 in
theorem P_RW_law : mProg 11 = (c_RW_law, 3) := rfl
set_option maxRecDepth 100000 in
theorem TC_RW_law : ∀ k as σ p, C_RW_law k as σ = some p → mEx 124 k as σ p := by
  intro k as σ p hp
  unfold C_RW_law at hp
  split at hp
  · exact (T_RW_refuse hp).up (Nat.le_of_ble_eq_true rfl)
  · exact (T_RW_accept hp).up (Nat.le_of_ble_eq_true rfl)
  · exact (T_Reader_readText hp).up (Nat.le_of_ble_eq_true rfl)
  · exact (T_Reader_makeLaw hp).up (Nat.le_of_ble_eq_true rfl)
  · cases hp
set_option maxRecDepth 100000 in
theorem T_RW_law_0 {d : Nat} (hC : ∀ k as σ p, C_RW_law k as σ = some p → mEx d k as σ p) {l0 : Int} {σ : mS} {b : Int × mS} {r : Int × mS} (h : M_RW_law l0 σ = some b) (hk : (fun b r => r = b) b r) : mG (d + 1) 11 0 (mInit 3 [(3, l0)]) [] σ r := by
  refine mblk_ok1 P_RW_law (F := F_RW_law_0) (fun b r => r = b) hC ?_ (fun v σ b r hb hk => by cases hb; exact hk) _ 0 (mInit 3 [(3, l0)]) [] σ b r ((E_RW_law_0 l0 σ).trans h) hk
  intro i L st σ b r hb hk
  cases hb
set_option maxRecDepth 100000 in
theorem T_RW_law {l0 : Int} {σ : mS} {r : Int × mS} (h : M_RW_law l0 σ = some r) : mEx 125 11 [(3, l0)] σ r :=
  ⟨by rw [P_RW_law]; exact Nat.le_of_ble_eq_true rfl, by rw [P_RW_law]; exact T_RW_law_0 TC_RW_law h rfl⟩
set_option maxRecDepth 100000 in
theorem P_RW_fault : mProg 12 = (c_RW_fault, 1) := rfl
set_option maxRecDepth 100000 in
theorem TC_RW_fault : ∀ k as σ p, C_RW_fault k as σ = some p → mEx 0 k as σ p := by
  intro k as σ p hp
  cases hp
set_option maxRecDepth 100000 in
theorem T_RW_fault_0 {d : Nat} (hC : ∀ k as σ p, C_RW_fault k as σ = some p → mEx d k as σ p) {l0 : Int} {σ : mS} {b : Int × mS} {r : Int × mS} (h : M_RW_fault l0 σ = some b) (hk : (fun b r => r = b) b r) : mG (d + 1) 12 0 (mInit 1 [(3, l0)]) [] σ r := by
  refine mblk_ok1 P_RW_fault (F := F_RW_fault_0) (fun b r => r = b) hC ?_ (fun v σ b r hb hk => by cases hb; exact hk) _ 0 (mInit 1 [(3, l0)]) [] σ b r ((E_RW_fault_0 l0 σ).trans h) hk
  intro i L st σ b r hb hk
  cases hb
set_option maxRecDepth 100000 in
theorem T_RW_fault {l0 : Int} {σ : mS} {r : Int × mS} (h : M_RW_fault l0 σ = some r) : mEx 1 12 [(3, l0)] σ r :=
  ⟨by rw [P_RW_fault]; exact Nat.le_of_ble_eq_true rfl, by rw [P_RW_fault]; exact T_RW_fault_0 TC_RW_fault h rfl⟩
set_option maxRecDepth 100000 in
theorem P_Air_forgetAll : mProg 157 = (c_Air_forgetAll, 2) := rfl
set_option maxRecDepth 100000 in
theorem TC_Air_forgetAll : ∀ k as σ p, C_Air_forgetAll k as σ = some p → mEx 0 k as σ p := by
  intro k as σ p hp
  cases hp
set_option maxRecDepth 100000 in
theorem TB_Air_forgetAll_2 {d : Nat} (hC : ∀ k as σ p, C_Air_forgetAll k as σ = some p → mEx d k as σ p) {l0 l1 : Int} {σ : mS} {b : ((Int × mS) ⊕ (Int × mS))} {r : Int × mS} (h : B_Air_forgetAll_2 l0 l1 σ = some b) (hk : (Sum.elim (fun (s : Int × mS) r => mG (d + 1) 157 2 [(3, l0), (1, s.1)] [] s.2 r) (fun b r => r = b)) b r) : mG (d + 1) 157 2 [(3, l0), (1, l1)] [] σ r := by
  refine mblk_ok2 P_Air_forgetAll (F := F_Air_forgetAll_2) (Sum.elim (fun (s : Int × mS) r => mG (d + 1) 157 2 [(3, l0), (1, s.1)] [] s.2 r) (fun b r => r = b)) [([(2, 14)], [0])] [(2, 15)] [(3, l0), (1, l1)] (by decide +kernel) rfl hC ?_ (fun v σ b r hb hk => by cases hb; exact hk) _ 2 [(3, l0), (1, l1)] [] σ b r rfl (mJ_self _ _ _) ((E_Air_forgetAll_2 l0 l1 σ).trans h) hk
  intro i L st σ b r hj hb hk
  unfold F_Air_forgetAll_2 at hb
  split at hb
  · have key : ∀ (k0 k1 : Int) (σ : mS) (b : ((Int × mS) ⊕ (Int × mS))) (r : Int × mS), mJ [(3, l0), (1, l1)] 2 [(3, k0), (1, k1)] [([(2, 14)], [0])] → (some (.inl (k1, σ))) = some b → (Sum.elim (fun (s : Int × mS) r => mG (d + 1) 157 2 [(3, l0), (1, s.1)] [] s.2 r) (fun b r => r = b)) b r → mG (d + 1) 157 2 [(3, k0), (1, k1)] [] σ r := by
      intro k0 k1 σ b r hj hb hk
      have e0 : k0 = l0 := (Prod.mk.inj (Option.some.inj ((hj.1 rfl).1))).2
      subst e0
      cases hb
      exact mG.lle hk (lle_cons (lle_cons lle_nil))
    exact key _ _ σ b r hj hb hk
  · cases hb
set_option maxRecDepth 100000 in
theorem T_Air_forgetAll_2 {d : Nat} (hC : ∀ k as σ p, C_Air_forgetAll k as σ = some p → mEx d k as σ p) {l0 l1 : Int} {σ : mS} {b : Int × mS} {r : Int × mS} (h : M_Air_forgetAll_2 l0 l1 σ = some b) (hk : (fun b r => r = b) b r) : mG (d + 1) 157 2 [(3, l0), (1, l1)] [] σ r :=
  miter_ok (G := fun (s : Int × mS) r => mG (d + 1) 157 2 [(3, l0), (1, s.1)] [] s.2 r) (K := (fun b r => r = b)) (fun s x r hs hx => TB_Air_forgetAll_2 hC hs hx) mN _ b r h hk
set_option maxRecDepth 100000 in
theorem T_Air_forgetAll_0 {d : Nat} (hC : ∀ k as σ p, C_Air_forgetAll k as σ = some p → mEx d k as σ p) {l0 : Int} {σ : mS} {b : Int × mS} {r : Int × mS} (h : M_Air_forgetAll l0 σ = some b) (hk : (fun b r => r = b) b r) : mG (d + 1) 157 0 (mInit 2 [(3, l0)]) [] σ r := by
  refine mblk_ok1 P_Air_forgetAll (F := F_Air_forgetAll_0) (fun b r => r = b) hC ?_ (fun v σ b r hb hk => by cases hb; exact hk) _ 0 (mInit 2 [(3, l0)]) [] σ b r ((E_Air_forgetAll_0 l0 σ).trans h) hk
  intro i L st σ b r hb hk
  unfold F_Air_forgetAll_0 at hb
  split at hb
  · have key : ∀ (k0 k1 : Int) (σ : mS) (b : Int × mS) (r : Int × mS), (M_Air_forgetAll_2 k0 k1 σ) = some b → (fun b r => r = b) b r → mG (d + 1) 157 2 [(3, k0), (1, k1)] [] σ r := by
      intro k0 k1 σ b r hb hk
      exact (T_Air_forgetAll_2 hC hb hk).lle (lle_cons (lle_cons lle_nil))
    exact key _ _ σ b r hb hk
  · cases hb
set_option maxRecDepth 100000 in
theorem T_Air_forgetAll {l0 : Int} {σ : mS} {r : Int × mS} (h : M_Air_forgetAll l0 σ = some r) : mEx 1 157 [(3, l0)] σ r :=
  ⟨by rw [P_Air_forgetAll]; exact Nat.le_of_ble_eq_true rfl, by rw [P_Air_forgetAll]; exact T_Air_forgetAll_0 TC_Air_forgetAll h rfl⟩
set_option maxRecDepth 100000 in
theorem P_RW_force : mProg 13 = (c_RW_force, 3) := rfl
set_option maxRecDepth 100000 in
theorem TC_RW_force : ∀ k as σ p, C_RW_force k as σ = some p → mEx 2 k as σ p := by
  intro k as σ p hp
  unfold C_RW_force at hp
  split at hp
  · exact (T_RW_refuse hp).up (Nat.le_of_ble_eq_true rfl)
  · exact (T_RW_accept hp).up (Nat.le_of_ble_eq_true rfl)
  · exact (T_RW_isWithin hp).up (Nat.le_of_ble_eq_true rfl)
  · exact (T_Air_forgetAll hp).up (Nat.le_of_ble_eq_true rfl)
  · cases hp
set_option maxRecDepth 100000 in
theorem T_RW_force_16 {d : Nat} (hC : ∀ k as σ p, C_RW_force k as σ = some p → mEx d k as σ p) {l0 l1 : Int} {σ : mS} {b : Int × mS} {r : Int × mS} (h : M_RW_force_16 l0 l1 σ = some b) (hk : (fun b r => r = b) b r) : mG (d + 1) 13 16 [(3, l0), (1, l1), (0, 0)] [] σ r := by
  refine mblk_ok1 P_RW_force (F := F_RW_force_16) (fun b r => r = b) hC ?_ (fun v σ b r hb hk => by cases hb; exact hk) _ 16 [(3, l0), (1, l1), (0, 0)] [] σ b r ((E_RW_force_16 l0 l1 σ).trans h) hk
  intro i L st σ b r hb hk
  cases hb
set_option maxRecDepth 100000 in
theorem T_RW_force_0 {d : Nat} (hC : ∀ k as σ p, C_RW_force k as σ = some p → mEx d k as σ p) {l0 l1 : Int} {σ : mS} {b : Int × mS} {r : Int × mS} (h : M_RW_force l0 l1 σ = some b) (hk : (fun b r => r = b) b r) : mG (d + 1) 13 0 (mInit 3 [(3, l0), (1, l1)]) [] σ r := by
  refine mblk_ok1 P_RW_force (F := F_RW_force_0) (fun b r => r = b) hC ?_ (fun v σ b r hb hk => by cases hb; exact hk) _ 0 (mInit 3 [(3, l0), (1, l1)]) [] σ b r ((E_RW_force_0 l0 l1 σ).trans h) hk
  intro i L st σ b r hb hk
  unfold F_RW_force_0 at hb
  split at hb
  · have key : ∀ (k0 k1 : Int) (k2 : mV) (σ : mS) (b : Int × mS) (r : Int × mS), (M_RW_force_16 k0 k1 σ) = some b → (fun b r => r = b) b r → mG (d + 1) 13 16 [(3, k0), (1, k1), k2] [] σ r := by
      intro k0 k1 k2 σ b r hb hk
      exact (T_RW_force_16 hC hb hk).lle (lle_cons (lle_cons (lle_dead lle_nil)))
    exact key _ _ _ σ b r hb hk
  · cases hb
set_option maxRecDepth 100000 in
theorem T_RW_force {l0 l1 : Int} {σ : mS} {r : Int × mS} (h : M_RW_force l0 l1 σ = some r) : mEx 3 13 [(3, l0), (1, l1)] σ r :=
  ⟨by rw [P_RW_force]; exact Nat.le_of_ble_eq_true rfl, by rw [P_RW_force]; exact T_RW_force_0 TC_RW_force h rfl⟩
set_option maxRecDepth 100000 in
theorem P_RW_isHour : mProg 49 = (c_RW_isHour, 1) := rfl
set_option maxRecDepth 100000 in
theorem TC_RW_isHour : ∀ k as σ p, C_RW_isHour k as σ = some p → mEx 1 k as σ p := by
  intro k as σ p hp
  unfold C_RW_isHour at hp
  split at hp
  · exact (T_RW_isWithin hp).up (Nat.le_of_ble_eq_true rfl)
  · cases hp
set_option maxRecDepth 100000 in
theorem T_RW_isHour_0 {d : Nat} (hC : ∀ k as σ p, C_RW_isHour k as σ = some p → mEx d k as σ p) {l0 : Int} {σ : mS} {b : Int × mS} {r : Int × mS} (h : M_RW_isHour l0 σ = some b) (hk : (fun b r => r = b) b r) : mG (d + 1) 49 0 (mInit 1 [(1, l0)]) [] σ r := by
  refine mblk_ok1 P_RW_isHour (F := F_RW_isHour_0) (fun b r => r = b) hC ?_ (fun v σ b r hb hk => by cases hb; exact hk) _ 0 (mInit 1 [(1, l0)]) [] σ b r ((E_RW_isHour_0 l0 σ).trans h) hk
  intro i L st σ b r hb hk
  cases hb
set_option maxRecDepth 100000 in
theorem T_RW_isHour {l0 : Int} {σ : mS} {r : Int × mS} (h : M_RW_isHour l0 σ = some r) : mEx 2 49 [(1, l0)] σ r :=
  ⟨by rw [P_RW_isHour]; exact Nat.le_of_ble_eq_true rfl, by rw [P_RW_isHour]; exact T_RW_isHour_0 TC_RW_isHour h rfl⟩
set_option maxRecDepth 100000 in
theorem P_Air_layOut : mProg 163 = (c_Air_layOut, 4) := rfl
set_option maxRecDepth 100000 in
theorem TC_Air_layOut : ∀ k as σ p, C_Air_layOut k as σ = some p → mEx 0 k as σ p := by
  intro k as σ p hp
  cases hp
set_option maxRecDepth 100000 in
theorem T_Air_layOut_0 {d : Nat} (hC : ∀ k as σ p, C_Air_layOut k as σ = some p → mEx d k as σ p) {l0 l1 l2 l3 : Int} {σ : mS} {b : Int × mS} {r : Int × mS} (h : M_Air_layOut l0 l1 l2 l3 σ = some b) (hk : (fun b r => r = b) b r) : mG (d + 1) 163 0 (mInit 4 [(3, l0), (1, l1), (1, l2), (1, l3)]) [] σ r := by
  refine mblk_ok1 P_Air_layOut (F := F_Air_layOut_0) (fun b r => r = b) hC ?_ (fun v σ b r hb hk => by cases hb; exact hk) _ 0 (mInit 4 [(3, l0), (1, l1), (1, l2), (1, l3)]) [] σ b r ((E_Air_layOut_0 l0 l1 l2 l3 σ).trans h) hk
  intro i L st σ b r hb hk
  cases hb
set_option maxRecDepth 100000 in
theorem T_Air_layOut {l0 l1 l2 l3 : Int} {σ : mS} {r : Int × mS} (h : M_Air_layOut l0 l1 l2 l3 σ = some r) : mEx 1 163 [(3, l0), (1, l1), (1, l2), (1, l3)] σ r :=
  ⟨by rw [P_Air_layOut]; exact Nat.le_of_ble_eq_true rfl, by rw [P_Air_layOut]; exact T_Air_layOut_0 TC_Air_layOut h rfl⟩
set_option maxRecDepth 100000 in
theorem P_Law_joined : mProg 186 = (c_Law_joined, 5) := rfl
set_option maxRecDepth 100000 in
theorem TC_Law_joined : ∀ k as σ p, C_Law_joined k as σ = some p → mEx 0 k as σ p := by
  intro k as σ p hp
  cases hp
set_option maxRecDepth 100000 in
theorem T_Law_joined_0 {d : Nat} (hC : ∀ k as σ p, C_Law_joined k as σ = some p → mEx d k as σ p) {l0 l1 l3 : Int} {σ : mS} {b : Int × mS} {r : Int × mS} (h : M_Law_joined l0 l1 l3 σ = some b) (hk : (fun b r => r = b) b r) : mG (d + 1) 186 0 (mInit 5 [(1, l0), (2, l1), (2, l3)]) [] σ r := by
  refine mblk_ok1 P_Law_joined (F := F_Law_joined_0) (fun b r => r = b) hC ?_ (fun v σ b r hb hk => by cases hb; exact hk) _ 0 (mInit 5 [(1, l0), (2, l1), (2, l3)]) [] σ b r ((E_Law_joined_0 l0 l1 l3 σ).trans h) hk
  intro i L st σ b r hb hk
  cases hb
set_option maxRecDepth 100000 in
theorem T_Law_joined {l0 l1 l3 : Int} {σ : mS} {r : Int × mS} (h : M_Law_joined l0 l1 l3 σ = some r) : mEx 1 186 [(1, l0), (2, l1), (2, l3)] σ r :=
  ⟨by rw [P_Law_joined]; exact Nat.le_of_ble_eq_true rfl, by rw [P_Law_joined]; exact T_Law_joined_0 TC_Law_joined h rfl⟩
set_option maxRecDepth 100000 in
theorem P_Law_run : mProg 185 = (c_Law_run, 11) := rfl
set_option maxRecDepth 100000 in
theorem TC_Law_run : ∀ k as σ p, C_Law_run k as σ = some p → mEx 1 k as σ p := by
  intro k as σ p hp
  unfold C_Law_run at hp
  split at hp
  · exact (T_Law_joined hp).up (Nat.le_of_ble_eq_true rfl)
  · cases hp
set_option maxRecDepth 100000 in
theorem T_Law_run_137 {d : Nat} (hC : ∀ k as σ p, C_Law_run k as σ = some p → mEx d k as σ p) {l5 : Int} {σ : mS} {b : Int × mS} {r : Int × mS} (h : M_Law_run_137 l5 σ = some b) (hk : (fun b r => r = b) b r) : mG (d + 1) 185 137 [(0, 0), (0, 0), (0, 0), (0, 0), (0, 0), (1, l5), (0, 0), (0, 0), (0, 0), (0, 0), (0, 0)] [] σ r := by
  refine mblk_ok1 P_Law_run (F := F_Law_run_137) (fun b r => r = b) hC ?_ (fun v σ b r hb hk => by cases hb; exact hk) _ 137 [(0, 0), (0, 0), (0, 0), (0, 0), (0, 0), (1, l5), (0, 0), (0, 0), (0, 0), (0, 0), (0, 0)] [] σ b r ((E_Law_run_137 l5 σ).trans h) hk
  intro i L st σ b r hb hk
  cases hb
set_option maxRecDepth 100000 in
theorem T_Law_run_91 {d : Nat} (hC : ∀ k as σ p, C_Law_run k as σ = some p → mEx d k as σ p) {l0 l2 l3 l4 l5 l6 l8 s1 s0 : Int} {σ : mS} {b : ((Int × Int × mS) ⊕ (Int × mS))} {r : Int × mS} (h : M_Law_run_91 l0 l2 l3 l4 l5 l6 l8 s1 s0 σ = some b) (hk : (Sum.elim (fun (s : Int × Int × mS) r => mG (d + 1) 185 4 [(3, l0), (0, 0), (1, l2), (3, l3), (3, l4), (1, s.1), (1, s.2.1), (0, 0), (0, 0), (0, 0), (0, 0)] [] s.2.2 r) (fun b r => r = b)) b r) : mG (d + 1) 185 91 [(3, l0), (0, 0), (1, l2), (3, l3), (3, l4), (1, l5), (1, l6), (0, 0), (1, l8), (0, 0), (0, 0)] [(1, s1), (1, s0)] σ r := by
  refine mblk_ok2 P_Law_run (F := F_Law_run_91) (Sum.elim (fun (s : Int × Int × mS) r => mG (d + 1) 185 4 [(3, l0), (0, 0), (1, l2), (3, l3), (3, l4), (1, s.1), (1, s.2.1), (0, 0), (0, 0), (0, 0), (0, 0)] [] s.2.2 r) (fun b r => r = b)) [([(4, 43), (46, 62), (65, 103), (106, 126), (129, 136)], [0, 2, 3, 4])] [(91, 100), (135, 136)] [(3, l0), (0, 0), (1, l2), (3, l3), (3, l4), (1, l5), (1, l6), (0, 0), (1, l8), (0, 0), (0, 0)] (by decide +kernel) rfl hC ?_ (fun v σ b r hb hk => by cases hb; exact hk) _ 91 [(3, l0), (0, 0), (1, l2), (3, l3), (3, l4), (1, l5), (1, l6), (0, 0), (1, l8), (0, 0), (0, 0)] [(1, s1), (1, s0)] σ b r rfl (mJ_self _ _ _) ((E_Law_run_91 l0 l2 l3 l4 l5 l6 l8 s1 s0 σ).trans h) hk
  intro i L st σ b r hj hb hk
  unfold F_Law_run_91 at hb
  split at hb
  · have key : ∀ (k0 k2 k3 k4 k5 k6 : Int) (k1 k7 k8 k9 k10 : mV) (σ : mS) (b : ((Int × Int × mS) ⊕ (Int × mS))) (r : Int × mS), mJ [(3, l0), (0, 0), (1, l2), (3, l3), (3, l4), (1, l5), (1, l6), (0, 0), (1, l8), (0, 0), (0, 0)] 4 [(3, k0), k1, (1, k2), (3, k3), (3, k4), (1, k5), (1, k6), k7, k8, k9, k10] [([(4, 43), (46, 62), (65, 103), (106, 126), (129, 136)], [0, 2, 3, 4])] → (some (.inl (k5, k6, σ))) = some b → (Sum.elim (fun (s : Int × Int × mS) r => mG (d + 1) 185 4 [(3, l0), (0, 0), (1, l2), (3, l3), (3, l4), (1, s.1), (1, s.2.1), (0, 0), (0, 0), (0, 0), (0, 0)] [] s.2.2 r) (fun b r => r = b)) b r → mG (d + 1) 185 4 [(3, k0), k1, (1, k2), (3, k3), (3, k4), (1, k5), (1, k6), k7, k8, k9, k10] [] σ r := by
      intro k0 k2 k3 k4 k5 k6 k1 k7 k8 k9 k10 σ b r hj hb hk
      have e0 : k0 = l0 := (Prod.mk.inj (Option.some.inj ((hj.1 rfl).1))).2
      subst e0
      have e2 : k2 = l2 := (Prod.mk.inj (Option.some.inj ((hj.1 rfl).2.1))).2
      subst e2
      have e3 : k3 = l3 := (Prod.mk.inj (Option.some.inj ((hj.1 rfl).2.2.1))).2
      subst e3
      have e4 : k4 = l4 := (Prod.mk.inj (Option.some.inj ((hj.1 rfl).2.2.2.1))).2
      subst e4
      cases hb
      exact mG.lle hk (lle_cons (lle_dead (lle_cons (lle_cons (lle_cons (lle_cons (lle_cons (lle_dead (lle_dead (lle_dead (lle_dead lle_nil)))))))))))
    exact key _ _ _ _ _ _ _ _ _ _ _ σ b r hj hb hk
  · cases hb
set_option maxRecDepth 100000 in
theorem T_Law_run_85 {d : Nat} (hC : ∀ k as σ p, C_Law_run k as σ = some p → mEx d k as σ p) {l0 l2 l3 l4 l5 l6 l7 l8 s0 : Int} {σ : mS} {b : ((Int × Int × mS) ⊕ (Int × mS))} {r : Int × mS} (h : M_Law_run_85 l0 l2 l3 l4 l5 l6 l7 l8 s0 σ = some b) (hk : (Sum.elim (fun (s : Int × Int × mS) r => mG (d + 1) 185 4 [(3, l0), (0, 0), (1, l2), (3, l3), (3, l4), (1, s.1), (1, s.2.1), (0, 0), (0, 0), (0, 0), (0, 0)] [] s.2.2 r) (fun b r => r = b)) b r) : mG (d + 1) 185 85 [(3, l0), (0, 0), (1, l2), (3, l3), (3, l4), (1, l5), (1, l6), (1, l7), (1, l8), (0, 0), (0, 0)] [(1, s0)] σ r := by
  refine mblk_ok2 P_Law_run (F := F_Law_run_85) (Sum.elim (fun (s : Int × Int × mS) r => mG (d + 1) 185 4 [(3, l0), (0, 0), (1, l2), (3, l3), (3, l4), (1, s.1), (1, s.2.1), (0, 0), (0, 0), (0, 0), (0, 0)] [] s.2.2 r) (fun b r => r = b)) [([(4, 43), (46, 62), (65, 103), (106, 126), (129, 136)], [0, 2, 3, 4])] [(85, 90)] [(3, l0), (0, 0), (1, l2), (3, l3), (3, l4), (1, l5), (1, l6), (1, l7), (1, l8), (0, 0), (0, 0)] (by decide +kernel) rfl hC ?_ (fun v σ b r hb hk => by cases hb; exact hk) _ 85 [(3, l0), (0, 0), (1, l2), (3, l3), (3, l4), (1, l5), (1, l6), (1, l7), (1, l8), (0, 0), (0, 0)] [(1, s0)] σ b r rfl (mJ_self _ _ _) ((E_Law_run_85 l0 l2 l3 l4 l5 l6 l7 l8 s0 σ).trans h) hk
  intro i L st σ b r hj hb hk
  unfold F_Law_run_85 at hb
  split at hb
  · have key : ∀ (k0 k2 k3 k4 k5 k6 k8 u1 u0 : Int) (k1 k7 k9 k10 : mV) (σ : mS) (b : ((Int × Int × mS) ⊕ (Int × mS))) (r : Int × mS), mJ [(3, l0), (0, 0), (1, l2), (3, l3), (3, l4), (1, l5), (1, l6), (1, l7), (1, l8), (0, 0), (0, 0)] 91 [(3, k0), k1, (1, k2), (3, k3), (3, k4), (1, k5), (1, k6), k7, (1, k8), k9, k10] [([(4, 43), (46, 62), (65, 103), (106, 126), (129, 136)], [0, 2, 3, 4])] → (M_Law_run_91 k0 k2 k3 k4 k5 k6 k8 u1 u0 σ) = some b → (Sum.elim (fun (s : Int × Int × mS) r => mG (d + 1) 185 4 [(3, l0), (0, 0), (1, l2), (3, l3), (3, l4), (1, s.1), (1, s.2.1), (0, 0), (0, 0), (0, 0), (0, 0)] [] s.2.2 r) (fun b r => r = b)) b r → mG (d + 1) 185 91 [(3, k0), k1, (1, k2), (3, k3), (3, k4), (1, k5), (1, k6), k7, (1, k8), k9, k10] [(1, u1), (1, u0)] σ r := by
      intro k0 k2 k3 k4 k5 k6 k8 u1 u0 k1 k7 k9 k10 σ b r hj hb hk
      have e0 : k0 = l0 := (Prod.mk.inj (Option.some.inj ((hj.1 rfl).1))).2
      subst e0
      have e2 : k2 = l2 := (Prod.mk.inj (Option.some.inj ((hj.1 rfl).2.1))).2
      subst e2
      have e3 : k3 = l3 := (Prod.mk.inj (Option.some.inj ((hj.1 rfl).2.2.1))).2
      subst e3
      have e4 : k4 = l4 := (Prod.mk.inj (Option.some.inj ((hj.1 rfl).2.2.2.1))).2
      subst e4
      exact (T_Law_run_91 hC hb hk).lle (lle_cons (lle_dead (lle_cons (lle_cons (lle_cons (lle_cons (lle_cons (lle_dead (lle_cons (lle_dead (lle_dead lle_nil)))))))))))
    exact key _ _ _ _ _ _ _ _ _ _ _ _ _ σ b r hj hb hk
  · cases hb
set_option maxRecDepth 100000 in
theorem T_Law_run_46 {d : Nat} (hC : ∀ k as σ p, C_Law_run k as σ = some p → mEx d k as σ p) {l0 l2 l3 l4 l5 l6 l7 l8 : Int} {σ : mS} {b : ((Int × Int × mS) ⊕ (Int × mS))} {r : Int × mS} (h : M_Law_run_46 l0 l2 l3 l4 l5 l6 l7 l8 σ = some b) (hk : (Sum.elim (fun (s : Int × Int × mS) r => mG (d + 1) 185 4 [(3, l0), (0, 0), (1, l2), (3, l3), (3, l4), (1, s.1), (1, s.2.1), (0, 0), (0, 0), (0, 0), (0, 0)] [] s.2.2 r) (fun b r => r = b)) b r) : mG (d + 1) 185 46 [(3, l0), (0, 0), (1, l2), (3, l3), (3, l4), (1, l5), (1, l6), (1, l7), (1, l8), (0, 0), (0, 0)] [] σ r := by
  refine mblk_ok2 P_Law_run (F := F_Law_run_46) (Sum.elim (fun (s : Int × Int × mS) r => mG (d + 1) 185 4 [(3, l0), (0, 0), (1, l2), (3, l3), (3, l4), (1, s.1), (1, s.2.1), (0, 0), (0, 0), (0, 0), (0, 0)] [] s.2.2 r) (fun b r => r = b)) [([(4, 43), (46, 62), (65, 103), (106, 126), (129, 136)], [0, 2, 3, 4])] [(46, 57), (135, 136)] [(3, l0), (0, 0), (1, l2), (3, l3), (3, l4), (1, l5), (1, l6), (1, l7), (1, l8), (0, 0), (0, 0)] (by decide +kernel) rfl hC ?_ (fun v σ b r hb hk => by cases hb; exact hk) _ 46 [(3, l0), (0, 0), (1, l2), (3, l3), (3, l4), (1, l5), (1, l6), (1, l7), (1, l8), (0, 0), (0, 0)] [] σ b r rfl (mJ_self _ _ _) ((E_Law_run_46 l0 l2 l3 l4 l5 l6 l7 l8 σ).trans h) hk
  intro i L st σ b r hj hb hk
  unfold F_Law_run_46 at hb
  split at hb
  · have key : ∀ (k0 k2 k3 k4 k5 k6 : Int) (k1 k7 k8 k9 k10 : mV) (σ : mS) (b : ((Int × Int × mS) ⊕ (Int × mS))) (r : Int × mS), mJ [(3, l0), (0, 0), (1, l2), (3, l3), (3, l4), (1, l5), (1, l6), (1, l7), (1, l8), (0, 0), (0, 0)] 4 [(3, k0), k1, (1, k2), (3, k3), (3, k4), (1, k5), (1, k6), k7, k8, k9, k10] [([(4, 43), (46, 62), (65, 103), (106, 126), (129, 136)], [0, 2, 3, 4])] → (some (.inl (k5, k6, σ))) = some b → (Sum.elim (fun (s : Int × Int × mS) r => mG (d + 1) 185 4 [(3, l0), (0, 0), (1, l2), (3, l3), (3, l4), (1, s.1), (1, s.2.1), (0, 0), (0, 0), (0, 0), (0, 0)] [] s.2.2 r) (fun b r => r = b)) b r → mG (d + 1) 185 4 [(3, k0), k1, (1, k2), (3, k3), (3, k4), (1, k5), (1, k6), k7, k8, k9, k10] [] σ r := by
      intro k0 k2 k3 k4 k5 k6 k1 k7 k8 k9 k10 σ b r hj hb hk
      have e0 : k0 = l0 := (Prod.mk.inj (Option.some.inj ((hj.1 rfl).1))).2
      subst e0
      have e2 : k2 = l2 := (Prod.mk.inj (Option.some.inj ((hj.1 rfl).2.1))).2
      subst e2
      have e3 : k3 = l3 := (Prod.mk.inj (Option.some.inj ((hj.1 rfl).2.2.1))).2
      subst e3
      have e4 : k4 = l4 := (Prod.mk.inj (Option.some.inj ((hj.1 rfl).2.2.2.1))).2
      subst e4
      cases hb
      exact mG.lle hk (lle_cons (lle_dead (lle_cons (lle_cons (lle_cons (lle_cons (lle_cons (lle_dead (lle_dead (lle_dead (lle_dead lle_nil)))))))))))
    exact key _ _ _ _ _ _ _ _ _ _ _ σ b r hj hb hk
  · cases hb
set_option maxRecDepth 100000 in
theorem TB_Law_run_4 {d : Nat} (hC : ∀ k as σ p, C_Law_run k as σ = some p → mEx d k as σ p) {l0 l2 l3 l4 l5 l6 : Int} {σ : mS} {b : ((Int × Int × mS) ⊕ (Int × mS))} {r : Int × mS} (h : B_Law_run_4 l0 l2 l3 l4 l5 l6 σ = some b) (hk : (Sum.elim (fun (s : Int × Int × mS) r => mG (d + 1) 185 4 [(3, l0), (0, 0), (1, l2), (3, l3), (3, l4), (1, s.1), (1, s.2.1), (0, 0), (0, 0), (0, 0), (0, 0)] [] s.2.2 r) (fun b r => r = b)) b r) : mG (d + 1) 185 4 [(3, l0), (0, 0), (1, l2), (3, l3), (3, l4), (1, l5), (1, l6), (0, 0), (0, 0), (0, 0), (0, 0)] [] σ r := by
  refine mblk_ok2 P_Law_run (F := F_Law_run_4) (Sum.elim (fun (s : Int × Int × mS) r => mG (d + 1) 185 4 [(3, l0), (0, 0), (1, l2), (3, l3), (3, l4), (1, s.1), (1, s.2.1), (0, 0), (0, 0), (0, 0), (0, 0)] [] s.2.2 r) (fun b r => r = b)) [([(4, 43), (46, 62), (65, 103), (106, 126), (129, 136)], [0, 2, 3, 4])] [(4, 45), (58, 84), (101, 136)] [(3, l0), (0, 0), (1, l2), (3, l3), (3, l4), (1, l5), (1, l6), (0, 0), (0, 0), (0, 0), (0, 0)] (by decide +kernel) rfl hC ?_ (fun v σ b r hb hk => by cases hb; exact hk) _ 4 [(3, l0), (0, 0), (1, l2), (3, l3), (3, l4), (1, l5), (1, l6), (0, 0), (0, 0), (0, 0), (0, 0)] [] σ b r rfl (mJ_self _ _ _) ((E_Law_run_4 l0 l2 l3 l4 l5 l6 σ).trans h) hk
  intro i L st σ b r hj hb hk
  unfold F_Law_run_4 at hb
  split at hb
  · have key : ∀ (k0 k2 k3 k4 k5 k6 : Int) (k1 k7 k8 k9 k10 : mV) (σ : mS) (b : ((Int × Int × mS) ⊕ (Int × mS))) (r : Int × mS), mJ [(3, l0), (0, 0), (1, l2), (3, l3), (3, l4), (1, l5), (1, l6), (0, 0), (0, 0), (0, 0), (0, 0)] 4 [(3, k0), k1, (1, k2), (3, k3), (3, k4), (1, k5), (1, k6), k7, k8, k9, k10] [([(4, 43), (46, 62), (65, 103), (106, 126), (129, 136)], [0, 2, 3, 4])] → (some (.inl (k5, k6, σ))) = some b → (Sum.elim (fun (s : Int × Int × mS) r => mG (d + 1) 185 4 [(3, l0), (0, 0), (1, l2), (3, l3), (3, l4), (1, s.1), (1, s.2.1), (0, 0), (0, 0), (0, 0), (0, 0)] [] s.2.2 r) (fun b r => r = b)) b r → mG (d + 1) 185 4 [(3, k0), k1, (1, k2), (3, k3), (3, k4), (1, k5), (1, k6), k7, k8, k9, k10] [] σ r := by
      intro k0 k2 k3 k4 k5 k6 k1 k7 k8 k9 k10 σ b r hj hb hk
      have e0 : k0 = l0 := (Prod.mk.inj (Option.some.inj ((hj.1 rfl).1))).2
      subst e0
      have e2 : k2 = l2 := (Prod.mk.inj (Option.some.inj ((hj.1 rfl).2.1))).2
      subst e2
      have e3 : k3 = l3 := (Prod.mk.inj (Option.some.inj ((hj.1 rfl).2.2.1))).2
      subst e3
      have e4 : k4 = l4 := (Prod.mk.inj (Option.some.inj ((hj.1 rfl).2.2.2.1))).2
      subst e4
      cases hb
      exact mG.lle hk (lle_cons (lle_dead (lle_cons (lle_cons (lle_cons (lle_cons (lle_cons (lle_dead (lle_dead (lle_dead (lle_dead lle_nil)))))))))))
    exact key _ _ _ _ _ _ _ _ _ _ _ σ b r hj hb hk
  · have key : ∀ (k0 k2 k3 k4 k5 k6 k7 k8 : Int) (k1 k9 k10 : mV) (σ : mS) (b : ((Int × Int × mS) ⊕ (Int × mS))) (r : Int × mS), mJ [(3, l0), (0, 0), (1, l2), (3, l3), (3, l4), (1, l5), (1, l6), (0, 0), (0, 0), (0, 0), (0, 0)] 46 [(3, k0), k1, (1, k2), (3, k3), (3, k4), (1, k5), (1, k6), (1, k7), (1, k8), k9, k10] [([(4, 43), (46, 62), (65, 103), (106, 126), (129, 136)], [0, 2, 3, 4])] → (M_Law_run_46 k0 k2 k3 k4 k5 k6 k7 k8 σ) = some b → (Sum.elim (fun (s : Int × Int × mS) r => mG (d + 1) 185 4 [(3, l0), (0, 0), (1, l2), (3, l3), (3, l4), (1, s.1), (1, s.2.1), (0, 0), (0, 0), (0, 0), (0, 0)] [] s.2.2 r) (fun b r => r = b)) b r → mG (d + 1) 185 46 [(3, k0), k1, (1, k2), (3, k3), (3, k4), (1, k5), (1, k6), (1, k7), (1, k8), k9, k10] [] σ r := by
      intro k0 k2 k3 k4 k5 k6 k7 k8 k1 k9 k10 σ b r hj hb hk
      have e0 : k0 = l0 := (Prod.mk.inj (Option.some.inj ((hj.1 rfl).1))).2
      subst e0
      have e2 : k2 = l2 := (Prod.mk.inj (Option.some.inj ((hj.1 rfl).2.1))).2
      subst e2
      have e3 : k3 = l3 := (Prod.mk.inj (Option.some.inj ((hj.1 rfl).2.2.1))).2
      subst e3
      have e4 : k4 = l4 := (Prod.mk.inj (Option.some.inj ((hj.1 rfl).2.2.2.1))).2
      subst e4
      exact (T_Law_run_46 hC hb hk).lle (lle_cons (lle_dead (lle_cons (lle_cons (lle_cons (lle_cons (lle_cons (lle_cons (lle_cons (lle_dead (lle_dead lle_nil)))))))))))
    exact key _ _ _ _ _ _ _ _ _ _ _ σ b r hj hb hk
  · have key : ∀ (k0 k2 k3 k4 k5 k6 k7 k8 u0 : Int) (k1 k9 k10 : mV) (σ : mS) (b : ((Int × Int × mS) ⊕ (Int × mS))) (r : Int × mS), mJ [(3, l0), (0, 0), (1, l2), (3, l3), (3, l4), (1, l5), (1, l6), (0, 0), (0, 0), (0, 0), (0, 0)] 85 [(3, k0), k1, (1, k2), (3, k3), (3, k4), (1, k5), (1, k6), (1, k7), (1, k8), k9, k10] [([(4, 43), (46, 62), (65, 103), (106, 126), (129, 136)], [0, 2, 3, 4])] → (M_Law_run_85 k0 k2 k3 k4 k5 k6 k7 k8 u0 σ) = some b → (Sum.elim (fun (s : Int × Int × mS) r => mG (d + 1) 185 4 [(3, l0), (0, 0), (1, l2), (3, l3), (3, l4), (1, s.1), (1, s.2.1), (0, 0), (0, 0), (0, 0), (0, 0)] [] s.2.2 r) (fun b r => r = b)) b r → mG (d + 1) 185 85 [(3, k0), k1, (1, k2), (3, k3), (3, k4), (1, k5), (1, k6), (1, k7), (1, k8), k9, k10] [(1, u0)] σ r := by
      intro k0 k2 k3 k4 k5 k6 k7 k8 u0 k1 k9 k10 σ b r hj hb hk
      have e0 : k0 = l0 := (Prod.mk.inj (Option.some.inj ((hj.1 rfl).1))).2
      subst e0
      have e2 : k2 = l2 := (Prod.mk.inj (Option.some.inj ((hj.1 rfl).2.1))).2
      subst e2
      have e3 : k3 = l3 := (Prod.mk.inj (Option.some.inj ((hj.1 rfl).2.2.1))).2
      subst e3
      have e4 : k4 = l4 := (Prod.mk.inj (Option.some.inj ((hj.1 rfl).2.2.2.1))).2
      subst e4
      exact (T_Law_run_85 hC hb hk).lle (lle_cons (lle_dead (lle_cons (lle_cons (lle_cons (lle_cons (lle_cons (lle_cons (lle_cons (lle_dead (lle_dead lle_nil)))))))))))
    exact key _ _ _ _ _ _ _ _ _ _ _ _ σ b r hj hb hk
  · have key : ∀ (k5 : Int) (k0 k1 k2 k3 k4 k6 k7 k8 k9 k10 : mV) (σ : mS) (b : ((Int × Int × mS) ⊕ (Int × mS))) (r : Int × mS), mJ [(3, l0), (0, 0), (1, l2), (3, l3), (3, l4), (1, l5), (1, l6), (0, 0), (0, 0), (0, 0), (0, 0)] 137 [k0, k1, k2, k3, k4, (1, k5), k6, k7, k8, k9, k10] [([(4, 43), (46, 62), (65, 103), (106, 126), (129, 136)], [0, 2, 3, 4])] → ((M_Law_run_137 k5 σ).bind fun z => some (.inr z)) = some b → (Sum.elim (fun (s : Int × Int × mS) r => mG (d + 1) 185 4 [(3, l0), (0, 0), (1, l2), (3, l3), (3, l4), (1, s.1), (1, s.2.1), (0, 0), (0, 0), (0, 0), (0, 0)] [] s.2.2 r) (fun b r => r = b)) b r → mG (d + 1) 185 137 [k0, k1, k2, k3, k4, (1, k5), k6, k7, k8, k9, k10] [] σ r := by
      intro k5 k0 k1 k2 k3 k4 k6 k7 k8 k9 k10 σ b r hj hb hk
      obtain ⟨z, hz, e⟩ := Option.bind_eq_some_iff.mp hb
      cases e
      exact (T_Law_run_137 hC hz hk).lle (lle_dead (lle_dead (lle_dead (lle_dead (lle_dead (lle_cons (lle_dead (lle_dead (lle_dead (lle_dead (lle_dead lle_nil)))))))))))
    exact key _ _ _ _ _ _ _ _ _ _ _ σ b r hj hb hk
  · cases hb
set_option maxRecDepth 100000 in
theorem T_Law_run_4 {d : Nat} (hC : ∀ k as σ p, C_Law_run k as σ = some p → mEx d k as σ p) {l0 l2 l3 l4 l5 l6 : Int} {σ : mS} {b : Int × mS} {r : Int × mS} (h : M_Law_run_4 l0 l2 l3 l4 l5 l6 σ = some b) (hk : (fun b r => r = b) b r) : mG (d + 1) 185 4 [(3, l0), (0, 0), (1, l2), (3, l3), (3, l4), (1, l5), (1, l6), (0, 0), (0, 0), (0, 0), (0, 0)] [] σ r :=
  miter_ok (G := fun (s : Int × Int × mS) r => mG (d + 1) 185 4 [(3, l0), (0, 0), (1, l2), (3, l3), (3, l4), (1, s.1), (1, s.2.1), (0, 0), (0, 0), (0, 0), (0, 0)] [] s.2.2 r) (K := (fun b r => r = b)) (fun s x r hs hx => TB_Law_run_4 hC hs hx) mN _ b r h hk
set_option maxRecDepth 100000 in
theorem T_Law_run_0 {d : Nat} (hC : ∀ k as σ p, C_Law_run k as σ = some p → mEx d k as σ p) {l0 l1 l2 l3 l4 : Int} {σ : mS} {b : Int × mS} {r : Int × mS} (h : M_Law_run l0 l1 l2 l3 l4 σ = some b) (hk : (fun b r => r = b) b r) : mG (d + 1) 185 0 (mInit 11 [(3, l0), (1, l1), (1, l2), (3, l3), (3, l4)]) [] σ r := by
  refine mblk_ok1 P_Law_run (F := F_Law_run_0) (fun b r => r = b) hC ?_ (fun v σ b r hb hk => by cases hb; exact hk) _ 0 (mInit 11 [(3, l0), (1, l1), (1, l2), (3, l3), (3, l4)]) [] σ b r ((E_Law_run_0 l0 l1 l2 l3 l4 σ).trans h) hk
  intro i L st σ b r hb hk
  unfold F_Law_run_0 at hb
  split at hb
  · have key : ∀ (k0 k2 k3 k4 k5 k6 : Int) (k1 k7 k8 k9 k10 : mV) (σ : mS) (b : Int × mS) (r : Int × mS), (M_Law_run_4 k0 k2 k3 k4 k5 k6 σ) = some b → (fun b r => r = b) b r → mG (d + 1) 185 4 [(3, k0), k1, (1, k2), (3, k3), (3, k4), (1, k5), (1, k6), k7, k8, k9, k10] [] σ r := by
      intro k0 k2 k3 k4 k5 k6 k1 k7 k8 k9 k10 σ b r hb hk
      exact (T_Law_run_4 hC hb hk).lle (lle_cons (lle_dead (lle_cons (lle_cons (lle_cons (lle_cons (lle_cons (lle_dead (lle_dead (lle_dead (lle_dead lle_nil)))))))))))
    exact key _ _ _ _ _ _ _ _ _ _ _ σ b r hb hk
  · cases hb
set_option maxRecDepth 100000 in
theorem T_Law_run {l0 l1 l2 l3 l4 : Int} {σ : mS} {r : Int × mS} (h : M_Law_run l0 l1 l2 l3 l4 σ = some r) : mEx 2 185 [(3, l0), (1, l1), (1, l2), (3, l3), (3, l4)] σ r :=
  ⟨by rw [P_Law_run]; exact Nat.le_of_ble_eq_true rfl, by rw [P_Law_run]; exact T_Law_run_0 TC_Law_run h rfl⟩
set_option maxRecDepth 100000 in
theorem P_Law_tell : mProg 184 = (c_Law_tell, 6) := rfl
set_option maxRecDepth 100000 in
theorem TC_Law_tell : ∀ k as σ p, C_Law_tell k as σ = some p → mEx 2 k as σ p := by
  intro k as σ p hp
  unfold C_Law_tell at hp
  split at hp
  · exact (T_Law_run hp).up (Nat.le_of_ble_eq_true rfl)
  · cases hp
set_option maxRecDepth 100000 in
theorem T_Law_tell_53 {d : Nat} (hC : ∀ k as σ p, C_Law_tell k as σ = some p → mEx d k as σ p) {l0 l1 l2 l3 l4 s0 : Int} {σ : mS} {b : ((Int × mS) ⊕ (Int × mS))} {r : Int × mS} (h : M_Law_tell_53 l0 l1 l2 l3 l4 s0 σ = some b) (hk : (Sum.elim (fun (s : Int × mS) r => mG (d + 1) 184 10 [(3, l0), (3, l1), (3, l2), (1, s.1), (0, 0), (0, 0)] [] s.2 r) (fun b r => r = b)) b r) : mG (d + 1) 184 53 [(3, l0), (3, l1), (3, l2), (1, l3), (1, l4), (0, 0)] [(1, s0)] σ r := by
  refine mblk_ok2 P_Law_tell (F := F_Law_tell_53) (Sum.elim (fun (s : Int × mS) r => mG (d + 1) 184 10 [(3, l0), (3, l1), (3, l2), (1, s.1), (0, 0), (0, 0)] [] s.2 r) (fun b r => r = b)) [([(10, 65), (74, 75)], [0, 1, 2])] [(53, 75)] [(3, l0), (3, l1), (3, l2), (1, l3), (1, l4), (0, 0)] (by decide +kernel) rfl hC ?_ (fun v σ b r hb hk => by cases hb; exact hk) _ 53 [(3, l0), (3, l1), (3, l2), (1, l3), (1, l4), (0, 0)] [(1, s0)] σ b r rfl (mJ_self _ _ _) ((E_Law_tell_53 l0 l1 l2 l3 l4 s0 σ).trans h) hk
  intro i L st σ b r hj hb hk
  unfold F_Law_tell_53 at hb
  split at hb
  · have key : ∀ (k0 k1 k2 k3 : Int) (k4 k5 : mV) (σ : mS) (b : ((Int × mS) ⊕ (Int × mS))) (r : Int × mS), mJ [(3, l0), (3, l1), (3, l2), (1, l3), (1, l4), (0, 0)] 10 [(3, k0), (3, k1), (3, k2), (1, k3), k4, k5] [([(10, 65), (74, 75)], [0, 1, 2])] → (some (.inl (k3, σ))) = some b → (Sum.elim (fun (s : Int × mS) r => mG (d + 1) 184 10 [(3, l0), (3, l1), (3, l2), (1, s.1), (0, 0), (0, 0)] [] s.2 r) (fun b r => r = b)) b r → mG (d + 1) 184 10 [(3, k0), (3, k1), (3, k2), (1, k3), k4, k5] [] σ r := by
      intro k0 k1 k2 k3 k4 k5 σ b r hj hb hk
      have e0 : k0 = l0 := (Prod.mk.inj (Option.some.inj ((hj.1 rfl).1))).2
      subst e0
      have e1 : k1 = l1 := (Prod.mk.inj (Option.some.inj ((hj.1 rfl).2.1))).2
      subst e1
      have e2 : k2 = l2 := (Prod.mk.inj (Option.some.inj ((hj.1 rfl).2.2.1))).2
      subst e2
      cases hb
      exact mG.lle hk (lle_cons (lle_cons (lle_cons (lle_cons (lle_dead (lle_dead lle_nil))))))
    exact key _ _ _ _ _ _ σ b r hj hb hk
  · cases hb
set_option maxRecDepth 100000 in
theorem T_Law_tell_52 {d : Nat} (hC : ∀ k as σ p, C_Law_tell k as σ = some p → mEx d k as σ p) {l0 l1 l2 l3 l4 : Int} {σ : mS} {b : ((Int × mS) ⊕ (Int × mS))} {r : Int × mS} (h : M_Law_tell_52 l0 l1 l2 l3 l4 σ = some b) (hk : (Sum.elim (fun (s : Int × mS) r => mG (d + 1) 184 10 [(3, l0), (3, l1), (3, l2), (1, s.1), (0, 0), (0, 0)] [] s.2 r) (fun b r => r = b)) b r) : mG (d + 1) 184 52 [(3, l0), (3, l1), (3, l2), (1, l3), (1, l4), (0, 0)] [] σ r := by
  refine mblk_ok2 P_Law_tell (F := F_Law_tell_52) (Sum.elim (fun (s : Int × mS) r => mG (d + 1) 184 10 [(3, l0), (3, l1), (3, l2), (1, s.1), (0, 0), (0, 0)] [] s.2 r) (fun b r => r = b)) [([(10, 65), (74, 75)], [0, 1, 2])] [(52, 52)] [(3, l0), (3, l1), (3, l2), (1, l3), (1, l4), (0, 0)] (by decide +kernel) rfl hC ?_ (fun v σ b r hb hk => by cases hb; exact hk) _ 52 [(3, l0), (3, l1), (3, l2), (1, l3), (1, l4), (0, 0)] [] σ b r rfl (mJ_self _ _ _) ((E_Law_tell_52 l0 l1 l2 l3 l4 σ).trans h) hk
  intro i L st σ b r hj hb hk
  unfold F_Law_tell_52 at hb
  split at hb
  · have key : ∀ (k0 k1 k2 k3 k4 u0 : Int) (k5 : mV) (σ : mS) (b : ((Int × mS) ⊕ (Int × mS))) (r : Int × mS), mJ [(3, l0), (3, l1), (3, l2), (1, l3), (1, l4), (0, 0)] 53 [(3, k0), (3, k1), (3, k2), (1, k3), (1, k4), k5] [([(10, 65), (74, 75)], [0, 1, 2])] → (M_Law_tell_53 k0 k1 k2 k3 k4 u0 σ) = some b → (Sum.elim (fun (s : Int × mS) r => mG (d + 1) 184 10 [(3, l0), (3, l1), (3, l2), (1, s.1), (0, 0), (0, 0)] [] s.2 r) (fun b r => r = b)) b r → mG (d + 1) 184 53 [(3, k0), (3, k1), (3, k2), (1, k3), (1, k4), k5] [(1, u0)] σ r := by
      intro k0 k1 k2 k3 k4 u0 k5 σ b r hj hb hk
      have e0 : k0 = l0 := (Prod.mk.inj (Option.some.inj ((hj.1 rfl).1))).2
      subst e0
      have e1 : k1 = l1 := (Prod.mk.inj (Option.some.inj ((hj.1 rfl).2.1))).2
      subst e1
      have e2 : k2 = l2 := (Prod.mk.inj (Option.some.inj ((hj.1 rfl).2.2.1))).2
      subst e2
      exact (T_Law_tell_53 hC hb hk).lle (lle_cons (lle_cons (lle_cons (lle_cons (lle_cons (lle_dead lle_nil))))))
    exact key _ _ _ _ _ _ _ σ b r hj hb hk
  · cases hb
set_option maxRecDepth 100000 in
theorem T_Law_tell_50 {d : Nat} (hC : ∀ k as σ p, C_Law_tell k as σ = some p → mEx d k as σ p) {l0 l1 l2 l3 l4 : Int} {σ : mS} {b : ((Int × mS) ⊕ (Int × mS))} {r : Int × mS} (h : M_Law_tell_50 l0 l1 l2 l3 l4 σ = some b) (hk : (Sum.elim (fun (s : Int × mS) r => mG (d + 1) 184 10 [(3, l0), (3, l1), (3, l2), (1, s.1), (0, 0), (0, 0)] [] s.2 r) (fun b r => r = b)) b r) : mG (d + 1) 184 50 [(3, l0), (3, l1), (3, l2), (1, l3), (1, l4), (0, 0)] [] σ r := by
  refine mblk_ok2 P_Law_tell (F := F_Law_tell_50) (Sum.elim (fun (s : Int × mS) r => mG (d + 1) 184 10 [(3, l0), (3, l1), (3, l2), (1, s.1), (0, 0), (0, 0)] [] s.2 r) (fun b r => r = b)) [([(10, 65), (74, 75)], [0, 1, 2])] [(50, 51)] [(3, l0), (3, l1), (3, l2), (1, l3), (1, l4), (0, 0)] (by decide +kernel) rfl hC ?_ (fun v σ b r hb hk => by cases hb; exact hk) _ 50 [(3, l0), (3, l1), (3, l2), (1, l3), (1, l4), (0, 0)] [] σ b r rfl (mJ_self _ _ _) ((E_Law_tell_50 l0 l1 l2 l3 l4 σ).trans h) hk
  intro i L st σ b r hj hb hk
  unfold F_Law_tell_50 at hb
  split at hb
  · have key : ∀ (k0 k1 k2 k3 k4 u0 : Int) (k5 : mV) (σ : mS) (b : ((Int × mS) ⊕ (Int × mS))) (r : Int × mS), mJ [(3, l0), (3, l1), (3, l2), (1, l3), (1, l4), (0, 0)] 53 [(3, k0), (3, k1), (3, k2), (1, k3), (1, k4), k5] [([(10, 65), (74, 75)], [0, 1, 2])] → (M_Law_tell_53 k0 k1 k2 k3 k4 u0 σ) = some b → (Sum.elim (fun (s : Int × mS) r => mG (d + 1) 184 10 [(3, l0), (3, l1), (3, l2), (1, s.1), (0, 0), (0, 0)] [] s.2 r) (fun b r => r = b)) b r → mG (d + 1) 184 53 [(3, k0), (3, k1), (3, k2), (1, k3), (1, k4), k5] [(1, u0)] σ r := by
      intro k0 k1 k2 k3 k4 u0 k5 σ b r hj hb hk
      have e0 : k0 = l0 := (Prod.mk.inj (Option.some.inj ((hj.1 rfl).1))).2
      subst e0
      have e1 : k1 = l1 := (Prod.mk.inj (Option.some.inj ((hj.1 rfl).2.1))).2
      subst e1
      have e2 : k2 = l2 := (Prod.mk.inj (Option.some.inj ((hj.1 rfl).2.2.1))).2
      subst e2
      exact (T_Law_tell_53 hC hb hk).lle (lle_cons (lle_cons (lle_cons (lle_cons (lle_cons (lle_dead lle_nil))))))
    exact key _ _ _ _ _ _ _ σ b r hj hb hk
  · cases hb
set_option maxRecDepth 100000 in
theorem T_Law_tell_22 {d : Nat} (hC : ∀ k as σ p, C_Law_tell k as σ = some p → mEx d k as σ p) {l0 l1 l2 l3 s0 : Int} {σ : mS} {b : ((Int × mS) ⊕ (Int × mS))} {r : Int × mS} (h : M_Law_tell_22 l0 l1 l2 l3 s0 σ = some b) (hk : (Sum.elim (fun (s : Int × mS) r => mG (d + 1) 184 10 [(3, l0), (3, l1), (3, l2), (1, s.1), (0, 0), (0, 0)] [] s.2 r) (fun b r => r = b)) b r) : mG (d + 1) 184 22 [(3, l0), (3, l1), (3, l2), (1, l3), (0, 0), (0, 0)] [(1, s0)] σ r := by
  refine mblk_ok2 P_Law_tell (F := F_Law_tell_22) (Sum.elim (fun (s : Int × mS) r => mG (d + 1) 184 10 [(3, l0), (3, l1), (3, l2), (1, s.1), (0, 0), (0, 0)] [] s.2 r) (fun b r => r = b)) [([(10, 65), (74, 75)], [0, 1, 2])] [(22, 49)] [(3, l0), (3, l1), (3, l2), (1, l3), (0, 0), (0, 0)] (by decide +kernel) rfl hC ?_ (fun v σ b r hb hk => by cases hb; exact hk) _ 22 [(3, l0), (3, l1), (3, l2), (1, l3), (0, 0), (0, 0)] [(1, s0)] σ b r rfl (mJ_self _ _ _) ((E_Law_tell_22 l0 l1 l2 l3 s0 σ).trans h) hk
  intro i L st σ b r hj hb hk
  unfold F_Law_tell_22 at hb
  split at hb
  · have key : ∀ (k0 k1 k2 k3 k4 : Int) (k5 : mV) (σ : mS) (b : ((Int × mS) ⊕ (Int × mS))) (r : Int × mS), mJ [(3, l0), (3, l1), (3, l2), (1, l3), (0, 0), (0, 0)] 50 [(3, k0), (3, k1), (3, k2), (1, k3), (1, k4), k5] [([(10, 65), (74, 75)], [0, 1, 2])] → (M_Law_tell_50 k0 k1 k2 k3 k4 σ) = some b → (Sum.elim (fun (s : Int × mS) r => mG (d + 1) 184 10 [(3, l0), (3, l1), (3, l2), (1, s.1), (0, 0), (0, 0)] [] s.2 r) (fun b r => r = b)) b r → mG (d + 1) 184 50 [(3, k0), (3, k1), (3, k2), (1, k3), (1, k4), k5] [] σ r := by
      intro k0 k1 k2 k3 k4 k5 σ b r hj hb hk
      have e0 : k0 = l0 := (Prod.mk.inj (Option.some.inj ((hj.1 rfl).1))).2
      subst e0
      have e1 : k1 = l1 := (Prod.mk.inj (Option.some.inj ((hj.1 rfl).2.1))).2
      subst e1
      have e2 : k2 = l2 := (Prod.mk.inj (Option.some.inj ((hj.1 rfl).2.2.1))).2
      subst e2
      exact (T_Law_tell_50 hC hb hk).lle (lle_cons (lle_cons (lle_cons (lle_cons (lle_cons (lle_dead lle_nil))))))
    exact key _ _ _ _ _ _ σ b r hj hb hk
  · have key : ∀ (k0 k1 k2 k3 k4 : Int) (k5 : mV) (σ : mS) (b : ((Int × mS) ⊕ (Int × mS))) (r : Int × mS), mJ [(3, l0), (3, l1), (3, l2), (1, l3), (0, 0), (0, 0)] 52 [(3, k0), (3, k1), (3, k2), (1, k3), (1, k4), k5] [([(10, 65), (74, 75)], [0, 1, 2])] → (M_Law_tell_52 k0 k1 k2 k3 k4 σ) = some b → (Sum.elim (fun (s : Int × mS) r => mG (d + 1) 184 10 [(3, l0), (3, l1), (3, l2), (1, s.1), (0, 0), (0, 0)] [] s.2 r) (fun b r => r = b)) b r → mG (d + 1) 184 52 [(3, k0), (3, k1), (3, k2), (1, k3), (1, k4), k5] [] σ r := by
      intro k0 k1 k2 k3 k4 k5 σ b r hj hb hk
      have e0 : k0 = l0 := (Prod.mk.inj (Option.some.inj ((hj.1 rfl).1))).2
      subst e0
      have e1 : k1 = l1 := (Prod.mk.inj (Option.some.inj ((hj.1 rfl).2.1))).2
      subst e1
      have e2 : k2 = l2 := (Prod.mk.inj (Option.some.inj ((hj.1 rfl).2.2.1))).2
      subst e2
      exact (T_Law_tell_52 hC hb hk).lle (lle_cons (lle_cons (lle_cons (lle_cons (lle_cons (lle_dead lle_nil))))))
    exact key _ _ _ _ _ _ σ b r hj hb hk
  · cases hb
set_option maxRecDepth 100000 in
theorem TB_Law_tell_10 {d : Nat} (hC : ∀ k as σ p, C_Law_tell k as σ = some p → mEx d k as σ p) {l0 l1 l2 l3 : Int} {σ : mS} {b : ((Int × mS) ⊕ (Int × mS))} {r : Int × mS} (h : B_Law_tell_10 l0 l1 l2 l3 σ = some b) (hk : (Sum.elim (fun (s : Int × mS) r => mG (d + 1) 184 10 [(3, l0), (3, l1), (3, l2), (1, s.1), (0, 0), (0, 0)] [] s.2 r) (fun b r => r = b)) b r) : mG (d + 1) 184 10 [(3, l0), (3, l1), (3, l2), (1, l3), (0, 0), (0, 0)] [] σ r := by
  refine mblk_ok2 P_Law_tell (F := F_Law_tell_10) (Sum.elim (fun (s : Int × mS) r => mG (d + 1) 184 10 [(3, l0), (3, l1), (3, l2), (1, s.1), (0, 0), (0, 0)] [] s.2 r) (fun b r => r = b)) [([(10, 65), (74, 75)], [0, 1, 2])] [(10, 21), (76, 77)] [(3, l0), (3, l1), (3, l2), (1, l3), (0, 0), (0, 0)] (by decide +kernel) rfl hC ?_ (fun v σ b r hb hk => by cases hb; exact hk) _ 10 [(3, l0), (3, l1), (3, l2), (1, l3), (0, 0), (0, 0)] [] σ b r rfl (mJ_self _ _ _) ((E_Law_tell_10 l0 l1 l2 l3 σ).trans h) hk
  intro i L st σ b r hj hb hk
  unfold F_Law_tell_10 at hb
  split at hb
  · have key : ∀ (k0 k1 k2 k3 u0 : Int) (k4 k5 : mV) (σ : mS) (b : ((Int × mS) ⊕ (Int × mS))) (r : Int × mS), mJ [(3, l0), (3, l1), (3, l2), (1, l3), (0, 0), (0, 0)] 22 [(3, k0), (3, k1), (3, k2), (1, k3), k4, k5] [([(10, 65), (74, 75)], [0, 1, 2])] → (M_Law_tell_22 k0 k1 k2 k3 u0 σ) = some b → (Sum.elim (fun (s : Int × mS) r => mG (d + 1) 184 10 [(3, l0), (3, l1), (3, l2), (1, s.1), (0, 0), (0, 0)] [] s.2 r) (fun b r => r = b)) b r → mG (d + 1) 184 22 [(3, k0), (3, k1), (3, k2), (1, k3), k4, k5] [(1, u0)] σ r := by
      intro k0 k1 k2 k3 u0 k4 k5 σ b r hj hb hk
      have e0 : k0 = l0 := (Prod.mk.inj (Option.some.inj ((hj.1 rfl).1))).2
      subst e0
      have e1 : k1 = l1 := (Prod.mk.inj (Option.some.inj ((hj.1 rfl).2.1))).2
      subst e1
      have e2 : k2 = l2 := (Prod.mk.inj (Option.some.inj ((hj.1 rfl).2.2.1))).2
      subst e2
      exact (T_Law_tell_22 hC hb hk).lle (lle_cons (lle_cons (lle_cons (lle_cons (lle_dead (lle_dead lle_nil))))))
    exact key _ _ _ _ _ _ _ σ b r hj hb hk
  · cases hb
set_option maxRecDepth 100000 in
theorem T_Law_tell_10 {d : Nat} (hC : ∀ k as σ p, C_Law_tell k as σ = some p → mEx d k as σ p) {l0 l1 l2 l3 : Int} {σ : mS} {b : Int × mS} {r : Int × mS} (h : M_Law_tell_10 l0 l1 l2 l3 σ = some b) (hk : (fun b r => r = b) b r) : mG (d + 1) 184 10 [(3, l0), (3, l1), (3, l2), (1, l3), (0, 0), (0, 0)] [] σ r :=
  miter_ok (G := fun (s : Int × mS) r => mG (d + 1) 184 10 [(3, l0), (3, l1), (3, l2), (1, s.1), (0, 0), (0, 0)] [] s.2 r) (K := (fun b r => r = b)) (fun s x r hs hx => TB_Law_tell_10 hC hs hx) mN _ b r h hk
set_option maxRecDepth 100000 in
theorem T_Law_tell_0 {d : Nat} (hC : ∀ k as σ p, C_Law_tell k as σ = some p → mEx d k as σ p) {l0 l1 l2 : Int} {σ : mS} {b : Int × mS} {r : Int × mS} (h : M_Law_tell l0 l1 l2 σ = some b) (hk : (fun b r => r = b) b r) : mG (d + 1) 184 0 (mInit 6 [(3, l0), (3, l1), (3, l2)]) [] σ r := by
  refine mblk_ok1 P_Law_tell (F := F_Law_tell_0) (fun b r => r = b) hC ?_ (fun v σ b r hb hk => by cases hb; exact hk) _ 0 (mInit 6 [(3, l0), (3, l1), (3, l2)]) [] σ b r ((E_Law_tell_0 l0 l1 l2 σ).trans h) hk
  intro i L st σ b r hb hk
  unfold F_Law_tell_0 at hb
  split at hb
  · have key : ∀ (k0 k1 k2 k3 : Int) (k4 k5 : mV) (σ : mS) (b : Int × mS) (r : Int × mS), (M_Law_tell_10 k0 k1 k2 k3 σ) = some b → (fun b r => r = b) b r → mG (d + 1) 184 10 [(3, k0), (3, k1), (3, k2), (1, k3), k4, k5] [] σ r := by
      intro k0 k1 k2 k3 k4 k5 σ b r hb hk
      exact (T_Law_tell_10 hC hb hk).lle (lle_cons (lle_cons (lle_cons (lle_cons (lle_dead (lle_dead lle_nil))))))
    exact key _ _ _ _ _ _ σ b r hb hk
  · cases hb
set_option maxRecDepth 100000 in
theorem T_Law_tell {l0 l1 l2 : Int} {σ : mS} {r : Int × mS} (h : M_Law_tell l0 l1 l2 σ = some r) : mEx 3 184 [(3, l0), (3, l1), (3, l2)] σ r :=
  ⟨by rw [P_Law_tell]; exact Nat.le_of_ble_eq_true rfl, by rw [P_Law_tell]; exact T_Law_tell_0 TC_Law_tell h rfl⟩
set_option maxRecDepth 100000 in
theorem P_Air_warmth : mProg 162 = (c_Air_warmth, 6) := rfl
set_option maxRecDepth 100000 in
theorem TC_Air_warmth : ∀ k as σ p, C_Air_warmth k as σ = some p → mEx 3 k as σ p := by
  intro k as σ p hp
  unfold C_Air_warmth at hp
  split at hp
  · exact (T_Air_lawInForce hp).up (Nat.le_of_ble_eq_true rfl)
  · exact (T_Air_layOut hp).up (Nat.le_of_ble_eq_true rfl)
  · exact (T_Law_tell hp).up (Nat.le_of_ble_eq_true rfl)
  · cases hp
set_option maxRecDepth 100000 in
theorem T_Air_warmth_34 {d : Nat} (hC : ∀ k as σ p, C_Air_warmth k as σ = some p → mEx d k as σ p) {l1 l4 s2 s1 s0 : Int} {σ : mS} {b : Int × mS} {r : Int × mS} (h : M_Air_warmth_34 l1 l4 s2 s1 s0 σ = some b) (hk : (fun b r => r = b) b r) : mG (d + 1) 162 34 [(0, 0), (3, l1), (0, 0), (0, 0), (1, l4), (0, 0)] [(1, s2), (1, s1), (3, s0)] σ r := by
  refine mblk_ok1 P_Air_warmth (F := F_Air_warmth_34) (fun b r => r = b) hC ?_ (fun v σ b r hb hk => by cases hb; exact hk) _ 34 [(0, 0), (3, l1), (0, 0), (0, 0), (1, l4), (0, 0)] [(1, s2), (1, s1), (3, s0)] σ b r ((E_Air_warmth_34 l1 l4 s2 s1 s0 σ).trans h) hk
  intro i L st σ b r hb hk
  cases hb
set_option maxRecDepth 100000 in
theorem T_Air_warmth_0 {d : Nat} (hC : ∀ k as σ p, C_Air_warmth k as σ = some p → mEx d k as σ p) {l0 l1 l2 l3 : Int} {σ : mS} {b : Int × mS} {r : Int × mS} (h : M_Air_warmth l0 l1 l2 l3 σ = some b) (hk : (fun b r => r = b) b r) : mG (d + 1) 162 0 (mInit 6 [(3, l0), (3, l1), (1, l2), (1, l3)]) [] σ r := by
  refine mblk_ok1 P_Air_warmth (F := F_Air_warmth_0) (fun b r => r = b) hC ?_ (fun v σ b r hb hk => by cases hb; exact hk) _ 0 (mInit 6 [(3, l0), (3, l1), (1, l2), (1, l3)]) [] σ b r ((E_Air_warmth_0 l0 l1 l2 l3 σ).trans h) hk
  intro i L st σ b r hb hk
  unfold F_Air_warmth_0 at hb
  split at hb
  · have key : ∀ (k1 k4 u2 u1 u0 : Int) (k0 k2 k3 k5 : mV) (σ : mS) (b : Int × mS) (r : Int × mS), (M_Air_warmth_34 k1 k4 u2 u1 u0 σ) = some b → (fun b r => r = b) b r → mG (d + 1) 162 34 [k0, (3, k1), k2, k3, (1, k4), k5] [(1, u2), (1, u1), (3, u0)] σ r := by
      intro k1 k4 u2 u1 u0 k0 k2 k3 k5 σ b r hb hk
      exact (T_Air_warmth_34 hC hb hk).lle (lle_dead (lle_cons (lle_dead (lle_dead (lle_cons (lle_dead lle_nil))))))
    exact key _ _ _ _ _ _ _ _ _ σ b r hb hk
  · cases hb
set_option maxRecDepth 100000 in
theorem T_Air_warmth {l0 l1 l2 l3 : Int} {σ : mS} {r : Int × mS} (h : M_Air_warmth l0 l1 l2 l3 σ = some r) : mEx 4 162 [(3, l0), (3, l1), (1, l2), (1, l3)] σ r :=
  ⟨by rw [P_Air_warmth]; exact Nat.le_of_ble_eq_true rfl, by rw [P_Air_warmth]; exact T_Air_warmth_0 TC_Air_warmth h rfl⟩
set_option maxRecDepth 100000 in
theorem P_RW_warm : mProg 14 = (c_RW_warm, 4) := rfl
set_option maxRecDepth 100000 in
theorem TC_RW_warm : ∀ k as σ p, C_RW_warm k as σ = some p → mEx 4 k as σ p := by
  intro k as σ p hp
  unfold C_RW_warm at hp
  split at hp
  · exact (T_RW_isWithin hp).up (Nat.le_of_ble_eq_true rfl)
  · exact (T_RW_isPlace hp).up (Nat.le_of_ble_eq_true rfl)
  · exact (T_RW_isHour hp).up (Nat.le_of_ble_eq_true rfl)
  · exact (T_Air_ofHour hp).up (Nat.le_of_ble_eq_true rfl)
  · exact (T_Air_warmth hp).up (Nat.le_of_ble_eq_true rfl)
  · cases hp
set_option maxRecDepth 100000 in
theorem T_RW_warm_0 {d : Nat} (hC : ∀ k as σ p, C_RW_warm k as σ = some p → mEx d k as σ p) {l0 l1 l2 l3 : Int} {σ : mS} {b : Int × mS} {r : Int × mS} (h : M_RW_warm l0 l1 l2 l3 σ = some b) (hk : (fun b r => r = b) b r) : mG (d + 1) 14 0 (mInit 4 [(3, l0), (1, l1), (1, l2), (1, l3)]) [] σ r := by
  refine mblk_ok1 P_RW_warm (F := F_RW_warm_0) (fun b r => r = b) hC ?_ (fun v σ b r hb hk => by cases hb; exact hk) _ 0 (mInit 4 [(3, l0), (1, l1), (1, l2), (1, l3)]) [] σ b r ((E_RW_warm_0 l0 l1 l2 l3 σ).trans h) hk
  intro i L st σ b r hb hk
  cases hb
set_option maxRecDepth 100000 in
theorem T_RW_warm {l0 l1 l2 l3 : Int} {σ : mS} {r : Int × mS} (h : M_RW_warm l0 l1 l2 l3 σ = some r) : mEx 5 14 [(3, l0), (1, l1), (1, l2), (1, l3)] σ r :=
  ⟨by rw [P_RW_warm]; exact Nat.le_of_ble_eq_true rfl, by rw [P_RW_warm]; exact T_RW_warm_0 TC_RW_warm h rfl⟩
set_option maxRecDepth 100000 in
theorem P_RW_isAngle : mProg 51 = (c_RW_isAngle, 1) := rfl
set_option maxRecDepth 100000 in
theorem TC_RW_isAngle : ∀ k as σ p, C_RW_isAngle k as σ = some p → mEx 1 k as σ p := by
  intro k as σ p hp
  unfold C_RW_isAngle at hp
  split at hp
  · exact (T_RW_isWithin hp).up (Nat.le_of_ble_eq_true rfl)
  · cases hp
set_option maxRecDepth 100000 in
theorem T_RW_isAngle_0 {d : Nat} (hC : ∀ k as σ p, C_RW_isAngle k as σ = some p → mEx d k as σ p) {l0 : Int} {σ : mS} {b : Int × mS} {r : Int × mS} (h : M_RW_isAngle l0 σ = some b) (hk : (fun b r => r = b) b r) : mG (d + 1) 51 0 (mInit 1 [(1, l0)]) [] σ r := by
  refine mblk_ok1 P_RW_isAngle (F := F_RW_isAngle_0) (fun b r => r = b) hC ?_ (fun v σ b r hb hk => by cases hb; exact hk) _ 0 (mInit 1 [(1, l0)]) [] σ b r ((E_RW_isAngle_0 l0 σ).trans h) hk
  intro i L st σ b r hb hk
  cases hb
set_option maxRecDepth 100000 in
theorem T_RW_isAngle {l0 : Int} {σ : mS} {r : Int × mS} (h : M_RW_isAngle l0 σ = some r) : mEx 2 51 [(1, l0)] σ r :=
  ⟨by rw [P_RW_isAngle]; exact Nat.le_of_ble_eq_true rfl, by rw [P_RW_isAngle]; exact T_RW_isAngle_0 TC_RW_isAngle h rfl⟩
set_option maxRecDepth 100000 in
theorem P_Light_turnTo : mProg 189 = (c_Light_turnTo, 2) := rfl
set_option maxRecDepth 100000 in
theorem TC_Light_turnTo : ∀ k as σ p, C_Light_turnTo k as σ = some p → mEx 3 k as σ p := by
  intro k as σ p hp
  unfold C_Light_turnTo at hp
  split at hp
  · exact (T_Air_ofHour hp).up (Nat.le_of_ble_eq_true rfl)
  · cases hp
set_option maxRecDepth 100000 in
theorem T_Light_turnTo_0 {d : Nat} (hC : ∀ k as σ p, C_Light_turnTo k as σ = some p → mEx d k as σ p) {l0 l1 : Int} {σ : mS} {b : Int × mS} {r : Int × mS} (h : M_Light_turnTo l0 l1 σ = some b) (hk : (fun b r => r = b) b r) : mG (d + 1) 189 0 (mInit 2 [(3, l0), (1, l1)]) [] σ r := by
  refine mblk_ok1 P_Light_turnTo (F := F_Light_turnTo_0) (fun b r => r = b) hC ?_ (fun v σ b r hb hk => by cases hb; exact hk) _ 0 (mInit 2 [(3, l0), (1, l1)]) [] σ b r ((E_Light_turnTo_0 l0 l1 σ).trans h) hk
  intro i L st σ b r hb hk
  cases hb
set_option maxRecDepth 100000 in
theorem T_Light_turnTo {l0 l1 : Int} {σ : mS} {r : Int × mS} (h : M_Light_turnTo l0 l1 σ = some r) : mEx 4 189 [(3, l0), (1, l1)] σ r :=
  ⟨by rw [P_Light_turnTo]; exact Nat.le_of_ble_eq_true rfl, by rw [P_Light_turnTo]; exact T_Light_turnTo_0 TC_Light_turnTo h rfl⟩
set_option maxRecDepth 100000 in
theorem P_Light_standByTerms : mProg 188 = (c_Light_standByTerms, 1) := rfl
set_option maxRecDepth 100000 in
theorem TC_Light_standByTerms : ∀ k as σ p, C_Light_standByTerms k as σ = some p → mEx 4 k as σ p := by
  intro k as σ p hp
  unfold C_Light_standByTerms at hp
  split at hp
  · exact (T_Light_turnTo hp).up (Nat.le_of_ble_eq_true rfl)
  · cases hp
set_option maxRecDepth 100000 in
theorem T_Light_standByTerms_0 {d : Nat} (hC : ∀ k as σ p, C_Light_standByTerms k as σ = some p → mEx d k as σ p) {l0 : Int} {σ : mS} {b : Int × mS} {r : Int × mS} (h : M_Light_standByTerms l0 σ = some b) (hk : (fun b r => r = b) b r) : mG (d + 1) 188 0 (mInit 1 [(3, l0)]) [] σ r := by
  refine mblk_ok1 P_Light_standByTerms (F := F_Light_standByTerms_0) (fun b r => r = b) hC ?_ (fun v σ b r hb hk => by cases hb; exact hk) _ 0 (mInit 1 [(3, l0)]) [] σ b r ((E_Light_standByTerms_0 l0 σ).trans h) hk
  intro i L st σ b r hb hk
  cases hb
set_option maxRecDepth 100000 in
theorem T_Light_standByTerms {l0 : Int} {σ : mS} {r : Int × mS} (h : M_Light_standByTerms l0 σ = some r) : mEx 5 188 [(3, l0)] σ r :=
  ⟨by rw [P_Light_standByTerms]; exact Nat.le_of_ble_eq_true rfl, by rw [P_Light_standByTerms]; exact T_Light_standByTerms_0 TC_Light_standByTerms h rfl⟩
set_option maxRecDepth 100000 in
theorem P_Air_findPull : mProg 161 = (c_Air_findPull, 5) := rfl
set_option maxRecDepth 100000 in
theorem TC_Air_findPull : ∀ k as σ p, C_Air_findPull k as σ = some p → mEx 4 k as σ p := by
  intro k as σ p hp
  unfold C_Air_findPull at hp
  split at hp
  · exact (T_Air_warmth hp).up (Nat.le_of_ble_eq_true rfl)
  · cases hp
set_option maxRecDepth 100000 in
theorem T_Air_findPull_0 {d : Nat} (hC : ∀ k as σ p, C_Air_findPull k as σ = some p → mEx d k as σ p) {l0 l1 l2 l3 : Int} {σ : mS} {b : Int × mS} {r : Int × mS} (h : M_Air_findPull l0 l1 l2 l3 σ = some b) (hk : (fun b r => r = b) b r) : mG (d + 1) 161 0 (mInit 5 [(3, l0), (3, l1), (1, l2), (1, l3)]) [] σ r := by
  refine mblk_ok1 P_Air_findPull (F := F_Air_findPull_0) (fun b r => r = b) hC ?_ (fun v σ b r hb hk => by cases hb; exact hk) _ 0 (mInit 5 [(3, l0), (3, l1), (1, l2), (1, l3)]) [] σ b r ((E_Air_findPull_0 l0 l1 l2 l3 σ).trans h) hk
  intro i L st σ b r hb hk
  cases hb
set_option maxRecDepth 100000 in
theorem T_Air_findPull {l0 l1 l2 l3 : Int} {σ : mS} {r : Int × mS} (h : M_Air_findPull l0 l1 l2 l3 σ = some r) : mEx 5 161 [(3, l0), (3, l1), (1, l2), (1, l3)] σ r :=
  ⟨by rw [P_Air_findPull]; exact Nat.le_of_ble_eq_true rfl, by rw [P_Air_findPull]; exact T_Air_findPull_0 TC_Air_findPull h rfl⟩
set_option maxRecDepth 100000 in
theorem P_Light_drawn : mProg 191 = (c_Light_drawn, 2) := rfl
set_option maxRecDepth 100000 in
theorem TC_Light_drawn : ∀ k as σ p, C_Light_drawn k as σ = some p → mEx 0 k as σ p := by
  intro k as σ p hp
  cases hp
set_option maxRecDepth 100000 in
theorem T_Light_drawn_0 {d : Nat} (hC : ∀ k as σ p, C_Light_drawn k as σ = some p → mEx d k as σ p) {l0 l1 : Int} {σ : mS} {b : Int × mS} {r : Int × mS} (h : M_Light_drawn l0 l1 σ = some b) (hk : (fun b r => r = b) b r) : mG (d + 1) 191 0 (mInit 2 [(3, l0), (1, l1)]) [] σ r := by
  refine mblk_ok1 P_Light_drawn (F := F_Light_drawn_0) (fun b r => r = b) hC ?_ (fun v σ b r hb hk => by cases hb; exact hk) _ 0 (mInit 2 [(3, l0), (1, l1)]) [] σ b r ((E_Light_drawn_0 l0 l1 σ).trans h) hk
  intro i L st σ b r hb hk
  cases hb
set_option maxRecDepth 100000 in
theorem T_Light_drawn {l0 l1 : Int} {σ : mS} {r : Int × mS} (h : M_Light_drawn l0 l1 σ = some r) : mEx 1 191 [(3, l0), (1, l1)] σ r :=
  ⟨by rw [P_Light_drawn]; exact Nat.le_of_ble_eq_true rfl, by rw [P_Light_drawn]; exact T_Light_drawn_0 TC_Light_drawn h rfl⟩
set_option maxRecDepth 100000 in
theorem P_Light_settle : mProg 192 = (c_Light_settle, 4) := rfl
set_option maxRecDepth 100000 in
theorem TC_Light_settle : ∀ k as σ p, C_Light_settle k as σ = some p → mEx 0 k as σ p := by
  intro k as σ p hp
  cases hp
set_option maxRecDepth 100000 in
theorem T_Light_settle_0 {d : Nat} (hC : ∀ k as σ p, C_Light_settle k as σ = some p → mEx d k as σ p) {l0 l1 l2 l3 : Int} {σ : mS} {b : Int × mS} {r : Int × mS} (h : M_Light_settle l0 l1 l2 l3 σ = some b) (hk : (fun b r => r = b) b r) : mG (d + 1) 192 0 (mInit 4 [(3, l0), (1, l1), (1, l2), (1, l3)]) [] σ r := by
  refine mblk_ok1 P_Light_settle (F := F_Light_settle_0) (fun b r => r = b) hC ?_ (fun v σ b r hb hk => by cases hb; exact hk) _ 0 (mInit 4 [(3, l0), (1, l1), (1, l2), (1, l3)]) [] σ b r ((E_Light_settle_0 l0 l1 l2 l3 σ).trans h) hk
  intro i L st σ b r hb hk
  cases hb
set_option maxRecDepth 100000 in
theorem T_Light_settle {l0 l1 l2 l3 : Int} {σ : mS} {r : Int × mS} (h : M_Light_settle l0 l1 l2 l3 σ = some r) : mEx 1 192 [(3, l0), (1, l1), (1, l2), (1, l3)] σ r :=
  ⟨by rw [P_Light_settle]; exact Nat.le_of_ble_eq_true rfl, by rw [P_Light_settle]; exact T_Light_settle_0 TC_Light_settle h rfl⟩
set_option maxRecDepth 100000 in
theorem P_Light_send : mProg 190 = (c_Light_send, 10) := rfl
set_option maxRecDepth 100000 in
theorem TC_Light_send : ∀ k as σ p, C_Light_send k as σ = some p → mEx 5 k as σ p := by
  intro k as σ p hp
  unfold C_Light_send at hp
  split at hp
  · exact (T_Air_findPull hp).up (Nat.le_of_ble_eq_true rfl)
  · exact (T_Light_drawn hp).up (Nat.le_of_ble_eq_true rfl)
  · exact (T_Light_settle hp).up (Nat.le_of_ble_eq_true rfl)
  · cases hp
set_option maxRecDepth 100000 in
theorem T_Light_send_157 {d : Nat} (hC : ∀ k as σ p, C_Light_send k as σ = some p → mEx d k as σ p) {l0 l4 l5 l7 s1 s0 : Int} {σ : mS} {b : Int × mS} {r : Int × mS} (h : M_Light_send_157 l0 l4 l5 l7 s1 s0 σ = some b) (hk : (fun b r => r = b) b r) : mG (d + 1) 190 157 [(3, l0), (0, 0), (0, 0), (0, 0), (1, l4), (1, l5), (0, 0), (1, l7), (0, 0), (0, 0)] [(1, s1), (3, s0)] σ r := by
  refine mblk_ok1 P_Light_send (F := F_Light_send_157) (fun b r => r = b) hC ?_ (fun v σ b r hb hk => by cases hb; exact hk) _ 157 [(3, l0), (0, 0), (0, 0), (0, 0), (1, l4), (1, l5), (0, 0), (1, l7), (0, 0), (0, 0)] [(1, s1), (3, s0)] σ b r ((E_Light_send_157 l0 l4 l5 l7 s1 s0 σ).trans h) hk
  intro i L st σ b r hb hk
  cases hb
set_option maxRecDepth 100000 in
theorem T_Light_send_140 {d : Nat} (hC : ∀ k as σ p, C_Light_send k as σ = some p → mEx d k as σ p) {l0 l2 l4 l5 l6 l7 : Int} {σ : mS} {b : Int × mS} {r : Int × mS} (h : M_Light_send_140 l0 l2 l4 l5 l6 l7 σ = some b) (hk : (fun b r => r = b) b r) : mG (d + 1) 190 140 [(3, l0), (0, 0), (3, l2), (0, 0), (1, l4), (1, l5), (1, l6), (1, l7), (0, 0), (0, 0)] [] σ r := by
  refine mblk_ok1 P_Light_send (F := F_Light_send_140) (fun b r => r = b) hC ?_ (fun v σ b r hb hk => by cases hb; exact hk) _ 140 [(3, l0), (0, 0), (3, l2), (0, 0), (1, l4), (1, l5), (1, l6), (1, l7), (0, 0), (0, 0)] [] σ b r ((E_Light_send_140 l0 l2 l4 l5 l6 l7 σ).trans h) hk
  intro i L st σ b r hb hk
  unfold F_Light_send_140 at hb
  split at hb
  · have key : ∀ (k0 k4 k5 k7 u1 u0 : Int) (k1 k2 k3 k6 k8 k9 : mV) (σ : mS) (b : Int × mS) (r : Int × mS), (M_Light_send_157 k0 k4 k5 k7 u1 u0 σ) = some b → (fun b r => r = b) b r → mG (d + 1) 190 157 [(3, k0), k1, k2, k3, (1, k4), (1, k5), k6, (1, k7), k8, k9] [(1, u1), (3, u0)] σ r := by
      intro k0 k4 k5 k7 u1 u0 k1 k2 k3 k6 k8 k9 σ b r hb hk
      exact (T_Light_send_157 hC hb hk).lle (lle_cons (lle_dead (lle_dead (lle_dead (lle_cons (lle_cons (lle_dead (lle_cons (lle_dead (lle_dead lle_nil))))))))))
    exact key _ _ _ _ _ _ _ _ _ _ _ _ σ b r hb hk
  · cases hb
set_option maxRecDepth 100000 in
theorem T_Light_send_128 {d : Nat} (hC : ∀ k as σ p, C_Light_send k as σ = some p → mEx d k as σ p) {l0 l2 l3 l4 l5 l6 l7 l9 : Int} {σ : mS} {b : ((Int × Int × Int × Int × mS) ⊕ (Int × mS))} {r : Int × mS} (h : M_Light_send_128 l0 l2 l3 l4 l5 l6 l7 l9 σ = some b) (hk : (Sum.elim (fun (s : Int × Int × Int × Int × mS) r => mG (d + 1) 190 33 [(3, l0), (0, 0), (3, l2), (3, l3), (1, s.1), (1, s.2.1), (1, s.2.2.1), (1, s.2.2.2.1), (0, 0), (0, 0)] [] s.2.2.2.2 r) (fun b r => r = b)) b r) : mG (d + 1) 190 128 [(3, l0), (0, 0), (3, l2), (3, l3), (1, l4), (1, l5), (1, l6), (1, l7), (0, 0), (1, l9)] [] σ r := by
  refine mblk_ok2 P_Light_send (F := F_Light_send_128) (Sum.elim (fun (s : Int × Int × Int × Int × mS) r => mG (d + 1) 190 33 [(3, l0), (0, 0), (3, l2), (3, l3), (1, s.1), (1, s.2.1), (1, s.2.2.1), (1, s.2.2.2.1), (0, 0), (0, 0)] [] s.2.2.2.2 r) (fun b r => r = b)) [([(33, 139)], [0, 2, 3])] [(128, 139)] [(3, l0), (0, 0), (3, l2), (3, l3), (1, l4), (1, l5), (1, l6), (1, l7), (0, 0), (1, l9)] (by decide +kernel) rfl hC ?_ (fun v σ b r hb hk => by cases hb; exact hk) _ 128 [(3, l0), (0, 0), (3, l2), (3, l3), (1, l4), (1, l5), (1, l6), (1, l7), (0, 0), (1, l9)] [] σ b r rfl (mJ_self _ _ _) ((E_Light_send_128 l0 l2 l3 l4 l5 l6 l7 l9 σ).trans h) hk
  intro i L st σ b r hj hb hk
  unfold F_Light_send_128 at hb
  split at hb
  · have key : ∀ (k0 k2 k3 k4 k5 k6 k7 : Int) (k1 k8 k9 : mV) (σ : mS) (b : ((Int × Int × Int × Int × mS) ⊕ (Int × mS))) (r : Int × mS), mJ [(3, l0), (0, 0), (3, l2), (3, l3), (1, l4), (1, l5), (1, l6), (1, l7), (0, 0), (1, l9)] 33 [(3, k0), k1, (3, k2), (3, k3), (1, k4), (1, k5), (1, k6), (1, k7), k8, k9] [([(33, 139)], [0, 2, 3])] → (some (.inl (k4, k5, k6, k7, σ))) = some b → (Sum.elim (fun (s : Int × Int × Int × Int × mS) r => mG (d + 1) 190 33 [(3, l0), (0, 0), (3, l2), (3, l3), (1, s.1), (1, s.2.1), (1, s.2.2.1), (1, s.2.2.2.1), (0, 0), (0, 0)] [] s.2.2.2.2 r) (fun b r => r = b)) b r → mG (d + 1) 190 33 [(3, k0), k1, (3, k2), (3, k3), (1, k4), (1, k5), (1, k6), (1, k7), k8, k9] [] σ r := by
      intro k0 k2 k3 k4 k5 k6 k7 k1 k8 k9 σ b r hj hb hk
      have e0 : k0 = l0 := (Prod.mk.inj (Option.some.inj ((hj.1 rfl).1))).2
      subst e0
      have e2 : k2 = l2 := (Prod.mk.inj (Option.some.inj ((hj.1 rfl).2.1))).2
      subst e2
      have e3 : k3 = l3 := (Prod.mk.inj (Option.some.inj ((hj.1 rfl).2.2.1))).2
      subst e3
      cases hb
      exact mG.lle hk (lle_cons (lle_dead (lle_cons (lle_cons (lle_cons (lle_cons (lle_cons (lle_cons (lle_dead (lle_dead lle_nil))))))))))
    exact key _ _ _ _ _ _ _ _ _ _ σ b r hj hb hk
  · cases hb
set_option maxRecDepth 100000 in
theorem T_Light_send_99 {d : Nat} (hC : ∀ k as σ p, C_Light_send k as σ = some p → mEx d k as σ p) {l0 l2 l3 l4 l5 l6 s0 : Int} {σ : mS} {b : ((Int × Int × Int × Int × mS) ⊕ (Int × mS))} {r : Int × mS} (h : M_Light_send_99 l0 l2 l3 l4 l5 l6 s0 σ = some b) (hk : (Sum.elim (fun (s : Int × Int × Int × Int × mS) r => mG (d + 1) 190 33 [(3, l0), (0, 0), (3, l2), (3, l3), (1, s.1), (1, s.2.1), (1, s.2.2.1), (1, s.2.2.2.1), (0, 0), (0, 0)] [] s.2.2.2.2 r) (fun b r => r = b)) b r) : mG (d + 1) 190 99 [(3, l0), (0, 0), (3, l2), (3, l3), (1, l4), (1, l5), (1, l6), (0, 0), (0, 0), (0, 0)] [(1, s0)] σ r := by
  refine mblk_ok2 P_Light_send (F := F_Light_send_99) (Sum.elim (fun (s : Int × Int × Int × Int × mS) r => mG (d + 1) 190 33 [(3, l0), (0, 0), (3, l2), (3, l3), (1, s.1), (1, s.2.1), (1, s.2.2.1), (1, s.2.2.2.1), (0, 0), (0, 0)] [] s.2.2.2.2 r) (fun b r => r = b)) [([(33, 139)], [0, 2, 3])] [(99, 127), (139, 139)] [(3, l0), (0, 0), (3, l2), (3, l3), (1, l4), (1, l5), (1, l6), (0, 0), (0, 0), (0, 0)] (by decide +kernel) rfl hC ?_ (fun v σ b r hb hk => by cases hb; exact hk) _ 99 [(3, l0), (0, 0), (3, l2), (3, l3), (1, l4), (1, l5), (1, l6), (0, 0), (0, 0), (0, 0)] [(1, s0)] σ b r rfl (mJ_self _ _ _) ((E_Light_send_99 l0 l2 l3 l4 l5 l6 s0 σ).trans h) hk
  intro i L st σ b r hj hb hk
  unfold F_Light_send_99 at hb
  split at hb
  · have key : ∀ (k0 k2 k3 k4 k5 k6 k7 : Int) (k1 k8 k9 : mV) (σ : mS) (b : ((Int × Int × Int × Int × mS) ⊕ (Int × mS))) (r : Int × mS), mJ [(3, l0), (0, 0), (3, l2), (3, l3), (1, l4), (1, l5), (1, l6), (0, 0), (0, 0), (0, 0)] 33 [(3, k0), k1, (3, k2), (3, k3), (1, k4), (1, k5), (1, k6), (1, k7), k8, k9] [([(33, 139)], [0, 2, 3])] → (some (.inl (k4, k5, k6, k7, σ))) = some b → (Sum.elim (fun (s : Int × Int × Int × Int × mS) r => mG (d + 1) 190 33 [(3, l0), (0, 0), (3, l2), (3, l3), (1, s.1), (1, s.2.1), (1, s.2.2.1), (1, s.2.2.2.1), (0, 0), (0, 0)] [] s.2.2.2.2 r) (fun b r => r = b)) b r → mG (d + 1) 190 33 [(3, k0), k1, (3, k2), (3, k3), (1, k4), (1, k5), (1, k6), (1, k7), k8, k9] [] σ r := by
      intro k0 k2 k3 k4 k5 k6 k7 k1 k8 k9 σ b r hj hb hk
      have e0 : k0 = l0 := (Prod.mk.inj (Option.some.inj ((hj.1 rfl).1))).2
      subst e0
      have e2 : k2 = l2 := (Prod.mk.inj (Option.some.inj ((hj.1 rfl).2.1))).2
      subst e2
      have e3 : k3 = l3 := (Prod.mk.inj (Option.some.inj ((hj.1 rfl).2.2.1))).2
      subst e3
      cases hb
      exact mG.lle hk (lle_cons (lle_dead (lle_cons (lle_cons (lle_cons (lle_cons (lle_cons (lle_cons (lle_dead (lle_dead lle_nil))))))))))
    exact key _ _ _ _ _ _ _ _ _ _ σ b r hj hb hk
  · have key : ∀ (k0 k2 k3 k4 k5 k6 k7 k9 : Int) (k1 k8 : mV) (σ : mS) (b : ((Int × Int × Int × Int × mS) ⊕ (Int × mS))) (r : Int × mS), mJ [(3, l0), (0, 0), (3, l2), (3, l3), (1, l4), (1, l5), (1, l6), (0, 0), (0, 0), (0, 0)] 128 [(3, k0), k1, (3, k2), (3, k3), (1, k4), (1, k5), (1, k6), (1, k7), k8, (1, k9)] [([(33, 139)], [0, 2, 3])] → (M_Light_send_128 k0 k2 k3 k4 k5 k6 k7 k9 σ) = some b → (Sum.elim (fun (s : Int × Int × Int × Int × mS) r => mG (d + 1) 190 33 [(3, l0), (0, 0), (3, l2), (3, l3), (1, s.1), (1, s.2.1), (1, s.2.2.1), (1, s.2.2.2.1), (0, 0), (0, 0)] [] s.2.2.2.2 r) (fun b r => r = b)) b r → mG (d + 1) 190 128 [(3, k0), k1, (3, k2), (3, k3), (1, k4), (1, k5), (1, k6), (1, k7), k8, (1, k9)] [] σ r := by
      intro k0 k2 k3 k4 k5 k6 k7 k9 k1 k8 σ b r hj hb hk
      have e0 : k0 = l0 := (Prod.mk.inj (Option.some.inj ((hj.1 rfl).1))).2
      subst e0
      have e2 : k2 = l2 := (Prod.mk.inj (Option.some.inj ((hj.1 rfl).2.1))).2
      subst e2
      have e3 : k3 = l3 := (Prod.mk.inj (Option.some.inj ((hj.1 rfl).2.2.1))).2
      subst e3
      exact (T_Light_send_128 hC hb hk).lle (lle_cons (lle_dead (lle_cons (lle_cons (lle_cons (lle_cons (lle_cons (lle_cons (lle_dead (lle_cons lle_nil))))))))))
    exact key _ _ _ _ _ _ _ _ _ _ σ b r hj hb hk
  · cases hb
set_option maxRecDepth 100000 in
theorem T_Light_send_98 {d : Nat} (hC : ∀ k as σ p, C_Light_send k as σ = some p → mEx d k as σ p) {l0 l2 l3 l4 l5 l6 : Int} {σ : mS} {b : ((Int × Int × Int × Int × mS) ⊕ (Int × mS))} {r : Int × mS} (h : M_Light_send_98 l0 l2 l3 l4 l5 l6 σ = some b) (hk : (Sum.elim (fun (s : Int × Int × Int × Int × mS) r => mG (d + 1) 190 33 [(3, l0), (0, 0), (3, l2), (3, l3), (1, s.1), (1, s.2.1), (1, s.2.2.1), (1, s.2.2.2.1), (0, 0), (0, 0)] [] s.2.2.2.2 r) (fun b r => r = b)) b r) : mG (d + 1) 190 98 [(3, l0), (0, 0), (3, l2), (3, l3), (1, l4), (1, l5), (1, l6), (0, 0), (0, 0), (0, 0)] [] σ r := by
  refine mblk_ok2 P_Light_send (F := F_Light_send_98) (Sum.elim (fun (s : Int × Int × Int × Int × mS) r => mG (d + 1) 190 33 [(3, l0), (0, 0), (3, l2), (3, l3), (1, s.1), (1, s.2.1), (1, s.2.2.1), (1, s.2.2.2.1), (0, 0), (0, 0)] [] s.2.2.2.2 r) (fun b r => r = b)) [([(33, 139)], [0, 2, 3])] [(98, 98)] [(3, l0), (0, 0), (3, l2), (3, l3), (1, l4), (1, l5), (1, l6), (0, 0), (0, 0), (0, 0)] (by decide +kernel) rfl hC ?_ (fun v σ b r hb hk => by cases hb; exact hk) _ 98 [(3, l0), (0, 0), (3, l2), (3, l3), (1, l4), (1, l5), (1, l6), (0, 0), (0, 0), (0, 0)] [] σ b r rfl (mJ_self _ _ _) ((E_Light_send_98 l0 l2 l3 l4 l5 l6 σ).trans h) hk
  intro i L st σ b r hj hb hk
  unfold F_Light_send_98 at hb
  split at hb
  · have key : ∀ (k0 k2 k3 k4 k5 k6 u0 : Int) (k1 k7 k8 k9 : mV) (σ : mS) (b : ((Int × Int × Int × Int × mS) ⊕ (Int × mS))) (r : Int × mS), mJ [(3, l0), (0, 0), (3, l2), (3, l3), (1, l4), (1, l5), (1, l6), (0, 0), (0, 0), (0, 0)] 99 [(3, k0), k1, (3, k2), (3, k3), (1, k4), (1, k5), (1, k6), k7, k8, k9] [([(33, 139)], [0, 2, 3])] → (M_Light_send_99 k0 k2 k3 k4 k5 k6 u0 σ) = some b → (Sum.elim (fun (s : Int × Int × Int × Int × mS) r => mG (d + 1) 190 33 [(3, l0), (0, 0), (3, l2), (3, l3), (1, s.1), (1, s.2.1), (1, s.2.2.1), (1, s.2.2.2.1), (0, 0), (0, 0)] [] s.2.2.2.2 r) (fun b r => r = b)) b r → mG (d + 1) 190 99 [(3, k0), k1, (3, k2), (3, k3), (1, k4), (1, k5), (1, k6), k7, k8, k9] [(1, u0)] σ r := by
      intro k0 k2 k3 k4 k5 k6 u0 k1 k7 k8 k9 σ b r hj hb hk
      have e0 : k0 = l0 := (Prod.mk.inj (Option.some.inj ((hj.1 rfl).1))).2
      subst e0
      have e2 : k2 = l2 := (Prod.mk.inj (Option.some.inj ((hj.1 rfl).2.1))).2
      subst e2
      have e3 : k3 = l3 := (Prod.mk.inj (Option.some.inj ((hj.1 rfl).2.2.1))).2
      subst e3
      exact (T_Light_send_99 hC hb hk).lle (lle_cons (lle_dead (lle_cons (lle_cons (lle_cons (lle_cons (lle_cons (lle_dead (lle_dead (lle_dead lle_nil))))))))))
    exact key _ _ _ _ _ _ _ _ _ _ _ σ b r hj hb hk
  · cases hb
set_option maxRecDepth 100000 in
theorem T_Light_send_96 {d : Nat} (hC : ∀ k as σ p, C_Light_send k as σ = some p → mEx d k as σ p) {l0 l2 l3 l4 l5 l6 : Int} {σ : mS} {b : ((Int × Int × Int × Int × mS) ⊕ (Int × mS))} {r : Int × mS} (h : M_Light_send_96 l0 l2 l3 l4 l5 l6 σ = some b) (hk : (Sum.elim (fun (s : Int × Int × Int × Int × mS) r => mG (d + 1) 190 33 [(3, l0), (0, 0), (3, l2), (3, l3), (1, s.1), (1, s.2.1), (1, s.2.2.1), (1, s.2.2.2.1), (0, 0), (0, 0)] [] s.2.2.2.2 r) (fun b r => r = b)) b r) : mG (d + 1) 190 96 [(3, l0), (0, 0), (3, l2), (3, l3), (1, l4), (1, l5), (1, l6), (0, 0), (0, 0), (0, 0)] [] σ r := by
  refine mblk_ok2 P_Light_send (F := F_Light_send_96) (Sum.elim (fun (s : Int × Int × Int × Int × mS) r => mG (d + 1) 190 33 [(3, l0), (0, 0), (3, l2), (3, l3), (1, s.1), (1, s.2.1), (1, s.2.2.1), (1, s.2.2.2.1), (0, 0), (0, 0)] [] s.2.2.2.2 r) (fun b r => r = b)) [([(33, 139)], [0, 2, 3])] [(96, 97)] [(3, l0), (0, 0), (3, l2), (3, l3), (1, l4), (1, l5), (1, l6), (0, 0), (0, 0), (0, 0)] (by decide +kernel) rfl hC ?_ (fun v σ b r hb hk => by cases hb; exact hk) _ 96 [(3, l0), (0, 0), (3, l2), (3, l3), (1, l4), (1, l5), (1, l6), (0, 0), (0, 0), (0, 0)] [] σ b r rfl (mJ_self _ _ _) ((E_Light_send_96 l0 l2 l3 l4 l5 l6 σ).trans h) hk
  intro i L st σ b r hj hb hk
  unfold F_Light_send_96 at hb
  split at hb
  · have key : ∀ (k0 k2 k3 k4 k5 k6 u0 : Int) (k1 k7 k8 k9 : mV) (σ : mS) (b : ((Int × Int × Int × Int × mS) ⊕ (Int × mS))) (r : Int × mS), mJ [(3, l0), (0, 0), (3, l2), (3, l3), (1, l4), (1, l5), (1, l6), (0, 0), (0, 0), (0, 0)] 99 [(3, k0), k1, (3, k2), (3, k3), (1, k4), (1, k5), (1, k6), k7, k8, k9] [([(33, 139)], [0, 2, 3])] → (M_Light_send_99 k0 k2 k3 k4 k5 k6 u0 σ) = some b → (Sum.elim (fun (s : Int × Int × Int × Int × mS) r => mG (d + 1) 190 33 [(3, l0), (0, 0), (3, l2), (3, l3), (1, s.1), (1, s.2.1), (1, s.2.2.1), (1, s.2.2.2.1), (0, 0), (0, 0)] [] s.2.2.2.2 r) (fun b r => r = b)) b r → mG (d + 1) 190 99 [(3, k0), k1, (3, k2), (3, k3), (1, k4), (1, k5), (1, k6), k7, k8, k9] [(1, u0)] σ r := by
      intro k0 k2 k3 k4 k5 k6 u0 k1 k7 k8 k9 σ b r hj hb hk
      have e0 : k0 = l0 := (Prod.mk.inj (Option.some.inj ((hj.1 rfl).1))).2
      subst e0
      have e2 : k2 = l2 := (Prod.mk.inj (Option.some.inj ((hj.1 rfl).2.1))).2
      subst e2
      have e3 : k3 = l3 := (Prod.mk.inj (Option.some.inj ((hj.1 rfl).2.2.1))).2
      subst e3
      exact (T_Light_send_99 hC hb hk).lle (lle_cons (lle_dead (lle_cons (lle_cons (lle_cons (lle_cons (lle_cons (lle_dead (lle_dead (lle_dead lle_nil))))))))))
    exact key _ _ _ _ _ _ _ _ _ _ _ σ b r hj hb hk
  · cases hb
set_option maxRecDepth 100000 in
theorem T_Light_send_60 {d : Nat} (hC : ∀ k as σ p, C_Light_send k as σ = some p → mEx d k as σ p) {l0 l2 l3 l4 l5 l6 : Int} {σ : mS} {b : ((Int × Int × Int × Int × mS) ⊕ (Int × mS))} {r : Int × mS} (h : M_Light_send_60 l0 l2 l3 l4 l5 l6 σ = some b) (hk : (Sum.elim (fun (s : Int × Int × Int × Int × mS) r => mG (d + 1) 190 33 [(3, l0), (0, 0), (3, l2), (3, l3), (1, s.1), (1, s.2.1), (1, s.2.2.1), (1, s.2.2.2.1), (0, 0), (0, 0)] [] s.2.2.2.2 r) (fun b r => r = b)) b r) : mG (d + 1) 190 60 [(3, l0), (0, 0), (3, l2), (3, l3), (1, l4), (1, l5), (1, l6), (0, 0), (0, 0), (0, 0)] [] σ r := by
  refine mblk_ok2 P_Light_send (F := F_Light_send_60) (Sum.elim (fun (s : Int × Int × Int × Int × mS) r => mG (d + 1) 190 33 [(3, l0), (0, 0), (3, l2), (3, l3), (1, s.1), (1, s.2.1), (1, s.2.2.1), (1, s.2.2.2.1), (0, 0), (0, 0)] [] s.2.2.2.2 r) (fun b r => r = b)) [([(33, 139)], [0, 2, 3])] [(60, 95)] [(3, l0), (0, 0), (3, l2), (3, l3), (1, l4), (1, l5), (1, l6), (0, 0), (0, 0), (0, 0)] (by decide +kernel) rfl hC ?_ (fun v σ b r hb hk => by cases hb; exact hk) _ 60 [(3, l0), (0, 0), (3, l2), (3, l3), (1, l4), (1, l5), (1, l6), (0, 0), (0, 0), (0, 0)] [] σ b r rfl (mJ_self _ _ _) ((E_Light_send_60 l0 l2 l3 l4 l5 l6 σ).trans h) hk
  intro i L st σ b r hj hb hk
  unfold F_Light_send_60 at hb
  split at hb
  · have key : ∀ (k0 k2 k3 k4 k5 k6 : Int) (k1 k7 k8 k9 : mV) (σ : mS) (b : ((Int × Int × Int × Int × mS) ⊕ (Int × mS))) (r : Int × mS), mJ [(3, l0), (0, 0), (3, l2), (3, l3), (1, l4), (1, l5), (1, l6), (0, 0), (0, 0), (0, 0)] 96 [(3, k0), k1, (3, k2), (3, k3), (1, k4), (1, k5), (1, k6), k7, k8, k9] [([(33, 139)], [0, 2, 3])] → (M_Light_send_96 k0 k2 k3 k4 k5 k6 σ) = some b → (Sum.elim (fun (s : Int × Int × Int × Int × mS) r => mG (d + 1) 190 33 [(3, l0), (0, 0), (3, l2), (3, l3), (1, s.1), (1, s.2.1), (1, s.2.2.1), (1, s.2.2.2.1), (0, 0), (0, 0)] [] s.2.2.2.2 r) (fun b r => r = b)) b r → mG (d + 1) 190 96 [(3, k0), k1, (3, k2), (3, k3), (1, k4), (1, k5), (1, k6), k7, k8, k9] [] σ r := by
      intro k0 k2 k3 k4 k5 k6 k1 k7 k8 k9 σ b r hj hb hk
      have e0 : k0 = l0 := (Prod.mk.inj (Option.some.inj ((hj.1 rfl).1))).2
      subst e0
      have e2 : k2 = l2 := (Prod.mk.inj (Option.some.inj ((hj.1 rfl).2.1))).2
      subst e2
      have e3 : k3 = l3 := (Prod.mk.inj (Option.some.inj ((hj.1 rfl).2.2.1))).2
      subst e3
      exact (T_Light_send_96 hC hb hk).lle (lle_cons (lle_dead (lle_cons (lle_cons (lle_cons (lle_cons (lle_cons (lle_dead (lle_dead (lle_dead lle_nil))))))))))
    exact key _ _ _ _ _ _ _ _ _ _ σ b r hj hb hk
  · have key : ∀ (k0 k2 k3 k4 k5 k6 : Int) (k1 k7 k8 k9 : mV) (σ : mS) (b : ((Int × Int × Int × Int × mS) ⊕ (Int × mS))) (r : Int × mS), mJ [(3, l0), (0, 0), (3, l2), (3, l3), (1, l4), (1, l5), (1, l6), (0, 0), (0, 0), (0, 0)] 98 [(3, k0), k1, (3, k2), (3, k3), (1, k4), (1, k5), (1, k6), k7, k8, k9] [([(33, 139)], [0, 2, 3])] → (M_Light_send_98 k0 k2 k3 k4 k5 k6 σ) = some b → (Sum.elim (fun (s : Int × Int × Int × Int × mS) r => mG (d + 1) 190 33 [(3, l0), (0, 0), (3, l2), (3, l3), (1, s.1), (1, s.2.1), (1, s.2.2.1), (1, s.2.2.2.1), (0, 0), (0, 0)] [] s.2.2.2.2 r) (fun b r => r = b)) b r → mG (d + 1) 190 98 [(3, k0), k1, (3, k2), (3, k3), (1, k4), (1, k5), (1, k6), k7, k8, k9] [] σ r := by
      intro k0 k2 k3 k4 k5 k6 k1 k7 k8 k9 σ b r hj hb hk
      have e0 : k0 = l0 := (Prod.mk.inj (Option.some.inj ((hj.1 rfl).1))).2
      subst e0
      have e2 : k2 = l2 := (Prod.mk.inj (Option.some.inj ((hj.1 rfl).2.1))).2
      subst e2
      have e3 : k3 = l3 := (Prod.mk.inj (Option.some.inj ((hj.1 rfl).2.2.1))).2
      subst e3
      exact (T_Light_send_98 hC hb hk).lle (lle_cons (lle_dead (lle_cons (lle_cons (lle_cons (lle_cons (lle_cons (lle_dead (lle_dead (lle_dead lle_nil))))))))))
    exact key _ _ _ _ _ _ _ _ _ _ σ b r hj hb hk
  · cases hb
set_option maxRecDepth 100000 in
theorem TB_Light_send_33 {d : Nat} (hC : ∀ k as σ p, C_Light_send k as σ = some p → mEx d k as σ p) {l0 l2 l3 l4 l5 l6 l7 : Int} {σ : mS} {b : ((Int × Int × Int × Int × mS) ⊕ (Int × mS))} {r : Int × mS} (h : B_Light_send_33 l0 l2 l3 l4 l5 l6 l7 σ = some b) (hk : (Sum.elim (fun (s : Int × Int × Int × Int × mS) r => mG (d + 1) 190 33 [(3, l0), (0, 0), (3, l2), (3, l3), (1, s.1), (1, s.2.1), (1, s.2.2.1), (1, s.2.2.2.1), (0, 0), (0, 0)] [] s.2.2.2.2 r) (fun b r => r = b)) b r) : mG (d + 1) 190 33 [(3, l0), (0, 0), (3, l2), (3, l3), (1, l4), (1, l5), (1, l6), (1, l7), (0, 0), (0, 0)] [] σ r := by
  refine mblk_ok2 P_Light_send (F := F_Light_send_33) (Sum.elim (fun (s : Int × Int × Int × Int × mS) r => mG (d + 1) 190 33 [(3, l0), (0, 0), (3, l2), (3, l3), (1, s.1), (1, s.2.1), (1, s.2.2.1), (1, s.2.2.2.1), (0, 0), (0, 0)] [] s.2.2.2.2 r) (fun b r => r = b)) [([(33, 139)], [0, 2, 3])] [(33, 59)] [(3, l0), (0, 0), (3, l2), (3, l3), (1, l4), (1, l5), (1, l6), (1, l7), (0, 0), (0, 0)] (by decide +kernel) rfl hC ?_ (fun v σ b r hb hk => by cases hb; exact hk) _ 33 [(3, l0), (0, 0), (3, l2), (3, l3), (1, l4), (1, l5), (1, l6), (1, l7), (0, 0), (0, 0)] [] σ b r rfl (mJ_self _ _ _) ((E_Light_send_33 l0 l2 l3 l4 l5 l6 l7 σ).trans h) hk
  intro i L st σ b r hj hb hk
  unfold F_Light_send_33 at hb
  split at hb
  · have key : ∀ (k0 k2 k3 k4 k5 k6 : Int) (k1 k7 k8 k9 : mV) (σ : mS) (b : ((Int × Int × Int × Int × mS) ⊕ (Int × mS))) (r : Int × mS), mJ [(3, l0), (0, 0), (3, l2), (3, l3), (1, l4), (1, l5), (1, l6), (1, l7), (0, 0), (0, 0)] 60 [(3, k0), k1, (3, k2), (3, k3), (1, k4), (1, k5), (1, k6), k7, k8, k9] [([(33, 139)], [0, 2, 3])] → (M_Light_send_60 k0 k2 k3 k4 k5 k6 σ) = some b → (Sum.elim (fun (s : Int × Int × Int × Int × mS) r => mG (d + 1) 190 33 [(3, l0), (0, 0), (3, l2), (3, l3), (1, s.1), (1, s.2.1), (1, s.2.2.1), (1, s.2.2.2.1), (0, 0), (0, 0)] [] s.2.2.2.2 r) (fun b r => r = b)) b r → mG (d + 1) 190 60 [(3, k0), k1, (3, k2), (3, k3), (1, k4), (1, k5), (1, k6), k7, k8, k9] [] σ r := by
      intro k0 k2 k3 k4 k5 k6 k1 k7 k8 k9 σ b r hj hb hk
      have e0 : k0 = l0 := (Prod.mk.inj (Option.some.inj ((hj.1 rfl).1))).2
      subst e0
      have e2 : k2 = l2 := (Prod.mk.inj (Option.some.inj ((hj.1 rfl).2.1))).2
      subst e2
      have e3 : k3 = l3 := (Prod.mk.inj (Option.some.inj ((hj.1 rfl).2.2.1))).2
      subst e3
      exact (T_Light_send_60 hC hb hk).lle (lle_cons (lle_dead (lle_cons (lle_cons (lle_cons (lle_cons (lle_cons (lle_dead (lle_dead (lle_dead lle_nil))))))))))
    exact key _ _ _ _ _ _ _ _ _ _ σ b r hj hb hk
  · have key : ∀ (k0 k2 k4 k5 k6 k7 : Int) (k1 k3 k8 k9 : mV) (σ : mS) (b : ((Int × Int × Int × Int × mS) ⊕ (Int × mS))) (r : Int × mS), mJ [(3, l0), (0, 0), (3, l2), (3, l3), (1, l4), (1, l5), (1, l6), (1, l7), (0, 0), (0, 0)] 140 [(3, k0), k1, (3, k2), k3, (1, k4), (1, k5), (1, k6), (1, k7), k8, k9] [([(33, 139)], [0, 2, 3])] → ((M_Light_send_140 k0 k2 k4 k5 k6 k7 σ).bind fun z => some (.inr z)) = some b → (Sum.elim (fun (s : Int × Int × Int × Int × mS) r => mG (d + 1) 190 33 [(3, l0), (0, 0), (3, l2), (3, l3), (1, s.1), (1, s.2.1), (1, s.2.2.1), (1, s.2.2.2.1), (0, 0), (0, 0)] [] s.2.2.2.2 r) (fun b r => r = b)) b r → mG (d + 1) 190 140 [(3, k0), k1, (3, k2), k3, (1, k4), (1, k5), (1, k6), (1, k7), k8, k9] [] σ r := by
      intro k0 k2 k4 k5 k6 k7 k1 k3 k8 k9 σ b r hj hb hk
      obtain ⟨z, hz, e⟩ := Option.bind_eq_some_iff.mp hb
      cases e
      exact (T_Light_send_140 hC hz hk).lle (lle_cons (lle_dead (lle_cons (lle_dead (lle_cons (lle_cons (lle_cons (lle_cons (lle_dead (lle_dead lle_nil))))))))))
    exact key _ _ _ _ _ _ _ _ _ _ σ b r hj hb hk
  · cases hb
set_option maxRecDepth 100000 in
theorem T_Light_send_33 {d : Nat} (hC : ∀ k as σ p, C_Light_send k as σ = some p → mEx d k as σ p) {l0 l2 l3 l4 l5 l6 l7 : Int} {σ : mS} {b : Int × mS} {r : Int × mS} (h : M_Light_send_33 l0 l2 l3 l4 l5 l6 l7 σ = some b) (hk : (fun b r => r = b) b r) : mG (d + 1) 190 33 [(3, l0), (0, 0), (3, l2), (3, l3), (1, l4), (1, l5), (1, l6), (1, l7), (0, 0), (0, 0)] [] σ r :=
  miter_ok (G := fun (s : Int × Int × Int × Int × mS) r => mG (d + 1) 190 33 [(3, l0), (0, 0), (3, l2), (3, l3), (1, s.1), (1, s.2.1), (1, s.2.2.1), (1, s.2.2.2.1), (0, 0), (0, 0)] [] s.2.2.2.2 r) (K := (fun b r => r = b)) (fun s x r hs hx => TB_Light_send_33 hC hs hx) mN _ b r h hk
set_option maxRecDepth 100000 in
theorem T_Light_send_9 {d : Nat} (hC : ∀ k as σ p, C_Light_send k as σ = some p → mEx d k as σ p) {l0 l1 s0 : Int} {σ : mS} {b : Int × mS} {r : Int × mS} (h : M_Light_send_9 l0 l1 s0 σ = some b) (hk : (fun b r => r = b) b r) : mG (d + 1) 190 9 [(3, l0), (1, l1), (0, 0), (0, 0), (0, 0), (0, 0), (0, 0), (0, 0), (0, 0), (0, 0)] [(3, s0)] σ r := by
  refine mblk_ok1 P_Light_send (F := F_Light_send_9) (fun b r => r = b) hC ?_ (fun v σ b r hb hk => by cases hb; exact hk) _ 9 [(3, l0), (1, l1), (0, 0), (0, 0), (0, 0), (0, 0), (0, 0), (0, 0), (0, 0), (0, 0)] [(3, s0)] σ b r ((E_Light_send_9 l0 l1 s0 σ).trans h) hk
  intro i L st σ b r hb hk
  unfold F_Light_send_9 at hb
  split at hb
  · have key : ∀ (k0 k2 k3 k4 k5 k6 k7 : Int) (k1 k8 k9 : mV) (σ : mS) (b : Int × mS) (r : Int × mS), (M_Light_send_33 k0 k2 k3 k4 k5 k6 k7 σ) = some b → (fun b r => r = b) b r → mG (d + 1) 190 33 [(3, k0), k1, (3, k2), (3, k3), (1, k4), (1, k5), (1, k6), (1, k7), k8, k9] [] σ r := by
      intro k0 k2 k3 k4 k5 k6 k7 k1 k8 k9 σ b r hb hk
      exact (T_Light_send_33 hC hb hk).lle (lle_cons (lle_dead (lle_cons (lle_cons (lle_cons (lle_cons (lle_cons (lle_cons (lle_dead (lle_dead lle_nil))))))))))
    exact key _ _ _ _ _ _ _ _ _ _ σ b r hb hk
  · cases hb
set_option maxRecDepth 100000 in
theorem T_Light_send_0 {d : Nat} (hC : ∀ k as σ p, C_Light_send k as σ = some p → mEx d k as σ p) {l0 l1 : Int} {σ : mS} {b : Int × mS} {r : Int × mS} (h : M_Light_send l0 l1 σ = some b) (hk : (fun b r => r = b) b r) : mG (d + 1) 190 0 (mInit 10 [(3, l0), (1, l1)]) [] σ r := by
  refine mblk_ok1 P_Light_send (F := F_Light_send_0) (fun b r => r = b) hC ?_ (fun v σ b r hb hk => by cases hb; exact hk) _ 0 (mInit 10 [(3, l0), (1, l1)]) [] σ b r ((E_Light_send_0 l0 l1 σ).trans h) hk
  intro i L st σ b r hb hk
  unfold F_Light_send_0 at hb
  split at hb
  · have key : ∀ (k0 k1 u0 : Int) (k2 k3 k4 k5 k6 k7 k8 k9 : mV) (σ : mS) (b : Int × mS) (r : Int × mS), (M_Light_send_9 k0 k1 u0 σ) = some b → (fun b r => r = b) b r → mG (d + 1) 190 9 [(3, k0), (1, k1), k2, k3, k4, k5, k6, k7, k8, k9] [(3, u0)] σ r := by
      intro k0 k1 u0 k2 k3 k4 k5 k6 k7 k8 k9 σ b r hb hk
      exact (T_Light_send_9 hC hb hk).lle (lle_cons (lle_cons (lle_dead (lle_dead (lle_dead (lle_dead (lle_dead (lle_dead (lle_dead (lle_dead lle_nil))))))))))
    exact key _ _ _ _ _ _ _ _ _ _ _ σ b r hb hk
  · cases hb
set_option maxRecDepth 100000 in
theorem T_Light_send {l0 l1 : Int} {σ : mS} {r : Int × mS} (h : M_Light_send l0 l1 σ = some r) : mEx 6 190 [(3, l0), (1, l1)] σ r :=
  ⟨by rw [P_Light_send]; exact Nat.le_of_ble_eq_true rfl, by rw [P_Light_send]; exact T_Light_send_0 TC_Light_send h rfl⟩
set_option maxRecDepth 100000 in
theorem P_Light_lowestPlace : mProg 193 = (c_Light_lowestPlace, 3) := rfl
set_option maxRecDepth 100000 in
theorem TC_Light_lowestPlace : ∀ k as σ p, C_Light_lowestPlace k as σ = some p → mEx 0 k as σ p := by
  intro k as σ p hp
  cases hp
set_option maxRecDepth 100000 in
theorem TB_Light_lowestPlace_8 {d : Nat} (hC : ∀ k as σ p, C_Light_lowestPlace k as σ = some p → mEx d k as σ p) {l0 l1 l2 : Int} {σ : mS} {b : ((Int × Int × mS) ⊕ (Int × mS))} {r : Int × mS} (h : B_Light_lowestPlace_8 l0 l1 l2 σ = some b) (hk : (Sum.elim (fun (s : Int × Int × mS) r => mG (d + 1) 193 8 [(3, l0), (1, s.1), (1, s.2.1)] [] s.2.2 r) (fun b r => r = b)) b r) : mG (d + 1) 193 8 [(3, l0), (1, l1), (1, l2)] [] σ r := by
  refine mblk_ok2 P_Light_lowestPlace (F := F_Light_lowestPlace_8) (Sum.elim (fun (s : Int × Int × mS) r => mG (d + 1) 193 8 [(3, l0), (1, s.1), (1, s.2.1)] [] s.2.2 r) (fun b r => r = b)) [([(8, 24)], [0])] [(8, 26)] [(3, l0), (1, l1), (1, l2)] (by decide +kernel) rfl hC ?_ (fun v σ b r hb hk => by cases hb; exact hk) _ 8 [(3, l0), (1, l1), (1, l2)] [] σ b r rfl (mJ_self _ _ _) ((E_Light_lowestPlace_8 l0 l1 l2 σ).trans h) hk
  intro i L st σ b r hj hb hk
  unfold F_Light_lowestPlace_8 at hb
  split at hb
  · have key : ∀ (k0 k1 k2 : Int) (σ : mS) (b : ((Int × Int × mS) ⊕ (Int × mS))) (r : Int × mS), mJ [(3, l0), (1, l1), (1, l2)] 8 [(3, k0), (1, k1), (1, k2)] [([(8, 24)], [0])] → (some (.inl (k1, k2, σ))) = some b → (Sum.elim (fun (s : Int × Int × mS) r => mG (d + 1) 193 8 [(3, l0), (1, s.1), (1, s.2.1)] [] s.2.2 r) (fun b r => r = b)) b r → mG (d + 1) 193 8 [(3, k0), (1, k1), (1, k2)] [] σ r := by
      intro k0 k1 k2 σ b r hj hb hk
      have e0 : k0 = l0 := (Prod.mk.inj (Option.some.inj ((hj.1 rfl).1))).2
      subst e0
      cases hb
      exact mG.lle hk (lle_cons (lle_cons (lle_cons lle_nil)))
    exact key _ _ _ σ b r hj hb hk
  · cases hb
set_option maxRecDepth 100000 in
theorem T_Light_lowestPlace_8 {d : Nat} (hC : ∀ k as σ p, C_Light_lowestPlace k as σ = some p → mEx d k as σ p) {l0 l1 l2 : Int} {σ : mS} {b : Int × mS} {r : Int × mS} (h : M_Light_lowestPlace_8 l0 l1 l2 σ = some b) (hk : (fun b r => r = b) b r) : mG (d + 1) 193 8 [(3, l0), (1, l1), (1, l2)] [] σ r :=
  miter_ok (G := fun (s : Int × Int × mS) r => mG (d + 1) 193 8 [(3, l0), (1, s.1), (1, s.2.1)] [] s.2.2 r) (K := (fun b r => r = b)) (fun s x r hs hx => TB_Light_lowestPlace_8 hC hs hx) mN _ b r h hk
set_option maxRecDepth 100000 in
theorem T_Light_lowestPlace_0 {d : Nat} (hC : ∀ k as σ p, C_Light_lowestPlace k as σ = some p → mEx d k as σ p) {l0 : Int} {σ : mS} {b : Int × mS} {r : Int × mS} (h : M_Light_lowestPlace l0 σ = some b) (hk : (fun b r => r = b) b r) : mG (d + 1) 193 0 (mInit 3 [(3, l0)]) [] σ r := by
  refine mblk_ok1 P_Light_lowestPlace (F := F_Light_lowestPlace_0) (fun b r => r = b) hC ?_ (fun v σ b r hb hk => by cases hb; exact hk) _ 0 (mInit 3 [(3, l0)]) [] σ b r ((E_Light_lowestPlace_0 l0 σ).trans h) hk
  intro i L st σ b r hb hk
  unfold F_Light_lowestPlace_0 at hb
  split at hb
  · have key : ∀ (k0 k1 k2 : Int) (σ : mS) (b : Int × mS) (r : Int × mS), (M_Light_lowestPlace_8 k0 k1 k2 σ) = some b → (fun b r => r = b) b r → mG (d + 1) 193 8 [(3, k0), (1, k1), (1, k2)] [] σ r := by
      intro k0 k1 k2 σ b r hb hk
      exact (T_Light_lowestPlace_8 hC hb hk).lle (lle_cons (lle_cons (lle_cons lle_nil)))
    exact key _ _ _ σ b r hb hk
  · cases hb
set_option maxRecDepth 100000 in
theorem T_Light_lowestPlace {l0 : Int} {σ : mS} {r : Int × mS} (h : M_Light_lowestPlace l0 σ = some r) : mEx 1 193 [(3, l0)] σ r :=
  ⟨by rw [P_Light_lowestPlace]; exact Nat.le_of_ble_eq_true rfl, by rw [P_Light_lowestPlace]; exact T_Light_lowestPlace_0 TC_Light_lowestPlace h rfl⟩
set_option maxRecDepth 100000 in
theorem P_JI_signum : mProg 239 = (c_JI_signum, 1) := rfl
set_option maxRecDepth 100000 in
theorem TC_JI_signum : ∀ k as σ p, C_JI_signum k as σ = some p → mEx 0 k as σ p := by
  intro k as σ p hp
  cases hp
set_option maxRecDepth 100000 in
theorem T_JI_signum_0 {d : Nat} (hC : ∀ k as σ p, C_JI_signum k as σ = some p → mEx d k as σ p) {l0 : Int} {σ : mS} {b : Int × mS} {r : Int × mS} (h : M_JI_signum l0 σ = some b) (hk : (fun b r => r = b) b r) : mG (d + 1) 239 0 (mInit 1 [(1, l0)]) [] σ r := by
  refine mblk_ok1 P_JI_signum (F := F_JI_signum_0) (fun b r => r = b) hC ?_ (fun v σ b r hb hk => by cases hb; exact hk) _ 0 (mInit 1 [(1, l0)]) [] σ b r ((E_JI_signum_0 l0 σ).trans h) hk
  intro i L st σ b r hb hk
  cases hb
set_option maxRecDepth 100000 in
theorem T_JI_signum {l0 : Int} {σ : mS} {r : Int × mS} (h : M_JI_signum l0 σ = some r) : mEx 1 239 [(1, l0)] σ r :=
  ⟨by rw [P_JI_signum]; exact Nat.le_of_ble_eq_true rfl, by rw [P_JI_signum]; exact T_JI_signum_0 TC_JI_signum h rfl⟩
set_option maxRecDepth 100000 in
theorem P_Light_turns : mProg 194 = (c_Light_turns, 5) := rfl
set_option maxRecDepth 100000 in
theorem TC_Light_turns : ∀ k as σ p, C_Light_turns k as σ = some p → mEx 1 k as σ p := by
  intro k as σ p hp
  unfold C_Light_turns at hp
  split at hp
  · exact (T_JI_signum hp).up (Nat.le_of_ble_eq_true rfl)
  · cases hp
set_option maxRecDepth 100000 in
theorem T_Light_turns_34 {d : Nat} (hC : ∀ k as σ p, C_Light_turns k as σ = some p → mEx d k as σ p) {l0 l3 l4 s1 s0 : Int} {σ : mS} {b : ((Int × Int × Int × mS) ⊕ (Int × mS))} {r : Int × mS} (h : M_Light_turns_34 l0 l3 l4 s1 s0 σ = some b) (hk : (Sum.elim (fun (s : Int × Int × Int × mS) r => mG (d + 1) 194 7 [(3, l0), (1, s.1), (1, s.2.1), (1, s.2.2.1), (0, 0)] [] s.2.2.2 r) (fun b r => r = b)) b r) : mG (d + 1) 194 34 [(3, l0), (0, 0), (0, 0), (1, l3), (1, l4)] [(1, s1), (1, s0)] σ r := by
  refine mblk_ok2 P_Light_turns (F := F_Light_turns_34) (Sum.elim (fun (s : Int × Int × Int × mS) r => mG (d + 1) 194 7 [(3, l0), (1, s.1), (1, s.2.1), (1, s.2.2.1), (0, 0)] [] s.2.2.2 r) (fun b r => r = b)) [([(7, 39)], [0])] [(34, 39)] [(3, l0), (0, 0), (0, 0), (1, l3), (1, l4)] (by decide +kernel) rfl hC ?_ (fun v σ b r hb hk => by cases hb; exact hk) _ 34 [(3, l0), (0, 0), (0, 0), (1, l3), (1, l4)] [(1, s1), (1, s0)] σ b r rfl (mJ_self _ _ _) ((E_Light_turns_34 l0 l3 l4 s1 s0 σ).trans h) hk
  intro i L st σ b r hj hb hk
  unfold F_Light_turns_34 at hb
  split at hb
  · have key : ∀ (k0 k1 k2 k3 : Int) (k4 : mV) (σ : mS) (b : ((Int × Int × Int × mS) ⊕ (Int × mS))) (r : Int × mS), mJ [(3, l0), (0, 0), (0, 0), (1, l3), (1, l4)] 7 [(3, k0), (1, k1), (1, k2), (1, k3), k4] [([(7, 39)], [0])] → (some (.inl (k1, k2, k3, σ))) = some b → (Sum.elim (fun (s : Int × Int × Int × mS) r => mG (d + 1) 194 7 [(3, l0), (1, s.1), (1, s.2.1), (1, s.2.2.1), (0, 0)] [] s.2.2.2 r) (fun b r => r = b)) b r → mG (d + 1) 194 7 [(3, k0), (1, k1), (1, k2), (1, k3), k4] [] σ r := by
      intro k0 k1 k2 k3 k4 σ b r hj hb hk
      have e0 : k0 = l0 := (Prod.mk.inj (Option.some.inj ((hj.1 rfl).1))).2
      subst e0
      cases hb
      exact mG.lle hk (lle_cons (lle_cons (lle_cons (lle_cons (lle_dead lle_nil)))))
    exact key _ _ _ _ _ σ b r hj hb hk
  · cases hb
set_option maxRecDepth 100000 in
theorem TB_Light_turns_7 {d : Nat} (hC : ∀ k as σ p, C_Light_turns k as σ = some p → mEx d k as σ p) {l0 l1 l2 l3 : Int} {σ : mS} {b : ((Int × Int × Int × mS) ⊕ (Int × mS))} {r : Int × mS} (h : B_Light_turns_7 l0 l1 l2 l3 σ = some b) (hk : (Sum.elim (fun (s : Int × Int × Int × mS) r => mG (d + 1) 194 7 [(3, l0), (1, s.1), (1, s.2.1), (1, s.2.2.1), (0, 0)] [] s.2.2.2 r) (fun b r => r = b)) b r) : mG (d + 1) 194 7 [(3, l0), (1, l1), (1, l2), (1, l3), (0, 0)] [] σ r := by
  refine mblk_ok2 P_Light_turns (F := F_Light_turns_7) (Sum.elim (fun (s : Int × Int × Int × mS) r => mG (d + 1) 194 7 [(3, l0), (1, s.1), (1, s.2.1), (1, s.2.2.1), (0, 0)] [] s.2.2.2 r) (fun b r => r = b)) [([(7, 39)], [0])] [(7, 33), (38, 41)] [(3, l0), (1, l1), (1, l2), (1, l3), (0, 0)] (by decide +kernel) rfl hC ?_ (fun v σ b r hb hk => by cases hb; exact hk) _ 7 [(3, l0), (1, l1), (1, l2), (1, l3), (0, 0)] [] σ b r rfl (mJ_self _ _ _) ((E_Light_turns_7 l0 l1 l2 l3 σ).trans h) hk
  intro i L st σ b r hj hb hk
  unfold F_Light_turns_7 at hb
  split at hb
  · have key : ∀ (k0 k1 k2 k3 : Int) (k4 : mV) (σ : mS) (b : ((Int × Int × Int × mS) ⊕ (Int × mS))) (r : Int × mS), mJ [(3, l0), (1, l1), (1, l2), (1, l3), (0, 0)] 7 [(3, k0), (1, k1), (1, k2), (1, k3), k4] [([(7, 39)], [0])] → (some (.inl (k1, k2, k3, σ))) = some b → (Sum.elim (fun (s : Int × Int × Int × mS) r => mG (d + 1) 194 7 [(3, l0), (1, s.1), (1, s.2.1), (1, s.2.2.1), (0, 0)] [] s.2.2.2 r) (fun b r => r = b)) b r → mG (d + 1) 194 7 [(3, k0), (1, k1), (1, k2), (1, k3), k4] [] σ r := by
      intro k0 k1 k2 k3 k4 σ b r hj hb hk
      have e0 : k0 = l0 := (Prod.mk.inj (Option.some.inj ((hj.1 rfl).1))).2
      subst e0
      cases hb
      exact mG.lle hk (lle_cons (lle_cons (lle_cons (lle_cons (lle_dead lle_nil)))))
    exact key _ _ _ _ _ σ b r hj hb hk
  · have key : ∀ (k0 k3 k4 u1 u0 : Int) (k1 k2 : mV) (σ : mS) (b : ((Int × Int × Int × mS) ⊕ (Int × mS))) (r : Int × mS), mJ [(3, l0), (1, l1), (1, l2), (1, l3), (0, 0)] 34 [(3, k0), k1, k2, (1, k3), (1, k4)] [([(7, 39)], [0])] → (M_Light_turns_34 k0 k3 k4 u1 u0 σ) = some b → (Sum.elim (fun (s : Int × Int × Int × mS) r => mG (d + 1) 194 7 [(3, l0), (1, s.1), (1, s.2.1), (1, s.2.2.1), (0, 0)] [] s.2.2.2 r) (fun b r => r = b)) b r → mG (d + 1) 194 34 [(3, k0), k1, k2, (1, k3), (1, k4)] [(1, u1), (1, u0)] σ r := by
      intro k0 k3 k4 u1 u0 k1 k2 σ b r hj hb hk
      have e0 : k0 = l0 := (Prod.mk.inj (Option.some.inj ((hj.1 rfl).1))).2
      subst e0
      exact (T_Light_turns_34 hC hb hk).lle (lle_cons (lle_dead (lle_dead (lle_cons (lle_cons lle_nil)))))
    exact key _ _ _ _ _ _ _ σ b r hj hb hk
  · cases hb
set_option maxRecDepth 100000 in
theorem T_Light_turns_7 {d : Nat} (hC : ∀ k as σ p, C_Light_turns k as σ = some p → mEx d k as σ p) {l0 l1 l2 l3 : Int} {σ : mS} {b : Int × mS} {r : Int × mS} (h : M_Light_turns_7 l0 l1 l2 l3 σ = some b) (hk : (fun b r => r = b) b r) : mG (d + 1) 194 7 [(3, l0), (1, l1), (1, l2), (1, l3), (0, 0)] [] σ r :=
  miter_ok (G := fun (s : Int × Int × Int × mS) r => mG (d + 1) 194 7 [(3, l0), (1, s.1), (1, s.2.1), (1, s.2.2.1), (0, 0)] [] s.2.2.2 r) (K := (fun b r => r = b)) (fun s x r hs hx => TB_Light_turns_7 hC hs hx) mN _ b r h hk
set_option maxRecDepth 100000 in
theorem T_Light_turns_0 {d : Nat} (hC : ∀ k as σ p, C_Light_turns k as σ = some p → mEx d k as σ p) {l0 : Int} {σ : mS} {b : Int × mS} {r : Int × mS} (h : M_Light_turns l0 σ = some b) (hk : (fun b r => r = b) b r) : mG (d + 1) 194 0 (mInit 5 [(3, l0)]) [] σ r := by
  refine mblk_ok1 P_Light_turns (F := F_Light_turns_0) (fun b r => r = b) hC ?_ (fun v σ b r hb hk => by cases hb; exact hk) _ 0 (mInit 5 [(3, l0)]) [] σ b r ((E_Light_turns_0 l0 σ).trans h) hk
  intro i L st σ b r hb hk
  unfold F_Light_turns_0 at hb
  split at hb
  · have key : ∀ (k0 k1 k2 k3 : Int) (k4 : mV) (σ : mS) (b : Int × mS) (r : Int × mS), (M_Light_turns_7 k0 k1 k2 k3 σ) = some b → (fun b r => r = b) b r → mG (d + 1) 194 7 [(3, k0), (1, k1), (1, k2), (1, k3), k4] [] σ r := by
      intro k0 k1 k2 k3 k4 σ b r hb hk
      exact (T_Light_turns_7 hC hb hk).lle (lle_cons (lle_cons (lle_cons (lle_cons (lle_dead lle_nil)))))
    exact key _ _ _ _ _ σ b r hb hk
  · cases hb
set_option maxRecDepth 100000 in
theorem T_Light_turns {l0 : Int} {σ : mS} {r : Int × mS} (h : M_Light_turns l0 σ = some r) : mEx 2 194 [(3, l0)] σ r :=
  ⟨by rw [P_Light_turns]; exact Nat.le_of_ble_eq_true rfl, by rw [P_Light_turns]; exact T_Light_turns_0 TC_Light_turns h rfl⟩
set_option maxRecDepth 100000 in
theorem P_RW_ray : mProg 15 = (c_RW_ray, 3) := rfl
set_option maxRecDepth 100000 in
theorem TC_RW_ray : ∀ k as σ p, C_RW_ray k as σ = some p → mEx 6 k as σ p := by
  intro k as σ p hp
  unfold C_RW_ray at hp
  split at hp
  · exact (T_RW_isAngle hp).up (Nat.le_of_ble_eq_true rfl)
  · exact (T_Light_standByTerms hp).up (Nat.le_of_ble_eq_true rfl)
  · exact (T_Light_send hp).up (Nat.le_of_ble_eq_true rfl)
  · exact (T_Light_lowestPlace hp).up (Nat.le_of_ble_eq_true rfl)
  · exact (T_Light_turns hp).up (Nat.le_of_ble_eq_true rfl)
  · cases hp
set_option maxRecDepth 100000 in
theorem T_RW_ray_0 {d : Nat} (hC : ∀ k as σ p, C_RW_ray k as σ = some p → mEx d k as σ p) {l0 l1 l2 : Int} {σ : mS} {b : Int × mS} {r : Int × mS} (h : M_RW_ray l0 l1 l2 σ = some b) (hk : (fun b r => r = b) b r) : mG (d + 1) 15 0 (mInit 3 [(3, l0), (1, l1), (1, l2)]) [] σ r := by
  refine mblk_ok1 P_RW_ray (F := F_RW_ray_0) (fun b r => r = b) hC ?_ (fun v σ b r hb hk => by cases hb; exact hk) _ 0 (mInit 3 [(3, l0), (1, l1), (1, l2)]) [] σ b r ((E_RW_ray_0 l0 l1 l2 σ).trans h) hk
  intro i L st σ b r hb hk
  cases hb
set_option maxRecDepth 100000 in
theorem T_RW_ray {l0 l1 l2 : Int} {σ : mS} {r : Int × mS} (h : M_RW_ray l0 l1 l2 σ = some r) : mEx 7 15 [(3, l0), (1, l1), (1, l2)] σ r :=
  ⟨by rw [P_RW_ray]; exact Nat.le_of_ble_eq_true rfl, by rw [P_RW_ray]; exact T_RW_ray_0 TC_RW_ray h rfl⟩
set_option maxRecDepth 100000 in
theorem P_Light_comesTo : mProg 195 = (c_Light_comesTo, 2) := rfl
set_option maxRecDepth 100000 in
theorem TC_Light_comesTo : ∀ k as σ p, C_Light_comesTo k as σ = some p → mEx 0 k as σ p := by
  intro k as σ p hp
  cases hp
set_option maxRecDepth 100000 in
theorem T_Light_comesTo_0 {d : Nat} (hC : ∀ k as σ p, C_Light_comesTo k as σ = some p → mEx d k as σ p) {l0 l1 : Int} {σ : mS} {b : Int × mS} {r : Int × mS} (h : M_Light_comesTo l0 l1 σ = some b) (hk : (fun b r => r = b) b r) : mG (d + 1) 195 0 (mInit 2 [(3, l0), (1, l1)]) [] σ r := by
  refine mblk_ok1 P_Light_comesTo (F := F_Light_comesTo_0) (fun b r => r = b) hC ?_ (fun v σ b r hb hk => by cases hb; exact hk) _ 0 (mInit 2 [(3, l0), (1, l1)]) [] σ b r ((E_Light_comesTo_0 l0 l1 σ).trans h) hk
  intro i L st σ b r hb hk
  cases hb
set_option maxRecDepth 100000 in
theorem T_Light_comesTo {l0 l1 : Int} {σ : mS} {r : Int × mS} (h : M_Light_comesTo l0 l1 σ = some r) : mEx 1 195 [(3, l0), (1, l1)] σ r :=
  ⟨by rw [P_Light_comesTo]; exact Nat.le_of_ble_eq_true rfl, by rw [P_Light_comesTo]; exact T_Light_comesTo_0 TC_Light_comesTo h rfl⟩
set_option maxRecDepth 100000 in
theorem P_RW_at : mProg 16 = (c_RW_at, 3) := rfl
set_option maxRecDepth 100000 in
theorem TC_RW_at : ∀ k as σ p, C_RW_at k as σ = some p → mEx 6 k as σ p := by
  intro k as σ p hp
  unfold C_RW_at at hp
  split at hp
  · exact (T_RW_isPlace hp).up (Nat.le_of_ble_eq_true rfl)
  · exact (T_RW_isAngle hp).up (Nat.le_of_ble_eq_true rfl)
  · exact (T_Light_standByTerms hp).up (Nat.le_of_ble_eq_true rfl)
  · exact (T_Light_send hp).up (Nat.le_of_ble_eq_true rfl)
  · exact (T_Light_comesTo hp).up (Nat.le_of_ble_eq_true rfl)
  · cases hp
set_option maxRecDepth 100000 in
theorem T_RW_at_0 {d : Nat} (hC : ∀ k as σ p, C_RW_at k as σ = some p → mEx d k as σ p) {l0 l1 l2 : Int} {σ : mS} {b : Int × mS} {r : Int × mS} (h : M_RW_at l0 l1 l2 σ = some b) (hk : (fun b r => r = b) b r) : mG (d + 1) 16 0 (mInit 3 [(3, l0), (1, l1), (1, l2)]) [] σ r := by
  refine mblk_ok1 P_RW_at (F := F_RW_at_0) (fun b r => r = b) hC ?_ (fun v σ b r hb hk => by cases hb; exact hk) _ 0 (mInit 3 [(3, l0), (1, l1), (1, l2)]) [] σ b r ((E_RW_at_0 l0 l1 l2 σ).trans h) hk
  intro i L st σ b r hb hk
  cases hb
set_option maxRecDepth 100000 in
theorem T_RW_at {l0 l1 l2 : Int} {σ : mS} {r : Int × mS} (h : M_RW_at l0 l1 l2 σ = some r) : mEx 7 16 [(3, l0), (1, l1), (1, l2)] σ r :=
  ⟨by rw [P_RW_at]; exact Nat.le_of_ble_eq_true rfl, by rw [P_RW_at]; exact T_RW_at_0 TC_RW_at h rfl⟩
set_option maxRecDepth 100000 in
theorem P_Field_look : mProg 166 = (c_Field_look, 2) := rfl
set_option maxRecDepth 100000 in
theorem TC_Field_look : ∀ k as σ p, C_Field_look k as σ = some p → mEx 6 k as σ p := by
  intro k as σ p hp
  unfold C_Field_look at hp
  split at hp
  · exact (T_Light_send hp).up (Nat.le_of_ble_eq_true rfl)
  · cases hp
set_option maxRecDepth 100000 in
theorem TB_Field_look_24 {d : Nat} (hC : ∀ k as σ p, C_Field_look k as σ = some p → mEx d k as σ p) {l0 l1 : Int} {σ : mS} {b : ((Int × mS) ⊕ (Int × mS))} {r : Int × mS} (h : B_Field_look_24 l0 l1 σ = some b) (hk : (Sum.elim (fun (s : Int × mS) r => mG (d + 1) 166 24 [(3, l0), (1, s.1)] [] s.2 r) (fun b r => r = b)) b r) : mG (d + 1) 166 24 [(3, l0), (1, l1)] [] σ r := by
  refine mblk_ok2 P_Field_look (F := F_Field_look_24) (Sum.elim (fun (s : Int × mS) r => mG (d + 1) 166 24 [(3, l0), (1, s.1)] [] s.2 r) (fun b r => r = b)) [([(24, 55)], [0])] [(24, 74)] [(3, l0), (1, l1)] (by decide +kernel) rfl hC ?_ (fun v σ b r hb hk => by cases hb; exact hk) _ 24 [(3, l0), (1, l1)] [] σ b r rfl (mJ_self _ _ _) ((E_Field_look_24 l0 l1 σ).trans h) hk
  intro i L st σ b r hj hb hk
  unfold F_Field_look_24 at hb
  split at hb
  · have key : ∀ (k0 k1 : Int) (σ : mS) (b : ((Int × mS) ⊕ (Int × mS))) (r : Int × mS), mJ [(3, l0), (1, l1)] 24 [(3, k0), (1, k1)] [([(24, 55)], [0])] → (some (.inl (k1, σ))) = some b → (Sum.elim (fun (s : Int × mS) r => mG (d + 1) 166 24 [(3, l0), (1, s.1)] [] s.2 r) (fun b r => r = b)) b r → mG (d + 1) 166 24 [(3, k0), (1, k1)] [] σ r := by
      intro k0 k1 σ b r hj hb hk
      have e0 : k0 = l0 := (Prod.mk.inj (Option.some.inj ((hj.1 rfl).1))).2
      subst e0
      cases hb
      exact mG.lle hk (lle_cons (lle_cons lle_nil))
    exact key _ _ σ b r hj hb hk
  · cases hb
set_option maxRecDepth 100000 in
theorem T_Field_look_24 {d : Nat} (hC : ∀ k as σ p, C_Field_look k as σ = some p → mEx d k as σ p) {l0 l1 : Int} {σ : mS} {b : Int × mS} {r : Int × mS} (h : M_Field_look_24 l0 l1 σ = some b) (hk : (fun b r => r = b) b r) : mG (d + 1) 166 24 [(3, l0), (1, l1)] [] σ r :=
  miter_ok (G := fun (s : Int × mS) r => mG (d + 1) 166 24 [(3, l0), (1, s.1)] [] s.2 r) (K := (fun b r => r = b)) (fun s x r hs hx => TB_Field_look_24 hC hs hx) mN _ b r h hk
set_option maxRecDepth 100000 in
theorem T_Field_look_0 {d : Nat} (hC : ∀ k as σ p, C_Field_look k as σ = some p → mEx d k as σ p) {l0 : Int} {σ : mS} {b : Int × mS} {r : Int × mS} (h : M_Field_look l0 σ = some b) (hk : (fun b r => r = b) b r) : mG (d + 1) 166 0 (mInit 2 [(3, l0)]) [] σ r := by
  refine mblk_ok1 P_Field_look (F := F_Field_look_0) (fun b r => r = b) hC ?_ (fun v σ b r hb hk => by cases hb; exact hk) _ 0 (mInit 2 [(3, l0)]) [] σ b r ((E_Field_look_0 l0 σ).trans h) hk
  intro i L st σ b r hb hk
  unfold F_Field_look_0 at hb
  split at hb
  · have key : ∀ (k0 k1 : Int) (σ : mS) (b : Int × mS) (r : Int × mS), (M_Field_look_24 k0 k1 σ) = some b → (fun b r => r = b) b r → mG (d + 1) 166 24 [(3, k0), (1, k1)] [] σ r := by
      intro k0 k1 σ b r hb hk
      exact (T_Field_look_24 hC hb hk).lle (lle_cons (lle_cons lle_nil))
    exact key _ _ σ b r hb hk
  · cases hb
set_option maxRecDepth 100000 in
theorem T_Field_look {l0 : Int} {σ : mS} {r : Int × mS} (h : M_Field_look l0 σ = some r) : mEx 7 166 [(3, l0)] σ r :=
  ⟨by rw [P_Field_look]; exact Nat.le_of_ble_eq_true rfl, by rw [P_Field_look]; exact T_Field_look_0 TC_Field_look h rfl⟩
set_option maxRecDepth 100000 in
theorem P_Field_raysTo : mProg 167 = (c_Field_raysTo, 4) := rfl
set_option maxRecDepth 100000 in
theorem TC_Field_raysTo : ∀ k as σ p, C_Field_raysTo k as σ = some p → mEx 0 k as σ p := by
  intro k as σ p hp
  cases hp
set_option maxRecDepth 100000 in
theorem TB_Field_raysTo_4 {d : Nat} (hC : ∀ k as σ p, C_Field_raysTo k as σ = some p → mEx d k as σ p) {l0 l1 l2 l3 : Int} {σ : mS} {b : ((Int × Int × mS) ⊕ (Int × mS))} {r : Int × mS} (h : B_Field_raysTo_4 l0 l1 l2 l3 σ = some b) (hk : (Sum.elim (fun (s : Int × Int × mS) r => mG (d + 1) 167 4 [(3, l0), (1, l1), (1, s.1), (1, s.2.1)] [] s.2.2 r) (fun b r => r = b)) b r) : mG (d + 1) 167 4 [(3, l0), (1, l1), (1, l2), (1, l3)] [] σ r := by
  refine mblk_ok2 P_Field_raysTo (F := F_Field_raysTo_4) (Sum.elim (fun (s : Int × Int × mS) r => mG (d + 1) 167 4 [(3, l0), (1, l1), (1, s.1), (1, s.2.1)] [] s.2.2 r) (fun b r => r = b)) [([(4, 15)], [0, 1])] [(4, 17)] [(3, l0), (1, l1), (1, l2), (1, l3)] (by decide +kernel) rfl hC ?_ (fun v σ b r hb hk => by cases hb; exact hk) _ 4 [(3, l0), (1, l1), (1, l2), (1, l3)] [] σ b r rfl (mJ_self _ _ _) ((E_Field_raysTo_4 l0 l1 l2 l3 σ).trans h) hk
  intro i L st σ b r hj hb hk
  unfold F_Field_raysTo_4 at hb
  split at hb
  · have key : ∀ (k0 k1 k2 k3 : Int) (σ : mS) (b : ((Int × Int × mS) ⊕ (Int × mS))) (r : Int × mS), mJ [(3, l0), (1, l1), (1, l2), (1, l3)] 4 [(3, k0), (1, k1), (1, k2), (1, k3)] [([(4, 15)], [0, 1])] → (some (.inl (k2, k3, σ))) = some b → (Sum.elim (fun (s : Int × Int × mS) r => mG (d + 1) 167 4 [(3, l0), (1, l1), (1, s.1), (1, s.2.1)] [] s.2.2 r) (fun b r => r = b)) b r → mG (d + 1) 167 4 [(3, k0), (1, k1), (1, k2), (1, k3)] [] σ r := by
      intro k0 k1 k2 k3 σ b r hj hb hk
      have e0 : k0 = l0 := (Prod.mk.inj (Option.some.inj ((hj.1 rfl).1))).2
      subst e0
      have e1 : k1 = l1 := (Prod.mk.inj (Option.some.inj ((hj.1 rfl).2.1))).2
      subst e1
      cases hb
      exact mG.lle hk (lle_cons (lle_cons (lle_cons (lle_cons lle_nil))))
    exact key _ _ _ _ σ b r hj hb hk
  · cases hb
set_option maxRecDepth 100000 in
theorem T_Field_raysTo_4 {d : Nat} (hC : ∀ k as σ p, C_Field_raysTo k as σ = some p → mEx d k as σ p) {l0 l1 l2 l3 : Int} {σ : mS} {b : Int × mS} {r : Int × mS} (h : M_Field_raysTo_4 l0 l1 l2 l3 σ = some b) (hk : (fun b r => r = b) b r) : mG (d + 1) 167 4 [(3, l0), (1, l1), (1, l2), (1, l3)] [] σ r :=
  miter_ok (G := fun (s : Int × Int × mS) r => mG (d + 1) 167 4 [(3, l0), (1, l1), (1, s.1), (1, s.2.1)] [] s.2.2 r) (K := (fun b r => r = b)) (fun s x r hs hx => TB_Field_raysTo_4 hC hs hx) mN _ b r h hk
set_option maxRecDepth 100000 in
theorem T_Field_raysTo_0 {d : Nat} (hC : ∀ k as σ p, C_Field_raysTo k as σ = some p → mEx d k as σ p) {l0 l1 : Int} {σ : mS} {b : Int × mS} {r : Int × mS} (h : M_Field_raysTo l0 l1 σ = some b) (hk : (fun b r => r = b) b r) : mG (d + 1) 167 0 (mInit 4 [(3, l0), (1, l1)]) [] σ r := by
  refine mblk_ok1 P_Field_raysTo (F := F_Field_raysTo_0) (fun b r => r = b) hC ?_ (fun v σ b r hb hk => by cases hb; exact hk) _ 0 (mInit 4 [(3, l0), (1, l1)]) [] σ b r ((E_Field_raysTo_0 l0 l1 σ).trans h) hk
  intro i L st σ b r hb hk
  unfold F_Field_raysTo_0 at hb
  split at hb
  · have key : ∀ (k0 k1 k2 k3 : Int) (σ : mS) (b : Int × mS) (r : Int × mS), (M_Field_raysTo_4 k0 k1 k2 k3 σ) = some b → (fun b r => r = b) b r → mG (d + 1) 167 4 [(3, k0), (1, k1), (1, k2), (1, k3)] [] σ r := by
      intro k0 k1 k2 k3 σ b r hb hk
      exact (T_Field_raysTo_4 hC hb hk).lle (lle_cons (lle_cons (lle_cons (lle_cons lle_nil))))
    exact key _ _ _ _ σ b r hb hk
  · cases hb
set_option maxRecDepth 100000 in
theorem T_Field_raysTo {l0 l1 : Int} {σ : mS} {r : Int × mS} (h : M_Field_raysTo l0 l1 σ = some r) : mEx 1 167 [(3, l0), (1, l1)] σ r :=
  ⟨by rw [P_Field_raysTo]; exact Nat.le_of_ble_eq_true rfl, by rw [P_Field_raysTo]; exact T_Field_raysTo_0 TC_Field_raysTo h rfl⟩
set_option maxRecDepth 100000 in
theorem P_RW_seen : mProg 17 = (c_RW_seen, 2) := rfl
set_option maxRecDepth 100000 in
theorem TC_RW_seen : ∀ k as σ p, C_RW_seen k as σ = some p → mEx 7 k as σ p := by
  intro k as σ p hp
  unfold C_RW_seen at hp
  split at hp
  · exact (T_Field_look hp).up (Nat.le_of_ble_eq_true rfl)
  · exact (T_Field_raysTo hp).up (Nat.le_of_ble_eq_true rfl)
  · exact (T_Light_standByTerms hp).up (Nat.le_of_ble_eq_true rfl)
  · exact (T_Road_hasThing hp).up (Nat.le_of_ble_eq_true rfl)
  · cases hp
set_option maxRecDepth 100000 in
theorem T_RW_seen_0 {d : Nat} (hC : ∀ k as σ p, C_RW_seen k as σ = some p → mEx d k as σ p) {l0 l1 : Int} {σ : mS} {b : Int × mS} {r : Int × mS} (h : M_RW_seen l0 l1 σ = some b) (hk : (fun b r => r = b) b r) : mG (d + 1) 17 0 (mInit 2 [(3, l0), (1, l1)]) [] σ r := by
  refine mblk_ok1 P_RW_seen (F := F_RW_seen_0) (fun b r => r = b) hC ?_ (fun v σ b r hb hk => by cases hb; exact hk) _ 0 (mInit 2 [(3, l0), (1, l1)]) [] σ b r ((E_RW_seen_0 l0 l1 σ).trans h) hk
  intro i L st σ b r hb hk
  cases hb
set_option maxRecDepth 100000 in
theorem T_RW_seen {l0 l1 : Int} {σ : mS} {r : Int × mS} (h : M_RW_seen l0 l1 σ = some r) : mEx 8 17 [(3, l0), (1, l1)] σ r :=
  ⟨by rw [P_RW_seen]; exact Nat.le_of_ble_eq_true rfl, by rw [P_RW_seen]; exact T_RW_seen_0 TC_RW_seen h rfl⟩
set_option maxRecDepth 100000 in
theorem P_Field_startsPicture : mProg 168 = (c_Field_startsPicture, 3) := rfl
set_option maxRecDepth 100000 in
theorem TC_Field_startsPicture : ∀ k as σ p, C_Field_startsPicture k as σ = some p → mEx 0 k as σ p := by
  intro k as σ p hp
  cases hp
set_option maxRecDepth 100000 in
theorem T_Field_startsPicture_0 {d : Nat} (hC : ∀ k as σ p, C_Field_startsPicture k as σ = some p → mEx d k as σ p) {l0 l1 l2 : Int} {σ : mS} {b : Int × mS} {r : Int × mS} (h : M_Field_startsPicture l0 l1 l2 σ = some b) (hk : (fun b r => r = b) b r) : mG (d + 1) 168 0 (mInit 3 [(3, l0), (1, l1), (1, l2)]) [] σ r := by
  refine mblk_ok1 P_Field_startsPicture (F := F_Field_startsPicture_0) (fun b r => r = b) hC ?_ (fun v σ b r hb hk => by cases hb; exact hk) _ 0 (mInit 3 [(3, l0), (1, l1), (1, l2)]) [] σ b r ((E_Field_startsPicture_0 l0 l1 l2 σ).trans h) hk
  intro i L st σ b r hb hk
  cases hb
set_option maxRecDepth 100000 in
theorem T_Field_startsPicture {l0 l1 l2 : Int} {σ : mS} {r : Int × mS} (h : M_Field_startsPicture l0 l1 l2 σ = some r) : mEx 1 168 [(3, l0), (1, l1), (1, l2)] σ r :=
  ⟨by rw [P_Field_startsPicture]; exact Nat.le_of_ble_eq_true rfl, by rw [P_Field_startsPicture]; exact T_Field_startsPicture_0 TC_Field_startsPicture h rfl⟩
set_option maxRecDepth 100000 in
theorem P_Field_picturesOf : mProg 169 = (c_Field_picturesOf, 4) := rfl
set_option maxRecDepth 100000 in
theorem TC_Field_picturesOf : ∀ k as σ p, C_Field_picturesOf k as σ = some p → mEx 1 k as σ p := by
  intro k as σ p hp
  unfold C_Field_picturesOf at hp
  split at hp
  · exact (T_Field_startsPicture hp).up (Nat.le_of_ble_eq_true rfl)
  · cases hp
set_option maxRecDepth 100000 in
theorem TB_Field_picturesOf_4 {d : Nat} (hC : ∀ k as σ p, C_Field_picturesOf k as σ = some p → mEx d k as σ p) {l0 l1 l2 l3 : Int} {σ : mS} {b : ((Int × Int × mS) ⊕ (Int × mS))} {r : Int × mS} (h : B_Field_picturesOf_4 l0 l1 l2 l3 σ = some b) (hk : (Sum.elim (fun (s : Int × Int × mS) r => mG (d + 1) 169 4 [(3, l0), (1, l1), (1, s.1), (1, s.2.1)] [] s.2.2 r) (fun b r => r = b)) b r) : mG (d + 1) 169 4 [(3, l0), (1, l1), (1, l2), (1, l3)] [] σ r := by
  refine mblk_ok2 P_Field_picturesOf (F := F_Field_picturesOf_4) (Sum.elim (fun (s : Int × Int × mS) r => mG (d + 1) 169 4 [(3, l0), (1, l1), (1, s.1), (1, s.2.1)] [] s.2.2 r) (fun b r => r = b)) [([(4, 14)], [0, 1])] [(4, 16)] [(3, l0), (1, l1), (1, l2), (1, l3)] (by decide +kernel) rfl hC ?_ (fun v σ b r hb hk => by cases hb; exact hk) _ 4 [(3, l0), (1, l1), (1, l2), (1, l3)] [] σ b r rfl (mJ_self _ _ _) ((E_Field_picturesOf_4 l0 l1 l2 l3 σ).trans h) hk
  intro i L st σ b r hj hb hk
  unfold F_Field_picturesOf_4 at hb
  split at hb
  · have key : ∀ (k0 k1 k2 k3 : Int) (σ : mS) (b : ((Int × Int × mS) ⊕ (Int × mS))) (r : Int × mS), mJ [(3, l0), (1, l1), (1, l2), (1, l3)] 4 [(3, k0), (1, k1), (1, k2), (1, k3)] [([(4, 14)], [0, 1])] → (some (.inl (k2, k3, σ))) = some b → (Sum.elim (fun (s : Int × Int × mS) r => mG (d + 1) 169 4 [(3, l0), (1, l1), (1, s.1), (1, s.2.1)] [] s.2.2 r) (fun b r => r = b)) b r → mG (d + 1) 169 4 [(3, k0), (1, k1), (1, k2), (1, k3)] [] σ r := by
      intro k0 k1 k2 k3 σ b r hj hb hk
      have e0 : k0 = l0 := (Prod.mk.inj (Option.some.inj ((hj.1 rfl).1))).2
      subst e0
      have e1 : k1 = l1 := (Prod.mk.inj (Option.some.inj ((hj.1 rfl).2.1))).2
      subst e1
      cases hb
      exact mG.lle hk (lle_cons (lle_cons (lle_cons (lle_cons lle_nil))))
    exact key _ _ _ _ σ b r hj hb hk
  · cases hb
set_option maxRecDepth 100000 in
theorem T_Field_picturesOf_4 {d : Nat} (hC : ∀ k as σ p, C_Field_picturesOf k as σ = some p → mEx d k as σ p) {l0 l1 l2 l3 : Int} {σ : mS} {b : Int × mS} {r : Int × mS} (h : M_Field_picturesOf_4 l0 l1 l2 l3 σ = some b) (hk : (fun b r => r = b) b r) : mG (d + 1) 169 4 [(3, l0), (1, l1), (1, l2), (1, l3)] [] σ r :=
  miter_ok (G := fun (s : Int × Int × mS) r => mG (d + 1) 169 4 [(3, l0), (1, l1), (1, s.1), (1, s.2.1)] [] s.2.2 r) (K := (fun b r => r = b)) (fun s x r hs hx => TB_Field_picturesOf_4 hC hs hx) mN _ b r h hk
set_option maxRecDepth 100000 in
theorem T_Field_picturesOf_0 {d : Nat} (hC : ∀ k as σ p, C_Field_picturesOf k as σ = some p → mEx d k as σ p) {l0 l1 : Int} {σ : mS} {b : Int × mS} {r : Int × mS} (h : M_Field_picturesOf l0 l1 σ = some b) (hk : (fun b r => r = b) b r) : mG (d + 1) 169 0 (mInit 4 [(3, l0), (1, l1)]) [] σ r := by
  refine mblk_ok1 P_Field_picturesOf (F := F_Field_picturesOf_0) (fun b r => r = b) hC ?_ (fun v σ b r hb hk => by cases hb; exact hk) _ 0 (mInit 4 [(3, l0), (1, l1)]) [] σ b r ((E_Field_picturesOf_0 l0 l1 σ).trans h) hk
  intro i L st σ b r hb hk
  unfold F_Field_picturesOf_0 at hb
  split at hb
  · have key : ∀ (k0 k1 k2 k3 : Int) (σ : mS) (b : Int × mS) (r : Int × mS), (M_Field_picturesOf_4 k0 k1 k2 k3 σ) = some b → (fun b r => r = b) b r → mG (d + 1) 169 4 [(3, k0), (1, k1), (1, k2), (1, k3)] [] σ r := by
      intro k0 k1 k2 k3 σ b r hb hk
      exact (T_Field_picturesOf_4 hC hb hk).lle (lle_cons (lle_cons (lle_cons (lle_cons lle_nil))))
    exact key _ _ _ _ σ b r hb hk
  · cases hb
set_option maxRecDepth 100000 in
theorem T_Field_picturesOf {l0 l1 : Int} {σ : mS} {r : Int × mS} (h : M_Field_picturesOf l0 l1 σ = some r) : mEx 2 169 [(3, l0), (1, l1)] σ r :=
  ⟨by rw [P_Field_picturesOf]; exact Nat.le_of_ble_eq_true rfl, by rw [P_Field_picturesOf]; exact T_Field_picturesOf_0 TC_Field_picturesOf h rfl⟩
set_option maxRecDepth 100000 in
theorem P_RW_pictures : mProg 18 = (c_RW_pictures, 2) := rfl
set_option maxRecDepth 100000 in
theorem TC_RW_pictures : ∀ k as σ p, C_RW_pictures k as σ = some p → mEx 7 k as σ p := by
  intro k as σ p hp
  unfold C_RW_pictures at hp
  split at hp
  · exact (T_Field_look hp).up (Nat.le_of_ble_eq_true rfl)
  · exact (T_Field_picturesOf hp).up (Nat.le_of_ble_eq_true rfl)
  · exact (T_Light_standByTerms hp).up (Nat.le_of_ble_eq_true rfl)
  · exact (T_Road_hasThing hp).up (Nat.le_of_ble_eq_true rfl)
  · cases hp
set_option maxRecDepth 100000 in
theorem T_RW_pictures_0 {d : Nat} (hC : ∀ k as σ p, C_RW_pictures k as σ = some p → mEx d k as σ p) {l0 l1 : Int} {σ : mS} {b : Int × mS} {r : Int × mS} (h : M_RW_pictures l0 l1 σ = some b) (hk : (fun b r => r = b) b r) : mG (d + 1) 18 0 (mInit 2 [(3, l0), (1, l1)]) [] σ r := by
  refine mblk_ok1 P_RW_pictures (F := F_RW_pictures_0) (fun b r => r = b) hC ?_ (fun v σ b r hb hk => by cases hb; exact hk) _ 0 (mInit 2 [(3, l0), (1, l1)]) [] σ b r ((E_RW_pictures_0 l0 l1 σ).trans h) hk
  intro i L st σ b r hb hk
  cases hb
set_option maxRecDepth 100000 in
theorem T_RW_pictures {l0 l1 : Int} {σ : mS} {r : Int × mS} (h : M_RW_pictures l0 l1 σ = some r) : mEx 8 18 [(3, l0), (1, l1)] σ r :=
  ⟨by rw [P_RW_pictures]; exact Nat.le_of_ble_eq_true rfl, by rw [P_RW_pictures]; exact T_RW_pictures_0 TC_RW_pictures h rfl⟩
set_option maxRecDepth 100000 in
theorem P_Field_pictureStart : mProg 170 = (c_Field_pictureStart, 5) := rfl
set_option maxRecDepth 100000 in
theorem TC_Field_pictureStart : ∀ k as σ p, C_Field_pictureStart k as σ = some p → mEx 1 k as σ p := by
  intro k as σ p hp
  unfold C_Field_pictureStart at hp
  split at hp
  · exact (T_Field_startsPicture hp).up (Nat.le_of_ble_eq_true rfl)
  · cases hp
set_option maxRecDepth 100000 in
theorem TB_Field_pictureStart_4 {d : Nat} (hC : ∀ k as σ p, C_Field_pictureStart k as σ = some p → mEx d k as σ p) {l0 l1 l2 l3 l4 : Int} {σ : mS} {b : ((Int × Int × mS) ⊕ (Int × mS))} {r : Int × mS} (h : B_Field_pictureStart_4 l0 l1 l2 l3 l4 σ = some b) (hk : (Sum.elim (fun (s : Int × Int × mS) r => mG (d + 1) 170 4 [(3, l0), (1, l1), (1, l2), (1, s.1), (1, s.2.1)] [] s.2.2 r) (fun b r => r = b)) b r) : mG (d + 1) 170 4 [(3, l0), (1, l1), (1, l2), (1, l3), (1, l4)] [] σ r := by
  refine mblk_ok2 P_Field_pictureStart (F := F_Field_pictureStart_4) (Sum.elim (fun (s : Int × Int × mS) r => mG (d + 1) 170 4 [(3, l0), (1, l1), (1, l2), (1, s.1), (1, s.2.1)] [] s.2.2 r) (fun b r => r = b)) [([(4, 14), (19, 21)], [0, 1, 2])] [(4, 23)] [(3, l0), (1, l1), (1, l2), (1, l3), (1, l4)] (by decide +kernel) rfl hC ?_ (fun v σ b r hb hk => by cases hb; exact hk) _ 4 [(3, l0), (1, l1), (1, l2), (1, l3), (1, l4)] [] σ b r rfl (mJ_self _ _ _) ((E_Field_pictureStart_4 l0 l1 l2 l3 l4 σ).trans h) hk
  intro i L st σ b r hj hb hk
  unfold F_Field_pictureStart_4 at hb
  split at hb
  · have key : ∀ (k0 k1 k2 k3 k4 : Int) (σ : mS) (b : ((Int × Int × mS) ⊕ (Int × mS))) (r : Int × mS), mJ [(3, l0), (1, l1), (1, l2), (1, l3), (1, l4)] 4 [(3, k0), (1, k1), (1, k2), (1, k3), (1, k4)] [([(4, 14), (19, 21)], [0, 1, 2])] → (some (.inl (k3, k4, σ))) = some b → (Sum.elim (fun (s : Int × Int × mS) r => mG (d + 1) 170 4 [(3, l0), (1, l1), (1, l2), (1, s.1), (1, s.2.1)] [] s.2.2 r) (fun b r => r = b)) b r → mG (d + 1) 170 4 [(3, k0), (1, k1), (1, k2), (1, k3), (1, k4)] [] σ r := by
      intro k0 k1 k2 k3 k4 σ b r hj hb hk
      have e0 : k0 = l0 := (Prod.mk.inj (Option.some.inj ((hj.1 rfl).1))).2
      subst e0
      have e1 : k1 = l1 := (Prod.mk.inj (Option.some.inj ((hj.1 rfl).2.1))).2
      subst e1
      have e2 : k2 = l2 := (Prod.mk.inj (Option.some.inj ((hj.1 rfl).2.2.1))).2
      subst e2
      cases hb
      exact mG.lle hk (lle_cons (lle_cons (lle_cons (lle_cons (lle_cons lle_nil)))))
    exact key _ _ _ _ _ σ b r hj hb hk
  · cases hb
set_option maxRecDepth 100000 in
theorem T_Field_pictureStart_4 {d : Nat} (hC : ∀ k as σ p, C_Field_pictureStart k as σ = some p → mEx d k as σ p) {l0 l1 l2 l3 l4 : Int} {σ : mS} {b : Int × mS} {r : Int × mS} (h : M_Field_pictureStart_4 l0 l1 l2 l3 l4 σ = some b) (hk : (fun b r => r = b) b r) : mG (d + 1) 170 4 [(3, l0), (1, l1), (1, l2), (1, l3), (1, l4)] [] σ r :=
  miter_ok (G := fun (s : Int × Int × mS) r => mG (d + 1) 170 4 [(3, l0), (1, l1), (1, l2), (1, s.1), (1, s.2.1)] [] s.2.2 r) (K := (fun b r => r = b)) (fun s x r hs hx => TB_Field_pictureStart_4 hC hs hx) mN _ b r h hk
set_option maxRecDepth 100000 in
theorem T_Field_pictureStart_0 {d : Nat} (hC : ∀ k as σ p, C_Field_pictureStart k as σ = some p → mEx d k as σ p) {l0 l1 l2 : Int} {σ : mS} {b : Int × mS} {r : Int × mS} (h : M_Field_pictureStart l0 l1 l2 σ = some b) (hk : (fun b r => r = b) b r) : mG (d + 1) 170 0 (mInit 5 [(3, l0), (1, l1), (1, l2)]) [] σ r := by
  refine mblk_ok1 P_Field_pictureStart (F := F_Field_pictureStart_0) (fun b r => r = b) hC ?_ (fun v σ b r hb hk => by cases hb; exact hk) _ 0 (mInit 5 [(3, l0), (1, l1), (1, l2)]) [] σ b r ((E_Field_pictureStart_0 l0 l1 l2 σ).trans h) hk
  intro i L st σ b r hb hk
  unfold F_Field_pictureStart_0 at hb
  split at hb
  · have key : ∀ (k0 k1 k2 k3 k4 : Int) (σ : mS) (b : Int × mS) (r : Int × mS), (M_Field_pictureStart_4 k0 k1 k2 k3 k4 σ) = some b → (fun b r => r = b) b r → mG (d + 1) 170 4 [(3, k0), (1, k1), (1, k2), (1, k3), (1, k4)] [] σ r := by
      intro k0 k1 k2 k3 k4 σ b r hb hk
      exact (T_Field_pictureStart_4 hC hb hk).lle (lle_cons (lle_cons (lle_cons (lle_cons (lle_cons lle_nil)))))
    exact key _ _ _ _ _ σ b r hb hk
  · cases hb
set_option maxRecDepth 100000 in
theorem T_Field_pictureStart {l0 l1 l2 : Int} {σ : mS} {r : Int × mS} (h : M_Field_pictureStart l0 l1 l2 σ = some r) : mEx 2 170 [(3, l0), (1, l1), (1, l2)] σ r :=
  ⟨by rw [P_Field_pictureStart]; exact Nat.le_of_ble_eq_true rfl, by rw [P_Field_pictureStart]; exact T_Field_pictureStart_0 TC_Field_pictureStart h rfl⟩
set_option maxRecDepth 100000 in
theorem P_Field_pictureStop : mProg 171 = (c_Field_pictureStop, 4) := rfl
set_option maxRecDepth 100000 in
theorem TC_Field_pictureStop : ∀ k as σ p, C_Field_pictureStop k as σ = some p → mEx 0 k as σ p := by
  intro k as σ p hp
  cases hp
set_option maxRecDepth 100000 in
theorem TB_Field_pictureStop_4 {d : Nat} (hC : ∀ k as σ p, C_Field_pictureStop k as σ = some p → mEx d k as σ p) {l0 l1 l3 : Int} {σ : mS} {b : ((Int × mS) ⊕ (Int × mS))} {r : Int × mS} (h : B_Field_pictureStop_4 l0 l1 l3 σ = some b) (hk : (Sum.elim (fun (s : Int × mS) r => mG (d + 1) 171 4 [(3, l0), (1, l1), (0, 0), (1, s.1)] [] s.2 r) (fun b r => r = b)) b r) : mG (d + 1) 171 4 [(3, l0), (1, l1), (0, 0), (1, l3)] [] σ r := by
  refine mblk_ok2 P_Field_pictureStop (F := F_Field_pictureStop_4) (Sum.elim (fun (s : Int × mS) r => mG (d + 1) 171 4 [(3, l0), (1, l1), (0, 0), (1, s.1)] [] s.2 r) (fun b r => r = b)) [([(4, 18)], [0, 1])] [(4, 22)] [(3, l0), (1, l1), (0, 0), (1, l3)] (by decide +kernel) rfl hC ?_ (fun v σ b r hb hk => by cases hb; exact hk) _ 4 [(3, l0), (1, l1), (0, 0), (1, l3)] [] σ b r rfl (mJ_self _ _ _) ((E_Field_pictureStop_4 l0 l1 l3 σ).trans h) hk
  intro i L st σ b r hj hb hk
  unfold F_Field_pictureStop_4 at hb
  split at hb
  · have key : ∀ (k0 k1 k3 : Int) (k2 : mV) (σ : mS) (b : ((Int × mS) ⊕ (Int × mS))) (r : Int × mS), mJ [(3, l0), (1, l1), (0, 0), (1, l3)] 4 [(3, k0), (1, k1), k2, (1, k3)] [([(4, 18)], [0, 1])] → (some (.inl (k3, σ))) = some b → (Sum.elim (fun (s : Int × mS) r => mG (d + 1) 171 4 [(3, l0), (1, l1), (0, 0), (1, s.1)] [] s.2 r) (fun b r => r = b)) b r → mG (d + 1) 171 4 [(3, k0), (1, k1), k2, (1, k3)] [] σ r := by
      intro k0 k1 k3 k2 σ b r hj hb hk
      have e0 : k0 = l0 := (Prod.mk.inj (Option.some.inj ((hj.1 rfl).1))).2
      subst e0
      have e1 : k1 = l1 := (Prod.mk.inj (Option.some.inj ((hj.1 rfl).2.1))).2
      subst e1
      cases hb
      exact mG.lle hk (lle_cons (lle_cons (lle_dead (lle_cons lle_nil))))
    exact key _ _ _ _ σ b r hj hb hk
  · cases hb
set_option maxRecDepth 100000 in
theorem T_Field_pictureStop_4 {d : Nat} (hC : ∀ k as σ p, C_Field_pictureStop k as σ = some p → mEx d k as σ p) {l0 l1 l3 : Int} {σ : mS} {b : Int × mS} {r : Int × mS} (h : M_Field_pictureStop_4 l0 l1 l3 σ = some b) (hk : (fun b r => r = b) b r) : mG (d + 1) 171 4 [(3, l0), (1, l1), (0, 0), (1, l3)] [] σ r :=
  miter_ok (G := fun (s : Int × mS) r => mG (d + 1) 171 4 [(3, l0), (1, l1), (0, 0), (1, s.1)] [] s.2 r) (K := (fun b r => r = b)) (fun s x r hs hx => TB_Field_pictureStop_4 hC hs hx) mN _ b r h hk
set_option maxRecDepth 100000 in
theorem T_Field_pictureStop_0 {d : Nat} (hC : ∀ k as σ p, C_Field_pictureStop k as σ = some p → mEx d k as σ p) {l0 l1 l2 : Int} {σ : mS} {b : Int × mS} {r : Int × mS} (h : M_Field_pictureStop l0 l1 l2 σ = some b) (hk : (fun b r => r = b) b r) : mG (d + 1) 171 0 (mInit 4 [(3, l0), (1, l1), (1, l2)]) [] σ r := by
  refine mblk_ok1 P_Field_pictureStop (F := F_Field_pictureStop_0) (fun b r => r = b) hC ?_ (fun v σ b r hb hk => by cases hb; exact hk) _ 0 (mInit 4 [(3, l0), (1, l1), (1, l2)]) [] σ b r ((E_Field_pictureStop_0 l0 l1 l2 σ).trans h) hk
  intro i L st σ b r hb hk
  unfold F_Field_pictureStop_0 at hb
  split at hb
  · have key : ∀ (k0 k1 k3 : Int) (k2 : mV) (σ : mS) (b : Int × mS) (r : Int × mS), (M_Field_pictureStop_4 k0 k1 k3 σ) = some b → (fun b r => r = b) b r → mG (d + 1) 171 4 [(3, k0), (1, k1), k2, (1, k3)] [] σ r := by
      intro k0 k1 k3 k2 σ b r hb hk
      exact (T_Field_pictureStop_4 hC hb hk).lle (lle_cons (lle_cons (lle_dead (lle_cons lle_nil))))
    exact key _ _ _ _ σ b r hb hk
  · cases hb
set_option maxRecDepth 100000 in
theorem T_Field_pictureStop {l0 l1 l2 : Int} {σ : mS} {r : Int × mS} (h : M_Field_pictureStop l0 l1 l2 σ = some r) : mEx 1 171 [(3, l0), (1, l1), (1, l2)] σ r :=
  ⟨by rw [P_Field_pictureStop]; exact Nat.le_of_ble_eq_true rfl, by rw [P_Field_pictureStop]; exact T_Field_pictureStop_0 TC_Field_pictureStop h rfl⟩
set_option maxRecDepth 100000 in
theorem P_Field_uprightness : mProg 172 = (c_Field_uprightness, 5) := rfl
set_option maxRecDepth 100000 in
theorem TC_Field_uprightness : ∀ k as σ p, C_Field_uprightness k as σ = some p → mEx 0 k as σ p := by
  intro k as σ p hp
  cases hp
set_option maxRecDepth 100000 in
theorem T_Field_uprightness_0 {d : Nat} (hC : ∀ k as σ p, C_Field_uprightness k as σ = some p → mEx d k as σ p) {l0 l1 l2 : Int} {σ : mS} {b : Int × mS} {r : Int × mS} (h : M_Field_uprightness l0 l1 l2 σ = some b) (hk : (fun b r => r = b) b r) : mG (d + 1) 172 0 (mInit 5 [(3, l0), (1, l1), (1, l2)]) [] σ r := by
  refine mblk_ok1 P_Field_uprightness (F := F_Field_uprightness_0) (fun b r => r = b) hC ?_ (fun v σ b r hb hk => by cases hb; exact hk) _ 0 (mInit 5 [(3, l0), (1, l1), (1, l2)]) [] σ b r ((E_Field_uprightness_0 l0 l1 l2 σ).trans h) hk
  intro i L st σ b r hb hk
  cases hb
set_option maxRecDepth 100000 in
theorem T_Field_uprightness {l0 l1 l2 : Int} {σ : mS} {r : Int × mS} (h : M_Field_uprightness l0 l1 l2 σ = some r) : mEx 1 172 [(3, l0), (1, l1), (1, l2)] σ r :=
  ⟨by rw [P_Field_uprightness]; exact Nat.le_of_ble_eq_true rfl, by rw [P_Field_uprightness]; exact T_Field_uprightness_0 TC_Field_uprightness h rfl⟩
set_option maxRecDepth 100000 in
theorem P_Field_leastInch : mProg 173 = (c_Field_leastInch, 5) := rfl
set_option maxRecDepth 100000 in
theorem TC_Field_leastInch : ∀ k as σ p, C_Field_leastInch k as σ = some p → mEx 0 k as σ p := by
  intro k as σ p hp
  cases hp
set_option maxRecDepth 100000 in
theorem TB_Field_leastInch_9 {d : Nat} (hC : ∀ k as σ p, C_Field_leastInch k as σ = some p → mEx d k as σ p) {l0 l2 l3 l4 : Int} {σ : mS} {b : ((Int × Int × mS) ⊕ (Int × mS))} {r : Int × mS} (h : B_Field_leastInch_9 l0 l2 l3 l4 σ = some b) (hk : (Sum.elim (fun (s : Int × Int × mS) r => mG (d + 1) 173 9 [(3, l0), (0, 0), (1, l2), (1, s.1), (1, s.2.1)] [] s.2.2 r) (fun b r => r = b)) b r) : mG (d + 1) 173 9 [(3, l0), (0, 0), (1, l2), (1, l3), (1, l4)] [] σ r := by
  refine mblk_ok2 P_Field_leastInch (F := F_Field_leastInch_9) (Sum.elim (fun (s : Int × Int × mS) r => mG (d + 1) 173 9 [(3, l0), (0, 0), (1, l2), (1, s.1), (1, s.2.1)] [] s.2.2 r) (fun b r => r = b)) [([(9, 22)], [0, 2])] [(9, 24)] [(3, l0), (0, 0), (1, l2), (1, l3), (1, l4)] (by decide +kernel) rfl hC ?_ (fun v σ b r hb hk => by cases hb; exact hk) _ 9 [(3, l0), (0, 0), (1, l2), (1, l3), (1, l4)] [] σ b r rfl (mJ_self _ _ _) ((E_Field_leastInch_9 l0 l2 l3 l4 σ).trans h) hk
  intro i L st σ b r hj hb hk
  unfold F_Field_leastInch_9 at hb
  split at hb
  · have key : ∀ (k0 k2 k3 k4 : Int) (k1 : mV) (σ : mS) (b : ((Int × Int × mS) ⊕ (Int × mS))) (r : Int × mS), mJ [(3, l0), (0, 0), (1, l2), (1, l3), (1, l4)] 9 [(3, k0), k1, (1, k2), (1, k3), (1, k4)] [([(9, 22)], [0, 2])] → (some (.inl (k3, k4, σ))) = some b → (Sum.elim (fun (s : Int × Int × mS) r => mG (d + 1) 173 9 [(3, l0), (0, 0), (1, l2), (1, s.1), (1, s.2.1)] [] s.2.2 r) (fun b r => r = b)) b r → mG (d + 1) 173 9 [(3, k0), k1, (1, k2), (1, k3), (1, k4)] [] σ r := by
      intro k0 k2 k3 k4 k1 σ b r hj hb hk
      have e0 : k0 = l0 := (Prod.mk.inj (Option.some.inj ((hj.1 rfl).1))).2
      subst e0
      have e2 : k2 = l2 := (Prod.mk.inj (Option.some.inj ((hj.1 rfl).2.1))).2
      subst e2
      cases hb
      exact mG.lle hk (lle_cons (lle_dead (lle_cons (lle_cons (lle_cons lle_nil)))))
    exact key _ _ _ _ _ σ b r hj hb hk
  · cases hb
set_option maxRecDepth 100000 in
theorem T_Field_leastInch_9 {d : Nat} (hC : ∀ k as σ p, C_Field_leastInch k as σ = some p → mEx d k as σ p) {l0 l2 l3 l4 : Int} {σ : mS} {b : Int × mS} {r : Int × mS} (h : M_Field_leastInch_9 l0 l2 l3 l4 σ = some b) (hk : (fun b r => r = b) b r) : mG (d + 1) 173 9 [(3, l0), (0, 0), (1, l2), (1, l3), (1, l4)] [] σ r :=
  miter_ok (G := fun (s : Int × Int × mS) r => mG (d + 1) 173 9 [(3, l0), (0, 0), (1, l2), (1, s.1), (1, s.2.1)] [] s.2.2 r) (K := (fun b r => r = b)) (fun s x r hs hx => TB_Field_leastInch_9 hC hs hx) mN _ b r h hk
set_option maxRecDepth 100000 in
theorem T_Field_leastInch_0 {d : Nat} (hC : ∀ k as σ p, C_Field_leastInch k as σ = some p → mEx d k as σ p) {l0 l1 l2 : Int} {σ : mS} {b : Int × mS} {r : Int × mS} (h : M_Field_leastInch l0 l1 l2 σ = some b) (hk : (fun b r => r = b) b r) : mG (d + 1) 173 0 (mInit 5 [(3, l0), (1, l1), (1, l2)]) [] σ r := by
  refine mblk_ok1 P_Field_leastInch (F := F_Field_leastInch_0) (fun b r => r = b) hC ?_ (fun v σ b r hb hk => by cases hb; exact hk) _ 0 (mInit 5 [(3, l0), (1, l1), (1, l2)]) [] σ b r ((E_Field_leastInch_0 l0 l1 l2 σ).trans h) hk
  intro i L st σ b r hb hk
  unfold F_Field_leastInch_0 at hb
  split at hb
  · have key : ∀ (k0 k2 k3 k4 : Int) (k1 : mV) (σ : mS) (b : Int × mS) (r : Int × mS), (M_Field_leastInch_9 k0 k2 k3 k4 σ) = some b → (fun b r => r = b) b r → mG (d + 1) 173 9 [(3, k0), k1, (1, k2), (1, k3), (1, k4)] [] σ r := by
      intro k0 k2 k3 k4 k1 σ b r hb hk
      exact (T_Field_leastInch_9 hC hb hk).lle (lle_cons (lle_dead (lle_cons (lle_cons (lle_cons lle_nil)))))
    exact key _ _ _ _ _ σ b r hb hk
  · cases hb
set_option maxRecDepth 100000 in
theorem T_Field_leastInch {l0 l1 l2 : Int} {σ : mS} {r : Int × mS} (h : M_Field_leastInch l0 l1 l2 σ = some r) : mEx 1 173 [(3, l0), (1, l1), (1, l2)] σ r :=
  ⟨by rw [P_Field_leastInch]; exact Nat.le_of_ble_eq_true rfl, by rw [P_Field_leastInch]; exact T_Field_leastInch_0 TC_Field_leastInch h rfl⟩
set_option maxRecDepth 100000 in
theorem P_Field_greatestInch : mProg 174 = (c_Field_greatestInch, 5) := rfl
set_option maxRecDepth 100000 in
theorem TC_Field_greatestInch : ∀ k as σ p, C_Field_greatestInch k as σ = some p → mEx 0 k as σ p := by
  intro k as σ p hp
  cases hp
set_option maxRecDepth 100000 in
theorem TB_Field_greatestInch_9 {d : Nat} (hC : ∀ k as σ p, C_Field_greatestInch k as σ = some p → mEx d k as σ p) {l0 l2 l3 l4 : Int} {σ : mS} {b : ((Int × Int × mS) ⊕ (Int × mS))} {r : Int × mS} (h : B_Field_greatestInch_9 l0 l2 l3 l4 σ = some b) (hk : (Sum.elim (fun (s : Int × Int × mS) r => mG (d + 1) 174 9 [(3, l0), (0, 0), (1, l2), (1, s.1), (1, s.2.1)] [] s.2.2 r) (fun b r => r = b)) b r) : mG (d + 1) 174 9 [(3, l0), (0, 0), (1, l2), (1, l3), (1, l4)] [] σ r := by
  refine mblk_ok2 P_Field_greatestInch (F := F_Field_greatestInch_9) (Sum.elim (fun (s : Int × Int × mS) r => mG (d + 1) 174 9 [(3, l0), (0, 0), (1, l2), (1, s.1), (1, s.2.1)] [] s.2.2 r) (fun b r => r = b)) [([(9, 22)], [0, 2])] [(9, 24)] [(3, l0), (0, 0), (1, l2), (1, l3), (1, l4)] (by decide +kernel) rfl hC ?_ (fun v σ b r hb hk => by cases hb; exact hk) _ 9 [(3, l0), (0, 0), (1, l2), (1, l3), (1, l4)] [] σ b r rfl (mJ_self _ _ _) ((E_Field_greatestInch_9 l0 l2 l3 l4 σ).trans h) hk
  intro i L st σ b r hj hb hk
  unfold F_Field_greatestInch_9 at hb
  split at hb
  · have key : ∀ (k0 k2 k3 k4 : Int) (k1 : mV) (σ : mS) (b : ((Int × Int × mS) ⊕ (Int × mS))) (r : Int × mS), mJ [(3, l0), (0, 0), (1, l2), (1, l3), (1, l4)] 9 [(3, k0), k1, (1, k2), (1, k3), (1, k4)] [([(9, 22)], [0, 2])] → (some (.inl (k3, k4, σ))) = some b → (Sum.elim (fun (s : Int × Int × mS) r => mG (d + 1) 174 9 [(3, l0), (0, 0), (1, l2), (1, s.1), (1, s.2.1)] [] s.2.2 r) (fun b r => r = b)) b r → mG (d + 1) 174 9 [(3, k0), k1, (1, k2), (1, k3), (1, k4)] [] σ r := by
      intro k0 k2 k3 k4 k1 σ b r hj hb hk
      have e0 : k0 = l0 := (Prod.mk.inj (Option.some.inj ((hj.1 rfl).1))).2
      subst e0
      have e2 : k2 = l2 := (Prod.mk.inj (Option.some.inj ((hj.1 rfl).2.1))).2
      subst e2
      cases hb
      exact mG.lle hk (lle_cons (lle_dead (lle_cons (lle_cons (lle_cons lle_nil)))))
    exact key _ _ _ _ _ σ b r hj hb hk
  · cases hb
set_option maxRecDepth 100000 in
theorem T_Field_greatestInch_9 {d : Nat} (hC : ∀ k as σ p, C_Field_greatestInch k as σ = some p → mEx d k as σ p) {l0 l2 l3 l4 : Int} {σ : mS} {b : Int × mS} {r : Int × mS} (h : M_Field_greatestInch_9 l0 l2 l3 l4 σ = some b) (hk : (fun b r => r = b) b r) : mG (d + 1) 174 9 [(3, l0), (0, 0), (1, l2), (1, l3), (1, l4)] [] σ r :=
  miter_ok (G := fun (s : Int × Int × mS) r => mG (d + 1) 174 9 [(3, l0), (0, 0), (1, l2), (1, s.1), (1, s.2.1)] [] s.2.2 r) (K := (fun b r => r = b)) (fun s x r hs hx => TB_Field_greatestInch_9 hC hs hx) mN _ b r h hk
set_option maxRecDepth 100000 in
theorem T_Field_greatestInch_0 {d : Nat} (hC : ∀ k as σ p, C_Field_greatestInch k as σ = some p → mEx d k as σ p) {l0 l1 l2 : Int} {σ : mS} {b : Int × mS} {r : Int × mS} (h : M_Field_greatestInch l0 l1 l2 σ = some b) (hk : (fun b r => r = b) b r) : mG (d + 1) 174 0 (mInit 5 [(3, l0), (1, l1), (1, l2)]) [] σ r := by
  refine mblk_ok1 P_Field_greatestInch (F := F_Field_greatestInch_0) (fun b r => r = b) hC ?_ (fun v σ b r hb hk => by cases hb; exact hk) _ 0 (mInit 5 [(3, l0), (1, l1), (1, l2)]) [] σ b r ((E_Field_greatestInch_0 l0 l1 l2 σ).trans h) hk
  intro i L st σ b r hb hk
  unfold F_Field_greatestInch_0 at hb
  split at hb
  · have key : ∀ (k0 k2 k3 k4 : Int) (k1 : mV) (σ : mS) (b : Int × mS) (r : Int × mS), (M_Field_greatestInch_9 k0 k2 k3 k4 σ) = some b → (fun b r => r = b) b r → mG (d + 1) 174 9 [(3, k0), k1, (1, k2), (1, k3), (1, k4)] [] σ r := by
      intro k0 k2 k3 k4 k1 σ b r hb hk
      exact (T_Field_greatestInch_9 hC hb hk).lle (lle_cons (lle_dead (lle_cons (lle_cons (lle_cons lle_nil)))))
    exact key _ _ _ _ _ σ b r hb hk
  · cases hb
set_option maxRecDepth 100000 in
theorem T_Field_greatestInch {l0 l1 l2 : Int} {σ : mS} {r : Int × mS} (h : M_Field_greatestInch l0 l1 l2 σ = some r) : mEx 1 174 [(3, l0), (1, l1), (1, l2)] σ r :=
  ⟨by rw [P_Field_greatestInch]; exact Nat.le_of_ble_eq_true rfl, by rw [P_Field_greatestInch]; exact T_Field_greatestInch_0 TC_Field_greatestInch h rfl⟩
set_option maxRecDepth 100000 in
theorem P_RW_picture : mProg 19 = (c_RW_picture, 6) := rfl
set_option maxRecDepth 100000 in
theorem TC_RW_picture : ∀ k as σ p, C_RW_picture k as σ = some p → mEx 7 k as σ p := by
  intro k as σ p hp
  unfold C_RW_picture at hp
  split at hp
  · exact (T_Field_look hp).up (Nat.le_of_ble_eq_true rfl)
  · exact (T_Field_pictureStart hp).up (Nat.le_of_ble_eq_true rfl)
  · exact (T_Field_pictureStop hp).up (Nat.le_of_ble_eq_true rfl)
  · exact (T_Field_uprightness hp).up (Nat.le_of_ble_eq_true rfl)
  · exact (T_Field_leastInch hp).up (Nat.le_of_ble_eq_true rfl)
  · exact (T_Field_greatestInch hp).up (Nat.le_of_ble_eq_true rfl)
  · exact (T_Light_standByTerms hp).up (Nat.le_of_ble_eq_true rfl)
  · exact (T_Road_hasThing hp).up (Nat.le_of_ble_eq_true rfl)
  · cases hp
set_option maxRecDepth 100000 in
theorem T_RW_picture_0 {d : Nat} (hC : ∀ k as σ p, C_RW_picture k as σ = some p → mEx d k as σ p) {l0 l1 l2 l3 : Int} {σ : mS} {b : Int × mS} {r : Int × mS} (h : M_RW_picture l0 l1 l2 l3 σ = some b) (hk : (fun b r => r = b) b r) : mG (d + 1) 19 0 (mInit 6 [(3, l0), (1, l1), (1, l2), (1, l3)]) [] σ r := by
  refine mblk_ok1 P_RW_picture (F := F_RW_picture_0) (fun b r => r = b) hC ?_ (fun v σ b r hb hk => by cases hb; exact hk) _ 0 (mInit 6 [(3, l0), (1, l1), (1, l2), (1, l3)]) [] σ b r ((E_RW_picture_0 l0 l1 l2 l3 σ).trans h) hk
  intro i L st σ b r hb hk
  cases hb
set_option maxRecDepth 100000 in
theorem T_RW_picture {l0 l1 l2 l3 : Int} {σ : mS} {r : Int × mS} (h : M_RW_picture l0 l1 l2 l3 σ = some r) : mEx 8 19 [(3, l0), (1, l1), (1, l2), (1, l3)] σ r :=
  ⟨by rw [P_RW_picture]; exact Nat.le_of_ble_eq_true rfl, by rw [P_RW_picture]; exact T_RW_picture_0 TC_RW_picture h rfl⟩
set_option maxRecDepth 100000 in
theorem P_Field_hiddenInches : mProg 175 = (c_Field_hiddenInches, 5) := rfl
set_option maxRecDepth 100000 in
theorem TC_Field_hiddenInches : ∀ k as σ p, C_Field_hiddenInches k as σ = some p → mEx 0 k as σ p := by
  intro k as σ p hp
  cases hp
set_option maxRecDepth 100000 in
theorem TB_Field_hiddenInches_8 {d : Nat} (hC : ∀ k as σ p, C_Field_hiddenInches k as σ = some p → mEx d k as σ p) {l0 l1 l3 l4 : Int} {σ : mS} {b : ((Int × Int × mS) ⊕ (Int × mS))} {r : Int × mS} (h : B_Field_hiddenInches_8 l0 l1 l3 l4 σ = some b) (hk : (Sum.elim (fun (s : Int × Int × mS) r => mG (d + 1) 175 8 [(3, l0), (1, l1), (0, 0), (1, s.1), (1, s.2.1)] [] s.2.2 r) (fun b r => r = b)) b r) : mG (d + 1) 175 8 [(3, l0), (1, l1), (0, 0), (1, l3), (1, l4)] [] σ r := by
  refine mblk_ok2 P_Field_hiddenInches (F := F_Field_hiddenInches_8) (Sum.elim (fun (s : Int × Int × mS) r => mG (d + 1) 175 8 [(3, l0), (1, l1), (0, 0), (1, s.1), (1, s.2.1)] [] s.2.2 r) (fun b r => r = b)) [([(8, 29)], [0, 1])] [(8, 31)] [(3, l0), (1, l1), (0, 0), (1, l3), (1, l4)] (by decide +kernel) rfl hC ?_ (fun v σ b r hb hk => by cases hb; exact hk) _ 8 [(3, l0), (1, l1), (0, 0), (1, l3), (1, l4)] [] σ b r rfl (mJ_self _ _ _) ((E_Field_hiddenInches_8 l0 l1 l3 l4 σ).trans h) hk
  intro i L st σ b r hj hb hk
  unfold F_Field_hiddenInches_8 at hb
  split at hb
  · have key : ∀ (k0 k1 k3 k4 : Int) (k2 : mV) (σ : mS) (b : ((Int × Int × mS) ⊕ (Int × mS))) (r : Int × mS), mJ [(3, l0), (1, l1), (0, 0), (1, l3), (1, l4)] 8 [(3, k0), (1, k1), k2, (1, k3), (1, k4)] [([(8, 29)], [0, 1])] → (some (.inl (k3, k4, σ))) = some b → (Sum.elim (fun (s : Int × Int × mS) r => mG (d + 1) 175 8 [(3, l0), (1, l1), (0, 0), (1, s.1), (1, s.2.1)] [] s.2.2 r) (fun b r => r = b)) b r → mG (d + 1) 175 8 [(3, k0), (1, k1), k2, (1, k3), (1, k4)] [] σ r := by
      intro k0 k1 k3 k4 k2 σ b r hj hb hk
      have e0 : k0 = l0 := (Prod.mk.inj (Option.some.inj ((hj.1 rfl).1))).2
      subst e0
      have e1 : k1 = l1 := (Prod.mk.inj (Option.some.inj ((hj.1 rfl).2.1))).2
      subst e1
      cases hb
      exact mG.lle hk (lle_cons (lle_cons (lle_dead (lle_cons (lle_cons lle_nil)))))
    exact key _ _ _ _ _ σ b r hj hb hk
  · cases hb
set_option maxRecDepth 100000 in
theorem T_Field_hiddenInches_8 {d : Nat} (hC : ∀ k as σ p, C_Field_hiddenInches k as σ = some p → mEx d k as σ p) {l0 l1 l3 l4 : Int} {σ : mS} {b : Int × mS} {r : Int × mS} (h : M_Field_hiddenInches_8 l0 l1 l3 l4 σ = some b) (hk : (fun b r => r = b) b r) : mG (d + 1) 175 8 [(3, l0), (1, l1), (0, 0), (1, l3), (1, l4)] [] σ r :=
  miter_ok (G := fun (s : Int × Int × mS) r => mG (d + 1) 175 8 [(3, l0), (1, l1), (0, 0), (1, s.1), (1, s.2.1)] [] s.2.2 r) (K := (fun b r => r = b)) (fun s x r hs hx => TB_Field_hiddenInches_8 hC hs hx) mN _ b r h hk
set_option maxRecDepth 100000 in
theorem T_Field_hiddenInches_0 {d : Nat} (hC : ∀ k as σ p, C_Field_hiddenInches k as σ = some p → mEx d k as σ p) {l0 l1 l2 : Int} {σ : mS} {b : Int × mS} {r : Int × mS} (h : M_Field_hiddenInches l0 l1 l2 σ = some b) (hk : (fun b r => r = b) b r) : mG (d + 1) 175 0 (mInit 5 [(3, l0), (1, l1), (1, l2)]) [] σ r := by
  refine mblk_ok1 P_Field_hiddenInches (F := F_Field_hiddenInches_0) (fun b r => r = b) hC ?_ (fun v σ b r hb hk => by cases hb; exact hk) _ 0 (mInit 5 [(3, l0), (1, l1), (1, l2)]) [] σ b r ((E_Field_hiddenInches_0 l0 l1 l2 σ).trans h) hk
  intro i L st σ b r hb hk
  unfold F_Field_hiddenInches_0 at hb
  split at hb
  · have key : ∀ (k0 k1 k3 k4 : Int) (k2 : mV) (σ : mS) (b : Int × mS) (r : Int × mS), (M_Field_hiddenInches_8 k0 k1 k3 k4 σ) = some b → (fun b r => r = b) b r → mG (d + 1) 175 8 [(3, k0), (1, k1), k2, (1, k3), (1, k4)] [] σ r := by
      intro k0 k1 k3 k4 k2 σ b r hb hk
      exact (T_Field_hiddenInches_8 hC hb hk).lle (lle_cons (lle_cons (lle_dead (lle_cons (lle_cons lle_nil)))))
    exact key _ _ _ _ _ σ b r hb hk
  · cases hb
set_option maxRecDepth 100000 in
theorem T_Field_hiddenInches {l0 l1 l2 : Int} {σ : mS} {r : Int × mS} (h : M_Field_hiddenInches l0 l1 l2 σ = some r) : mEx 1 175 [(3, l0), (1, l1), (1, l2)] σ r :=
  ⟨by rw [P_Field_hiddenInches]; exact Nat.le_of_ble_eq_true rfl, by rw [P_Field_hiddenInches]; exact T_Field_hiddenInches_0 TC_Field_hiddenInches h rfl⟩
set_option maxRecDepth 100000 in
theorem P_RW_hidden : mProg 20 = (c_RW_hidden, 2) := rfl
set_option maxRecDepth 100000 in
theorem TC_RW_hidden : ∀ k as σ p, C_RW_hidden k as σ = some p → mEx 7 k as σ p := by
  intro k as σ p hp
  unfold C_RW_hidden at hp
  split at hp
  · exact (T_Field_look hp).up (Nat.le_of_ble_eq_true rfl)
  · exact (T_Field_hiddenInches hp).up (Nat.le_of_ble_eq_true rfl)
  · exact (T_Light_standByTerms hp).up (Nat.le_of_ble_eq_true rfl)
  · exact (T_Road_hasThing hp).up (Nat.le_of_ble_eq_true rfl)
  · exact (T_Road_inchesThere hp).up (Nat.le_of_ble_eq_true rfl)
  · cases hp
set_option maxRecDepth 100000 in
theorem T_RW_hidden_0 {d : Nat} (hC : ∀ k as σ p, C_RW_hidden k as σ = some p → mEx d k as σ p) {l0 l1 : Int} {σ : mS} {b : Int × mS} {r : Int × mS} (h : M_RW_hidden l0 l1 σ = some b) (hk : (fun b r => r = b) b r) : mG (d + 1) 20 0 (mInit 2 [(3, l0), (1, l1)]) [] σ r := by
  refine mblk_ok1 P_RW_hidden (F := F_RW_hidden_0) (fun b r => r = b) hC ?_ (fun v σ b r hb hk => by cases hb; exact hk) _ 0 (mInit 2 [(3, l0), (1, l1)]) [] σ b r ((E_RW_hidden_0 l0 l1 σ).trans h) hk
  intro i L st σ b r hb hk
  cases hb
set_option maxRecDepth 100000 in
theorem T_RW_hidden {l0 l1 : Int} {σ : mS} {r : Int × mS} (h : M_RW_hidden l0 l1 σ = some r) : mEx 8 20 [(3, l0), (1, l1)] σ r :=
  ⟨by rw [P_RW_hidden]; exact Nat.le_of_ble_eq_true rfl, by rw [P_RW_hidden]; exact T_RW_hidden_0 TC_RW_hidden h rfl⟩
set_option maxRecDepth 100000 in
theorem P_Field_waterAngles : mProg 176 = (c_Field_waterAngles, 3) := rfl
set_option maxRecDepth 100000 in
theorem TC_Field_waterAngles : ∀ k as σ p, C_Field_waterAngles k as σ = some p → mEx 0 k as σ p := by
  intro k as σ p hp
  cases hp
set_option maxRecDepth 100000 in
theorem TB_Field_waterAngles_4 {d : Nat} (hC : ∀ k as σ p, C_Field_waterAngles k as σ = some p → mEx d k as σ p) {l0 l1 l2 : Int} {σ : mS} {b : ((Int × Int × mS) ⊕ (Int × mS))} {r : Int × mS} (h : B_Field_waterAngles_4 l0 l1 l2 σ = some b) (hk : (Sum.elim (fun (s : Int × Int × mS) r => mG (d + 1) 176 4 [(3, l0), (1, s.1), (1, s.2.1)] [] s.2.2 r) (fun b r => r = b)) b r) : mG (d + 1) 176 4 [(3, l0), (1, l1), (1, l2)] [] σ r := by
  refine mblk_ok2 P_Field_waterAngles (F := F_Field_waterAngles_4) (Sum.elim (fun (s : Int × Int × mS) r => mG (d + 1) 176 4 [(3, l0), (1, s.1), (1, s.2.1)] [] s.2.2 r) (fun b r => r = b)) [([(4, 15)], [0])] [(4, 17)] [(3, l0), (1, l1), (1, l2)] (by decide +kernel) rfl hC ?_ (fun v σ b r hb hk => by cases hb; exact hk) _ 4 [(3, l0), (1, l1), (1, l2)] [] σ b r rfl (mJ_self _ _ _) ((E_Field_waterAngles_4 l0 l1 l2 σ).trans h) hk
  intro i L st σ b r hj hb hk
  unfold F_Field_waterAngles_4 at hb
  split at hb
  · have key : ∀ (k0 k1 k2 : Int) (σ : mS) (b : ((Int × Int × mS) ⊕ (Int × mS))) (r : Int × mS), mJ [(3, l0), (1, l1), (1, l2)] 4 [(3, k0), (1, k1), (1, k2)] [([(4, 15)], [0])] → (some (.inl (k1, k2, σ))) = some b → (Sum.elim (fun (s : Int × Int × mS) r => mG (d + 1) 176 4 [(3, l0), (1, s.1), (1, s.2.1)] [] s.2.2 r) (fun b r => r = b)) b r → mG (d + 1) 176 4 [(3, k0), (1, k1), (1, k2)] [] σ r := by
      intro k0 k1 k2 σ b r hj hb hk
      have e0 : k0 = l0 := (Prod.mk.inj (Option.some.inj ((hj.1 rfl).1))).2
      subst e0
      cases hb
      exact mG.lle hk (lle_cons (lle_cons (lle_cons lle_nil)))
    exact key _ _ _ σ b r hj hb hk
  · cases hb
set_option maxRecDepth 100000 in
theorem T_Field_waterAngles_4 {d : Nat} (hC : ∀ k as σ p, C_Field_waterAngles k as σ = some p → mEx d k as σ p) {l0 l1 l2 : Int} {σ : mS} {b : Int × mS} {r : Int × mS} (h : M_Field_waterAngles_4 l0 l1 l2 σ = some b) (hk : (fun b r => r = b) b r) : mG (d + 1) 176 4 [(3, l0), (1, l1), (1, l2)] [] σ r :=
  miter_ok (G := fun (s : Int × Int × mS) r => mG (d + 1) 176 4 [(3, l0), (1, s.1), (1, s.2.1)] [] s.2.2 r) (K := (fun b r => r = b)) (fun s x r hs hx => TB_Field_waterAngles_4 hC hs hx) mN _ b r h hk
set_option maxRecDepth 100000 in
theorem T_Field_waterAngles_0 {d : Nat} (hC : ∀ k as σ p, C_Field_waterAngles k as σ = some p → mEx d k as σ p) {l0 : Int} {σ : mS} {b : Int × mS} {r : Int × mS} (h : M_Field_waterAngles l0 σ = some b) (hk : (fun b r => r = b) b r) : mG (d + 1) 176 0 (mInit 3 [(3, l0)]) [] σ r := by
  refine mblk_ok1 P_Field_waterAngles (F := F_Field_waterAngles_0) (fun b r => r = b) hC ?_ (fun v σ b r hb hk => by cases hb; exact hk) _ 0 (mInit 3 [(3, l0)]) [] σ b r ((E_Field_waterAngles_0 l0 σ).trans h) hk
  intro i L st σ b r hb hk
  unfold F_Field_waterAngles_0 at hb
  split at hb
  · have key : ∀ (k0 k1 k2 : Int) (σ : mS) (b : Int × mS) (r : Int × mS), (M_Field_waterAngles_4 k0 k1 k2 σ) = some b → (fun b r => r = b) b r → mG (d + 1) 176 4 [(3, k0), (1, k1), (1, k2)] [] σ r := by
      intro k0 k1 k2 σ b r hb hk
      exact (T_Field_waterAngles_4 hC hb hk).lle (lle_cons (lle_cons (lle_cons lle_nil)))
    exact key _ _ _ σ b r hb hk
  · cases hb
set_option maxRecDepth 100000 in
theorem T_Field_waterAngles {l0 : Int} {σ : mS} {r : Int × mS} (h : M_Field_waterAngles l0 σ = some r) : mEx 1 176 [(3, l0)] σ r :=
  ⟨by rw [P_Field_waterAngles]; exact Nat.le_of_ble_eq_true rfl, by rw [P_Field_waterAngles]; exact T_Field_waterAngles_0 TC_Field_waterAngles h rfl⟩
set_option maxRecDepth 100000 in
theorem P_Field_highestWater : mProg 177 = (c_Field_highestWater, 2) := rfl
set_option maxRecDepth 100000 in
theorem TC_Field_highestWater : ∀ k as σ p, C_Field_highestWater k as σ = some p → mEx 0 k as σ p := by
  intro k as σ p hp
  cases hp
set_option maxRecDepth 100000 in
theorem TB_Field_highestWater_2 {d : Nat} (hC : ∀ k as σ p, C_Field_highestWater k as σ = some p → mEx d k as σ p) {l0 l1 : Int} {σ : mS} {b : ((Int × mS) ⊕ (Int × mS))} {r : Int × mS} (h : B_Field_highestWater_2 l0 l1 σ = some b) (hk : (Sum.elim (fun (s : Int × mS) r => mG (d + 1) 177 2 [(3, l0), (1, s.1)] [] s.2 r) (fun b r => r = b)) b r) : mG (d + 1) 177 2 [(3, l0), (1, l1)] [] σ r := by
  refine mblk_ok2 P_Field_highestWater (F := F_Field_highestWater_2) (Sum.elim (fun (s : Int × mS) r => mG (d + 1) 177 2 [(3, l0), (1, s.1)] [] s.2 r) (fun b r => r = b)) [([(2, 9), (14, 15)], [0])] [(2, 17)] [(3, l0), (1, l1)] (by decide +kernel) rfl hC ?_ (fun v σ b r hb hk => by cases hb; exact hk) _ 2 [(3, l0), (1, l1)] [] σ b r rfl (mJ_self _ _ _) ((E_Field_highestWater_2 l0 l1 σ).trans h) hk
  intro i L st σ b r hj hb hk
  unfold F_Field_highestWater_2 at hb
  split at hb
  · have key : ∀ (k0 k1 : Int) (σ : mS) (b : ((Int × mS) ⊕ (Int × mS))) (r : Int × mS), mJ [(3, l0), (1, l1)] 2 [(3, k0), (1, k1)] [([(2, 9), (14, 15)], [0])] → (some (.inl (k1, σ))) = some b → (Sum.elim (fun (s : Int × mS) r => mG (d + 1) 177 2 [(3, l0), (1, s.1)] [] s.2 r) (fun b r => r = b)) b r → mG (d + 1) 177 2 [(3, k0), (1, k1)] [] σ r := by
      intro k0 k1 σ b r hj hb hk
      have e0 : k0 = l0 := (Prod.mk.inj (Option.some.inj ((hj.1 rfl).1))).2
      subst e0
      cases hb
      exact mG.lle hk (lle_cons (lle_cons lle_nil))
    exact key _ _ σ b r hj hb hk
  · cases hb
set_option maxRecDepth 100000 in
theorem T_Field_highestWater_2 {d : Nat} (hC : ∀ k as σ p, C_Field_highestWater k as σ = some p → mEx d k as σ p) {l0 l1 : Int} {σ : mS} {b : Int × mS} {r : Int × mS} (h : M_Field_highestWater_2 l0 l1 σ = some b) (hk : (fun b r => r = b) b r) : mG (d + 1) 177 2 [(3, l0), (1, l1)] [] σ r :=
  miter_ok (G := fun (s : Int × mS) r => mG (d + 1) 177 2 [(3, l0), (1, s.1)] [] s.2 r) (K := (fun b r => r = b)) (fun s x r hs hx => TB_Field_highestWater_2 hC hs hx) mN _ b r h hk
set_option maxRecDepth 100000 in
theorem T_Field_highestWater_0 {d : Nat} (hC : ∀ k as σ p, C_Field_highestWater k as σ = some p → mEx d k as σ p) {l0 : Int} {σ : mS} {b : Int × mS} {r : Int × mS} (h : M_Field_highestWater l0 σ = some b) (hk : (fun b r => r = b) b r) : mG (d + 1) 177 0 (mInit 2 [(3, l0)]) [] σ r := by
  refine mblk_ok1 P_Field_highestWater (F := F_Field_highestWater_0) (fun b r => r = b) hC ?_ (fun v σ b r hb hk => by cases hb; exact hk) _ 0 (mInit 2 [(3, l0)]) [] σ b r ((E_Field_highestWater_0 l0 σ).trans h) hk
  intro i L st σ b r hb hk
  unfold F_Field_highestWater_0 at hb
  split at hb
  · have key : ∀ (k0 k1 : Int) (σ : mS) (b : Int × mS) (r : Int × mS), (M_Field_highestWater_2 k0 k1 σ) = some b → (fun b r => r = b) b r → mG (d + 1) 177 2 [(3, k0), (1, k1)] [] σ r := by
      intro k0 k1 σ b r hb hk
      exact (T_Field_highestWater_2 hC hb hk).lle (lle_cons (lle_cons lle_nil))
    exact key _ _ σ b r hb hk
  · cases hb
set_option maxRecDepth 100000 in
theorem T_Field_highestWater {l0 : Int} {σ : mS} {r : Int × mS} (h : M_Field_highestWater l0 σ = some r) : mEx 1 177 [(3, l0)] σ r :=
  ⟨by rw [P_Field_highestWater]; exact Nat.le_of_ble_eq_true rfl, by rw [P_Field_highestWater]; exact T_Field_highestWater_0 TC_Field_highestWater h rfl⟩
set_option maxRecDepth 100000 in
theorem P_Field_lowestWater : mProg 178 = (c_Field_lowestWater, 2) := rfl
set_option maxRecDepth 100000 in
theorem TC_Field_lowestWater : ∀ k as σ p, C_Field_lowestWater k as σ = some p → mEx 0 k as σ p := by
  intro k as σ p hp
  cases hp
set_option maxRecDepth 100000 in
theorem TB_Field_lowestWater_2 {d : Nat} (hC : ∀ k as σ p, C_Field_lowestWater k as σ = some p → mEx d k as σ p) {l0 l1 : Int} {σ : mS} {b : ((Int × mS) ⊕ (Int × mS))} {r : Int × mS} (h : B_Field_lowestWater_2 l0 l1 σ = some b) (hk : (Sum.elim (fun (s : Int × mS) r => mG (d + 1) 178 2 [(3, l0), (1, s.1)] [] s.2 r) (fun b r => r = b)) b r) : mG (d + 1) 178 2 [(3, l0), (1, l1)] [] σ r := by
  refine mblk_ok2 P_Field_lowestWater (F := F_Field_lowestWater_2) (Sum.elim (fun (s : Int × mS) r => mG (d + 1) 178 2 [(3, l0), (1, s.1)] [] s.2 r) (fun b r => r = b)) [([(2, 10), (15, 16)], [0])] [(2, 18)] [(3, l0), (1, l1)] (by decide +kernel) rfl hC ?_ (fun v σ b r hb hk => by cases hb; exact hk) _ 2 [(3, l0), (1, l1)] [] σ b r rfl (mJ_self _ _ _) ((E_Field_lowestWater_2 l0 l1 σ).trans h) hk
  intro i L st σ b r hj hb hk
  unfold F_Field_lowestWater_2 at hb
  split at hb
  · have key : ∀ (k0 k1 : Int) (σ : mS) (b : ((Int × mS) ⊕ (Int × mS))) (r : Int × mS), mJ [(3, l0), (1, l1)] 2 [(3, k0), (1, k1)] [([(2, 10), (15, 16)], [0])] → (some (.inl (k1, σ))) = some b → (Sum.elim (fun (s : Int × mS) r => mG (d + 1) 178 2 [(3, l0), (1, s.1)] [] s.2 r) (fun b r => r = b)) b r → mG (d + 1) 178 2 [(3, k0), (1, k1)] [] σ r := by
      intro k0 k1 σ b r hj hb hk
      have e0 : k0 = l0 := (Prod.mk.inj (Option.some.inj ((hj.1 rfl).1))).2
      subst e0
      cases hb
      exact mG.lle hk (lle_cons (lle_cons lle_nil))
    exact key _ _ σ b r hj hb hk
  · cases hb
set_option maxRecDepth 100000 in
theorem T_Field_lowestWater_2 {d : Nat} (hC : ∀ k as σ p, C_Field_lowestWater k as σ = some p → mEx d k as σ p) {l0 l1 : Int} {σ : mS} {b : Int × mS} {r : Int × mS} (h : M_Field_lowestWater_2 l0 l1 σ = some b) (hk : (fun b r => r = b) b r) : mG (d + 1) 178 2 [(3, l0), (1, l1)] [] σ r :=
  miter_ok (G := fun (s : Int × mS) r => mG (d + 1) 178 2 [(3, l0), (1, s.1)] [] s.2 r) (K := (fun b r => r = b)) (fun s x r hs hx => TB_Field_lowestWater_2 hC hs hx) mN _ b r h hk
set_option maxRecDepth 100000 in
theorem T_Field_lowestWater_0 {d : Nat} (hC : ∀ k as σ p, C_Field_lowestWater k as σ = some p → mEx d k as σ p) {l0 : Int} {σ : mS} {b : Int × mS} {r : Int × mS} (h : M_Field_lowestWater l0 σ = some b) (hk : (fun b r => r = b) b r) : mG (d + 1) 178 0 (mInit 2 [(3, l0)]) [] σ r := by
  refine mblk_ok1 P_Field_lowestWater (F := F_Field_lowestWater_0) (fun b r => r = b) hC ?_ (fun v σ b r hb hk => by cases hb; exact hk) _ 0 (mInit 2 [(3, l0)]) [] σ b r ((E_Field_lowestWater_0 l0 σ).trans h) hk
  intro i L st σ b r hb hk
  unfold F_Field_lowestWater_0 at hb
  split at hb
  · have key : ∀ (k0 k1 : Int) (σ : mS) (b : Int × mS) (r : Int × mS), (M_Field_lowestWater_2 k0 k1 σ) = some b → (fun b r => r = b) b r → mG (d + 1) 178 2 [(3, k0), (1, k1)] [] σ r := by
      intro k0 k1 σ b r hb hk
      exact (T_Field_lowestWater_2 hC hb hk).lle (lle_cons (lle_cons lle_nil))
    exact key _ _ σ b r hb hk
  · cases hb
set_option maxRecDepth 100000 in
theorem T_Field_lowestWater {l0 : Int} {σ : mS} {r : Int × mS} (h : M_Field_lowestWater l0 σ = some r) : mEx 1 178 [(3, l0)] σ r :=
  ⟨by rw [P_Field_lowestWater]; exact Nat.le_of_ble_eq_true rfl, by rw [P_Field_lowestWater]; exact T_Field_lowestWater_0 TC_Field_lowestWater h rfl⟩
set_option maxRecDepth 100000 in
theorem P_RW_water : mProg 21 = (c_RW_water, 3) := rfl
set_option maxRecDepth 100000 in
theorem TC_RW_water : ∀ k as σ p, C_RW_water k as σ = some p → mEx 7 k as σ p := by
  intro k as σ p hp
  unfold C_RW_water at hp
  split at hp
  · exact (T_Field_look hp).up (Nat.le_of_ble_eq_true rfl)
  · exact (T_Field_waterAngles hp).up (Nat.le_of_ble_eq_true rfl)
  · exact (T_Field_highestWater hp).up (Nat.le_of_ble_eq_true rfl)
  · exact (T_Field_lowestWater hp).up (Nat.le_of_ble_eq_true rfl)
  · exact (T_Light_standByTerms hp).up (Nat.le_of_ble_eq_true rfl)
  · exact (T_Light_send hp).up (Nat.le_of_ble_eq_true rfl)
  · exact (T_Light_lowestPlace hp).up (Nat.le_of_ble_eq_true rfl)
  · cases hp
set_option maxRecDepth 100000 in
theorem T_RW_water_0 {d : Nat} (hC : ∀ k as σ p, C_RW_water k as σ = some p → mEx d k as σ p) {l0 l1 : Int} {σ : mS} {b : Int × mS} {r : Int × mS} (h : M_RW_water l0 l1 σ = some b) (hk : (fun b r => r = b) b r) : mG (d + 1) 21 0 (mInit 3 [(3, l0), (1, l1)]) [] σ r := by
  refine mblk_ok1 P_RW_water (F := F_RW_water_0) (fun b r => r = b) hC ?_ (fun v σ b r hb hk => by cases hb; exact hk) _ 0 (mInit 3 [(3, l0), (1, l1)]) [] σ b r ((E_RW_water_0 l0 l1 σ).trans h) hk
  intro i L st σ b r hb hk
  cases hb
set_option maxRecDepth 100000 in
theorem T_RW_water {l0 l1 : Int} {σ : mS} {r : Int × mS} (h : M_RW_water l0 l1 σ = some r) : mEx 8 21 [(3, l0), (1, l1)] σ r :=
  ⟨by rw [P_RW_water]; exact Nat.le_of_ble_eq_true rfl, by rw [P_RW_water]; exact T_RW_water_0 TC_RW_water h rfl⟩
set_option maxRecDepth 100000 in
theorem P_Field_highestToGround : mProg 179 = (c_Field_highestToGround, 2) := rfl
set_option maxRecDepth 100000 in
theorem TC_Field_highestToGround : ∀ k as σ p, C_Field_highestToGround k as σ = some p → mEx 0 k as σ p := by
  intro k as σ p hp
  cases hp
set_option maxRecDepth 100000 in
theorem TB_Field_highestToGround_2 {d : Nat} (hC : ∀ k as σ p, C_Field_highestToGround k as σ = some p → mEx d k as σ p) {l0 l1 : Int} {σ : mS} {b : ((Int × mS) ⊕ (Int × mS))} {r : Int × mS} (h : B_Field_highestToGround_2 l0 l1 σ = some b) (hk : (Sum.elim (fun (s : Int × mS) r => mG (d + 1) 179 2 [(3, l0), (1, s.1)] [] s.2 r) (fun b r => r = b)) b r) : mG (d + 1) 179 2 [(3, l0), (1, l1)] [] σ r := by
  refine mblk_ok2 P_Field_highestToGround (F := F_Field_highestToGround_2) (Sum.elim (fun (s : Int × mS) r => mG (d + 1) 179 2 [(3, l0), (1, s.1)] [] s.2 r) (fun b r => r = b)) [([(2, 8), (13, 14)], [0])] [(2, 16)] [(3, l0), (1, l1)] (by decide +kernel) rfl hC ?_ (fun v σ b r hb hk => by cases hb; exact hk) _ 2 [(3, l0), (1, l1)] [] σ b r rfl (mJ_self _ _ _) ((E_Field_highestToGround_2 l0 l1 σ).trans h) hk
  intro i L st σ b r hj hb hk
  unfold F_Field_highestToGround_2 at hb
  split at hb
  · have key : ∀ (k0 k1 : Int) (σ : mS) (b : ((Int × mS) ⊕ (Int × mS))) (r : Int × mS), mJ [(3, l0), (1, l1)] 2 [(3, k0), (1, k1)] [([(2, 8), (13, 14)], [0])] → (some (.inl (k1, σ))) = some b → (Sum.elim (fun (s : Int × mS) r => mG (d + 1) 179 2 [(3, l0), (1, s.1)] [] s.2 r) (fun b r => r = b)) b r → mG (d + 1) 179 2 [(3, k0), (1, k1)] [] σ r := by
      intro k0 k1 σ b r hj hb hk
      have e0 : k0 = l0 := (Prod.mk.inj (Option.some.inj ((hj.1 rfl).1))).2
      subst e0
      cases hb
      exact mG.lle hk (lle_cons (lle_cons lle_nil))
    exact key _ _ σ b r hj hb hk
  · cases hb
set_option maxRecDepth 100000 in
theorem T_Field_highestToGround_2 {d : Nat} (hC : ∀ k as σ p, C_Field_highestToGround k as σ = some p → mEx d k as σ p) {l0 l1 : Int} {σ : mS} {b : Int × mS} {r : Int × mS} (h : M_Field_highestToGround_2 l0 l1 σ = some b) (hk : (fun b r => r = b) b r) : mG (d + 1) 179 2 [(3, l0), (1, l1)] [] σ r :=
  miter_ok (G := fun (s : Int × mS) r => mG (d + 1) 179 2 [(3, l0), (1, s.1)] [] s.2 r) (K := (fun b r => r = b)) (fun s x r hs hx => TB_Field_highestToGround_2 hC hs hx) mN _ b r h hk
set_option maxRecDepth 100000 in
theorem T_Field_highestToGround_0 {d : Nat} (hC : ∀ k as σ p, C_Field_highestToGround k as σ = some p → mEx d k as σ p) {l0 : Int} {σ : mS} {b : Int × mS} {r : Int × mS} (h : M_Field_highestToGround l0 σ = some b) (hk : (fun b r => r = b) b r) : mG (d + 1) 179 0 (mInit 2 [(3, l0)]) [] σ r := by
  refine mblk_ok1 P_Field_highestToGround (F := F_Field_highestToGround_0) (fun b r => r = b) hC ?_ (fun v σ b r hb hk => by cases hb; exact hk) _ 0 (mInit 2 [(3, l0)]) [] σ b r ((E_Field_highestToGround_0 l0 σ).trans h) hk
  intro i L st σ b r hb hk
  unfold F_Field_highestToGround_0 at hb
  split at hb
  · have key : ∀ (k0 k1 : Int) (σ : mS) (b : Int × mS) (r : Int × mS), (M_Field_highestToGround_2 k0 k1 σ) = some b → (fun b r => r = b) b r → mG (d + 1) 179 2 [(3, k0), (1, k1)] [] σ r := by
      intro k0 k1 σ b r hb hk
      exact (T_Field_highestToGround_2 hC hb hk).lle (lle_cons (lle_cons lle_nil))
    exact key _ _ σ b r hb hk
  · cases hb
set_option maxRecDepth 100000 in
theorem T_Field_highestToGround {l0 : Int} {σ : mS} {r : Int × mS} (h : M_Field_highestToGround l0 σ = some r) : mEx 1 179 [(3, l0)] σ r :=
  ⟨by rw [P_Field_highestToGround]; exact Nat.le_of_ble_eq_true rfl, by rw [P_Field_highestToGround]; exact T_Field_highestToGround_0 TC_Field_highestToGround h rfl⟩
set_option maxRecDepth 100000 in
theorem P_RW_horizon : mProg 22 = (c_RW_horizon, 1) := rfl
set_option maxRecDepth 100000 in
theorem TC_RW_horizon : ∀ k as σ p, C_RW_horizon k as σ = some p → mEx 7 k as σ p := by
  intro k as σ p hp
  unfold C_RW_horizon at hp
  split at hp
  · exact (T_Field_look hp).up (Nat.le_of_ble_eq_true rfl)
  · exact (T_Field_highestToGround hp).up (Nat.le_of_ble_eq_true rfl)
  · exact (T_Light_standByTerms hp).up (Nat.le_of_ble_eq_true rfl)
  · cases hp
set_option maxRecDepth 100000 in
theorem T_RW_horizon_0 {d : Nat} (hC : ∀ k as σ p, C_RW_horizon k as σ = some p → mEx d k as σ p) {l0 : Int} {σ : mS} {b : Int × mS} {r : Int × mS} (h : M_RW_horizon l0 σ = some b) (hk : (fun b r => r = b) b r) : mG (d + 1) 22 0 (mInit 1 [(3, l0)]) [] σ r := by
  refine mblk_ok1 P_RW_horizon (F := F_RW_horizon_0) (fun b r => r = b) hC ?_ (fun v σ b r hb hk => by cases hb; exact hk) _ 0 (mInit 1 [(3, l0)]) [] σ b r ((E_RW_horizon_0 l0 σ).trans h) hk
  intro i L st σ b r hb hk
  cases hb
set_option maxRecDepth 100000 in
theorem T_RW_horizon {l0 : Int} {σ : mS} {r : Int × mS} (h : M_RW_horizon l0 σ = some r) : mEx 8 22 [(3, l0)] σ r :=
  ⟨by rw [P_RW_horizon]; exact Nat.le_of_ble_eq_true rfl, by rw [P_RW_horizon]; exact T_RW_horizon_0 TC_RW_horizon h rfl⟩
set_option maxRecDepth 100000 in
theorem P_Field_lowestTo : mProg 180 = (c_Field_lowestTo, 4) := rfl
set_option maxRecDepth 100000 in
theorem TC_Field_lowestTo : ∀ k as σ p, C_Field_lowestTo k as σ = some p → mEx 0 k as σ p := by
  intro k as σ p hp
  cases hp
set_option maxRecDepth 100000 in
theorem TB_Field_lowestTo_2 {d : Nat} (hC : ∀ k as σ p, C_Field_lowestTo k as σ = some p → mEx d k as σ p) {l0 l1 l2 l3 : Int} {σ : mS} {b : ((Int × mS) ⊕ (Int × mS))} {r : Int × mS} (h : B_Field_lowestTo_2 l0 l1 l2 l3 σ = some b) (hk : (Sum.elim (fun (s : Int × mS) r => mG (d + 1) 180 2 [(3, l0), (1, l1), (1, l2), (1, s.1)] [] s.2 r) (fun b r => r = b)) b r) : mG (d + 1) 180 2 [(3, l0), (1, l1), (1, l2), (1, l3)] [] σ r := by
  refine mblk_ok2 P_Field_lowestTo (F := F_Field_lowestTo_2) (Sum.elim (fun (s : Int × mS) r => mG (d + 1) 180 2 [(3, l0), (1, l1), (1, l2), (1, s.1)] [] s.2 r) (fun b r => r = b)) [([(2, 16), (21, 22)], [0, 1, 2])] [(2, 24)] [(3, l0), (1, l1), (1, l2), (1, l3)] (by decide +kernel) rfl hC ?_ (fun v σ b r hb hk => by cases hb; exact hk) _ 2 [(3, l0), (1, l1), (1, l2), (1, l3)] [] σ b r rfl (mJ_self _ _ _) ((E_Field_lowestTo_2 l0 l1 l2 l3 σ).trans h) hk
  intro i L st σ b r hj hb hk
  unfold F_Field_lowestTo_2 at hb
  split at hb
  · have key : ∀ (k0 k1 k2 k3 : Int) (σ : mS) (b : ((Int × mS) ⊕ (Int × mS))) (r : Int × mS), mJ [(3, l0), (1, l1), (1, l2), (1, l3)] 2 [(3, k0), (1, k1), (1, k2), (1, k3)] [([(2, 16), (21, 22)], [0, 1, 2])] → (some (.inl (k3, σ))) = some b → (Sum.elim (fun (s : Int × mS) r => mG (d + 1) 180 2 [(3, l0), (1, l1), (1, l2), (1, s.1)] [] s.2 r) (fun b r => r = b)) b r → mG (d + 1) 180 2 [(3, k0), (1, k1), (1, k2), (1, k3)] [] σ r := by
      intro k0 k1 k2 k3 σ b r hj hb hk
      have e0 : k0 = l0 := (Prod.mk.inj (Option.some.inj ((hj.1 rfl).1))).2
      subst e0
      have e1 : k1 = l1 := (Prod.mk.inj (Option.some.inj ((hj.1 rfl).2.1))).2
      subst e1
      have e2 : k2 = l2 := (Prod.mk.inj (Option.some.inj ((hj.1 rfl).2.2.1))).2
      subst e2
      cases hb
      exact mG.lle hk (lle_cons (lle_cons (lle_cons (lle_cons lle_nil))))
    exact key _ _ _ _ σ b r hj hb hk
  · cases hb
set_option maxRecDepth 100000 in
theorem T_Field_lowestTo_2 {d : Nat} (hC : ∀ k as σ p, C_Field_lowestTo k as σ = some p → mEx d k as σ p) {l0 l1 l2 l3 : Int} {σ : mS} {b : Int × mS} {r : Int × mS} (h : M_Field_lowestTo_2 l0 l1 l2 l3 σ = some b) (hk : (fun b r => r = b) b r) : mG (d + 1) 180 2 [(3, l0), (1, l1), (1, l2), (1, l3)] [] σ r :=
  miter_ok (G := fun (s : Int × mS) r => mG (d + 1) 180 2 [(3, l0), (1, l1), (1, l2), (1, s.1)] [] s.2 r) (K := (fun b r => r = b)) (fun s x r hs hx => TB_Field_lowestTo_2 hC hs hx) mN _ b r h hk
set_option maxRecDepth 100000 in
theorem T_Field_lowestTo_0 {d : Nat} (hC : ∀ k as σ p, C_Field_lowestTo k as σ = some p → mEx d k as σ p) {l0 l1 l2 : Int} {σ : mS} {b : Int × mS} {r : Int × mS} (h : M_Field_lowestTo l0 l1 l2 σ = some b) (hk : (fun b r => r = b) b r) : mG (d + 1) 180 0 (mInit 4 [(3, l0), (1, l1), (1, l2)]) [] σ r := by
  refine mblk_ok1 P_Field_lowestTo (F := F_Field_lowestTo_0) (fun b r => r = b) hC ?_ (fun v σ b r hb hk => by cases hb; exact hk) _ 0 (mInit 4 [(3, l0), (1, l1), (1, l2)]) [] σ b r ((E_Field_lowestTo_0 l0 l1 l2 σ).trans h) hk
  intro i L st σ b r hb hk
  unfold F_Field_lowestTo_0 at hb
  split at hb
  · have key : ∀ (k0 k1 k2 k3 : Int) (σ : mS) (b : Int × mS) (r : Int × mS), (M_Field_lowestTo_2 k0 k1 k2 k3 σ) = some b → (fun b r => r = b) b r → mG (d + 1) 180 2 [(3, k0), (1, k1), (1, k2), (1, k3)] [] σ r := by
      intro k0 k1 k2 k3 σ b r hb hk
      exact (T_Field_lowestTo_2 hC hb hk).lle (lle_cons (lle_cons (lle_cons (lle_cons lle_nil))))
    exact key _ _ _ _ σ b r hb hk
  · cases hb
set_option maxRecDepth 100000 in
theorem T_Field_lowestTo {l0 l1 l2 : Int} {σ : mS} {r : Int × mS} (h : M_Field_lowestTo l0 l1 l2 σ = some r) : mEx 1 180 [(3, l0), (1, l1), (1, l2)] σ r :=
  ⟨by rw [P_Field_lowestTo]; exact Nat.le_of_ble_eq_true rfl, by rw [P_Field_lowestTo]; exact T_Field_lowestTo_0 TC_Field_lowestTo h rfl⟩
set_option maxRecDepth 100000 in
theorem P_RW_aim : mProg 23 = (c_RW_aim, 3) := rfl
set_option maxRecDepth 100000 in
theorem TC_RW_aim : ∀ k as σ p, C_RW_aim k as σ = some p → mEx 7 k as σ p := by
  intro k as σ p hp
  unfold C_RW_aim at hp
  split at hp
  · exact (T_Field_look hp).up (Nat.le_of_ble_eq_true rfl)
  · exact (T_Field_lowestTo hp).up (Nat.le_of_ble_eq_true rfl)
  · exact (T_Light_standByTerms hp).up (Nat.le_of_ble_eq_true rfl)
  · exact (T_Road_hasThing hp).up (Nat.le_of_ble_eq_true rfl)
  · cases hp
set_option maxRecDepth 100000 in
theorem T_RW_aim_0 {d : Nat} (hC : ∀ k as σ p, C_RW_aim k as σ = some p → mEx d k as σ p) {l0 l1 l2 : Int} {σ : mS} {b : Int × mS} {r : Int × mS} (h : M_RW_aim l0 l1 l2 σ = some b) (hk : (fun b r => r = b) b r) : mG (d + 1) 23 0 (mInit 3 [(3, l0), (1, l1), (1, l2)]) [] σ r := by
  refine mblk_ok1 P_RW_aim (F := F_RW_aim_0) (fun b r => r = b) hC ?_ (fun v σ b r hb hk => by cases hb; exact hk) _ 0 (mInit 3 [(3, l0), (1, l1), (1, l2)]) [] σ b r ((E_RW_aim_0 l0 l1 l2 σ).trans h) hk
  intro i L st σ b r hb hk
  cases hb
set_option maxRecDepth 100000 in
theorem T_RW_aim {l0 l1 l2 : Int} {σ : mS} {r : Int × mS} (h : M_RW_aim l0 l1 l2 σ = some r) : mEx 8 23 [(3, l0), (1, l1), (1, l2)] σ r :=
  ⟨by rw [P_RW_aim]; exact Nat.le_of_ble_eq_true rfl, by rw [P_RW_aim]; exact T_RW_aim_0 TC_RW_aim h rfl⟩
set_option maxRecDepth 100000 in
theorem P_RW_loom : mProg 24 = (c_RW_loom, 5) := rfl
set_option maxRecDepth 100000 in
theorem TC_RW_loom : ∀ k as σ p, C_RW_loom k as σ = some p → mEx 7 k as σ p := by
  intro k as σ p hp
  unfold C_RW_loom at hp
  split at hp
  · exact (T_Field_look hp).up (Nat.le_of_ble_eq_true rfl)
  · exact (T_Field_lowestTo hp).up (Nat.le_of_ble_eq_true rfl)
  · exact (T_Light_standByTerms hp).up (Nat.le_of_ble_eq_true rfl)
  · exact (T_Road_hasThing hp).up (Nat.le_of_ble_eq_true rfl)
  · cases hp
set_option maxRecDepth 100000 in
theorem T_RW_loom_0 {d : Nat} (hC : ∀ k as σ p, C_RW_loom k as σ = some p → mEx d k as σ p) {l0 l1 l2 : Int} {σ : mS} {b : Int × mS} {r : Int × mS} (h : M_RW_loom l0 l1 l2 σ = some b) (hk : (fun b r => r = b) b r) : mG (d + 1) 24 0 (mInit 5 [(3, l0), (1, l1), (1, l2)]) [] σ r := by
  refine mblk_ok1 P_RW_loom (F := F_RW_loom_0) (fun b r => r = b) hC ?_ (fun v σ b r hb hk => by cases hb; exact hk) _ 0 (mInit 5 [(3, l0), (1, l1), (1, l2)]) [] σ b r ((E_RW_loom_0 l0 l1 l2 σ).trans h) hk
  intro i L st σ b r hb hk
  cases hb
set_option maxRecDepth 100000 in
theorem T_RW_loom {l0 l1 l2 : Int} {σ : mS} {r : Int × mS} (h : M_RW_loom l0 l1 l2 σ = some r) : mEx 8 24 [(3, l0), (1, l1), (1, l2)] σ r :=
  ⟨by rw [P_RW_loom]; exact Nat.le_of_ble_eq_true rfl, by rw [P_RW_loom]; exact T_RW_loom_0 TC_RW_loom h rfl⟩
set_option maxRecDepth 100000 in
theorem P_RW_shade : mProg 25 = (c_RW_shade, 4) := rfl
set_option maxRecDepth 100000 in
theorem TC_RW_shade : ∀ k as σ p, C_RW_shade k as σ = some p → mEx 6 k as σ p := by
  intro k as σ p hp
  unfold C_RW_shade at hp
  split at hp
  · exact (T_RW_isPlace hp).up (Nat.le_of_ble_eq_true rfl)
  · exact (T_Light_standByTerms hp).up (Nat.le_of_ble_eq_true rfl)
  · exact (T_Light_send hp).up (Nat.le_of_ble_eq_true rfl)
  · exact (T_Light_comesTo hp).up (Nat.le_of_ble_eq_true rfl)
  · cases hp
set_option maxRecDepth 100000 in
theorem T_RW_shade_47 {d : Nat} (hC : ∀ k as σ p, C_RW_shade k as σ = some p → mEx d k as σ p) {l0 l1 l3 : Int} {σ : mS} {b : ((Int × Int × mS) ⊕ (Int × mS))} {r : Int × mS} (h : M_RW_shade_47 l0 l1 l3 σ = some b) (hk : (Sum.elim (fun (s : Int × Int × mS) r => mG (d + 1) 25 12 [(3, l0), (1, l1), (1, s.1), (1, s.2.1)] [] s.2.2 r) (fun b r => r = b)) b r) : mG (d + 1) 25 47 [(3, l0), (1, l1), (0, 0), (1, l3)] [] σ r := by
  refine mblk_ok2 P_RW_shade (F := F_RW_shade_47) (Sum.elim (fun (s : Int × Int × mS) r => mG (d + 1) 25 12 [(3, l0), (1, l1), (1, s.1), (1, s.2.1)] [] s.2.2 r) (fun b r => r = b)) [([(12, 54)], [0, 1])] [(47, 54)] [(3, l0), (1, l1), (0, 0), (1, l3)] (by decide +kernel) rfl hC ?_ (fun v σ b r hb hk => by cases hb; exact hk) _ 47 [(3, l0), (1, l1), (0, 0), (1, l3)] [] σ b r rfl (mJ_self _ _ _) ((E_RW_shade_47 l0 l1 l3 σ).trans h) hk
  intro i L st σ b r hj hb hk
  unfold F_RW_shade_47 at hb
  split at hb
  · have key : ∀ (k0 k1 k2 k3 : Int) (σ : mS) (b : ((Int × Int × mS) ⊕ (Int × mS))) (r : Int × mS), mJ [(3, l0), (1, l1), (0, 0), (1, l3)] 12 [(3, k0), (1, k1), (1, k2), (1, k3)] [([(12, 54)], [0, 1])] → (some (.inl (k2, k3, σ))) = some b → (Sum.elim (fun (s : Int × Int × mS) r => mG (d + 1) 25 12 [(3, l0), (1, l1), (1, s.1), (1, s.2.1)] [] s.2.2 r) (fun b r => r = b)) b r → mG (d + 1) 25 12 [(3, k0), (1, k1), (1, k2), (1, k3)] [] σ r := by
      intro k0 k1 k2 k3 σ b r hj hb hk
      have e0 : k0 = l0 := (Prod.mk.inj (Option.some.inj ((hj.1 rfl).1))).2
      subst e0
      have e1 : k1 = l1 := (Prod.mk.inj (Option.some.inj ((hj.1 rfl).2.1))).2
      subst e1
      cases hb
      exact mG.lle hk (lle_cons (lle_cons (lle_cons (lle_cons lle_nil))))
    exact key _ _ _ _ σ b r hj hb hk
  · cases hb
set_option maxRecDepth 100000 in
theorem TB_RW_shade_12 {d : Nat} (hC : ∀ k as σ p, C_RW_shade k as σ = some p → mEx d k as σ p) {l0 l1 l2 l3 : Int} {σ : mS} {b : ((Int × Int × mS) ⊕ (Int × mS))} {r : Int × mS} (h : B_RW_shade_12 l0 l1 l2 l3 σ = some b) (hk : (Sum.elim (fun (s : Int × Int × mS) r => mG (d + 1) 25 12 [(3, l0), (1, l1), (1, s.1), (1, s.2.1)] [] s.2.2 r) (fun b r => r = b)) b r) : mG (d + 1) 25 12 [(3, l0), (1, l1), (1, l2), (1, l3)] [] σ r := by
  refine mblk_ok2 P_RW_shade (F := F_RW_shade_12) (Sum.elim (fun (s : Int × Int × mS) r => mG (d + 1) 25 12 [(3, l0), (1, l1), (1, s.1), (1, s.2.1)] [] s.2.2 r) (fun b r => r = b)) [([(12, 54)], [0, 1])] [(12, 46), (53, 56)] [(3, l0), (1, l1), (1, l2), (1, l3)] (by decide +kernel) rfl hC ?_ (fun v σ b r hb hk => by cases hb; exact hk) _ 12 [(3, l0), (1, l1), (1, l2), (1, l3)] [] σ b r rfl (mJ_self _ _ _) ((E_RW_shade_12 l0 l1 l2 l3 σ).trans h) hk
  intro i L st σ b r hj hb hk
  unfold F_RW_shade_12 at hb
  split at hb
  · have key : ∀ (k0 k1 k2 k3 : Int) (σ : mS) (b : ((Int × Int × mS) ⊕ (Int × mS))) (r : Int × mS), mJ [(3, l0), (1, l1), (1, l2), (1, l3)] 12 [(3, k0), (1, k1), (1, k2), (1, k3)] [([(12, 54)], [0, 1])] → (some (.inl (k2, k3, σ))) = some b → (Sum.elim (fun (s : Int × Int × mS) r => mG (d + 1) 25 12 [(3, l0), (1, l1), (1, s.1), (1, s.2.1)] [] s.2.2 r) (fun b r => r = b)) b r → mG (d + 1) 25 12 [(3, k0), (1, k1), (1, k2), (1, k3)] [] σ r := by
      intro k0 k1 k2 k3 σ b r hj hb hk
      have e0 : k0 = l0 := (Prod.mk.inj (Option.some.inj ((hj.1 rfl).1))).2
      subst e0
      have e1 : k1 = l1 := (Prod.mk.inj (Option.some.inj ((hj.1 rfl).2.1))).2
      subst e1
      cases hb
      exact mG.lle hk (lle_cons (lle_cons (lle_cons (lle_cons lle_nil))))
    exact key _ _ _ _ σ b r hj hb hk
  · have key : ∀ (k0 k1 k3 : Int) (k2 : mV) (σ : mS) (b : ((Int × Int × mS) ⊕ (Int × mS))) (r : Int × mS), mJ [(3, l0), (1, l1), (1, l2), (1, l3)] 47 [(3, k0), (1, k1), k2, (1, k3)] [([(12, 54)], [0, 1])] → (M_RW_shade_47 k0 k1 k3 σ) = some b → (Sum.elim (fun (s : Int × Int × mS) r => mG (d + 1) 25 12 [(3, l0), (1, l1), (1, s.1), (1, s.2.1)] [] s.2.2 r) (fun b r => r = b)) b r → mG (d + 1) 25 47 [(3, k0), (1, k1), k2, (1, k3)] [] σ r := by
      intro k0 k1 k3 k2 σ b r hj hb hk
      have e0 : k0 = l0 := (Prod.mk.inj (Option.some.inj ((hj.1 rfl).1))).2
      subst e0
      have e1 : k1 = l1 := (Prod.mk.inj (Option.some.inj ((hj.1 rfl).2.1))).2
      subst e1
      exact (T_RW_shade_47 hC hb hk).lle (lle_cons (lle_cons (lle_dead (lle_cons lle_nil))))
    exact key _ _ _ _ σ b r hj hb hk
  · cases hb
set_option maxRecDepth 100000 in
theorem T_RW_shade_12 {d : Nat} (hC : ∀ k as σ p, C_RW_shade k as σ = some p → mEx d k as σ p) {l0 l1 l2 l3 : Int} {σ : mS} {b : Int × mS} {r : Int × mS} (h : M_RW_shade_12 l0 l1 l2 l3 σ = some b) (hk : (fun b r => r = b) b r) : mG (d + 1) 25 12 [(3, l0), (1, l1), (1, l2), (1, l3)] [] σ r :=
  miter_ok (G := fun (s : Int × Int × mS) r => mG (d + 1) 25 12 [(3, l0), (1, l1), (1, s.1), (1, s.2.1)] [] s.2.2 r) (K := (fun b r => r = b)) (fun s x r hs hx => TB_RW_shade_12 hC hs hx) mN _ b r h hk
set_option maxRecDepth 100000 in
theorem T_RW_shade_0 {d : Nat} (hC : ∀ k as σ p, C_RW_shade k as σ = some p → mEx d k as σ p) {l0 l1 : Int} {σ : mS} {b : Int × mS} {r : Int × mS} (h : M_RW_shade l0 l1 σ = some b) (hk : (fun b r => r = b) b r) : mG (d + 1) 25 0 (mInit 4 [(3, l0), (1, l1)]) [] σ r := by
  refine mblk_ok1 P_RW_shade (F := F_RW_shade_0) (fun b r => r = b) hC ?_ (fun v σ b r hb hk => by cases hb; exact hk) _ 0 (mInit 4 [(3, l0), (1, l1)]) [] σ b r ((E_RW_shade_0 l0 l1 σ).trans h) hk
  intro i L st σ b r hb hk
  unfold F_RW_shade_0 at hb
  split at hb
  · have key : ∀ (k0 k1 k2 k3 : Int) (σ : mS) (b : Int × mS) (r : Int × mS), (M_RW_shade_12 k0 k1 k2 k3 σ) = some b → (fun b r => r = b) b r → mG (d + 1) 25 12 [(3, k0), (1, k1), (1, k2), (1, k3)] [] σ r := by
      intro k0 k1 k2 k3 σ b r hb hk
      exact (T_RW_shade_12 hC hb hk).lle (lle_cons (lle_cons (lle_cons (lle_cons lle_nil))))
    exact key _ _ _ _ σ b r hb hk
  · cases hb
set_option maxRecDepth 100000 in
theorem T_RW_shade {l0 l1 : Int} {σ : mS} {r : Int × mS} (h : M_RW_shade l0 l1 σ = some r) : mEx 7 25 [(3, l0), (1, l1)] σ r :=
  ⟨by rw [P_RW_shade]; exact Nat.le_of_ble_eq_true rfl, by rw [P_RW_shade]; exact T_RW_shade_0 TC_RW_shade h rfl⟩
