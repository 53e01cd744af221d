/-! the methods as functions: written by gen/emit.py -/
noncomputable section
def C_Reader_readText : Nat → List mV → mS → Option (Int × mS) := fun k as σ => match k, as with
  | 200, [(3, a0), (3, a1), (1, a2)] => M_Reader_split a0 a1 a2 σ
  | 207, [(3, a0)] => M_Reader_kindHere a0 σ
  | 208, [(3, a0), (1, a1)] => M_Reader_takes a0 a1 σ
  | 211, [(3, a0)] => M_Reader_readClause a0 σ
  | _, _ => none
def K_Reader_readText : Nat → Bool := fun i => i.beq 29 || i.beq 43 || i.beq 51
def F_Reader_readText_51 : Nat → List mV → List mV → mS → Option (Int × mS) := fun i L st σ => match i, L, st with
  | _, _, _ => none
def M_Reader_readText_51 (l0 : Int) (σ : mS) : Option (Int × mS) :=
  (gf 6 1 l0 σ).bind fun v1 =>
  (gf 6 4 l0 σ).bind fun v2 =>
  (ld 100 v1 v2 σ).bind fun v3 =>
  some (v3, σ)
set_option maxRecDepth 100000 in
theorem E_Reader_readText_51 (l0 : Int) (σ : mS) : mblk c_Reader_readText K_Reader_readText (C_Reader_readText) (F_Reader_readText_51) (fun v σ => some (v, σ)) 58 51 ([(3, l0), (0, 0), (0, 0), (0, 0), (0, 0)]) [] σ = M_Reader_readText_51 l0 σ := rfl
def F_Reader_readText_43 : Nat → List mV → List mV → mS → Option (Int × mS) := fun i L st σ => match i, L, st with
  | 51, [(3, l0), _, _, _, _], [] => M_Reader_readText_51 l0 σ
  | _, _, _ => none
def M_Reader_readText_43 (l0 l3 : Int) (σ : mS) : Option (Int × mS) :=
  if l3 = 0 then 
    M_Reader_readText_51 l0 σ
  else
    (gk 6 l0 σ).bind fun _ => (M_Reader_kindHere l0 σ).bind fun p1 =>
    if p1.1 = 256 then 
      some ((-1), p1.2)
    else
      M_Reader_readText_51 l0 p1.2
set_option maxRecDepth 100000 in
theorem E_Reader_readText_43 (l0 l3 : Int) (σ : mS) : mblk c_Reader_readText K_Reader_readText (C_Reader_readText) (F_Reader_readText_43) (fun v σ => some (v, σ)) 58 43 ([(3, l0), (0, 0), (0, 0), (1, l3), (0, 0)]) [] σ = M_Reader_readText_43 l0 l3 σ := rfl
def F_Reader_readText_29 : Nat → List mV → List mV → mS → Option (((Int × Int × mS) ⊕ (Int × mS))) := fun i L st σ => match i, L, st with
  | 29, [(3, l0), _, _, (1, l3), (1, l4)], [] => some (.inl (l3, l4, σ))
  | 43, [(3, l0), _, _, (1, l3), _], [] => (M_Reader_readText_43 l0 l3 σ).bind fun z => some (.inr z)
  | _, _, _ => none
def B_Reader_readText_29 (l0 l3 l4 : Int) (σ : mS) : Option (((Int × Int × mS) ⊕ (Int × mS))) :=
  if l4 < 400 then 
    if l3 = 0 then 
      (M_Reader_readText_43 l0 l3 σ).bind fun z => some (.inr z)
    else
      (gk 6 l0 σ).bind fun _ => (M_Reader_takes l0 59 σ).bind fun p1 =>
      if p1.1 = 0 then 
        (M_Reader_readText_43 l0 l3 p1.2).bind fun z => some (.inr z)
      else
        (gk 6 l0 p1.2).bind fun _ => (M_Reader_readClause l0 p1.2).bind fun p2 =>
        some (.inl (p2.1, w32 (l4 + 1), p2.2))
  else
    (M_Reader_readText_43 l0 l3 σ).bind fun z => some (.inr z)
set_option maxRecDepth 100000 in
theorem E_Reader_readText_29 (l0 l3 l4 : Int) (σ : mS) : mblk c_Reader_readText K_Reader_readText (C_Reader_readText) (F_Reader_readText_29) (fun v σ => some (.inr (v, σ))) 58 29 ([(3, l0), (0, 0), (0, 0), (1, l3), (1, l4)]) [] σ = B_Reader_readText_29 l0 l3 l4 σ := rfl
def M_Reader_readText_29 (l0 l3 l4 : Int) (σ : mS) : Option (Int × mS) := miter (fun s : Int × Int × mS => B_Reader_readText_29 l0 s.1 s.2.1 s.2.2) mN (l3, l4, σ)
def F_Reader_readText_0 : Nat → List mV → List mV → mS → Option (Int × mS) := fun i L st σ => match i, L, st with
  | 29, [(3, l0), _, _, (1, l3), (1, l4)], [] => M_Reader_readText_29 l0 l3 l4 σ
  | _, _, _ => none
def M_Reader_readText (l0 l1 l2 : Int) (σ : mS) : Option (Int × mS) :=
  (ln l1 σ).bind fun v1 =>
  (gk 6 l0 σ).bind fun _ => (M_Reader_split l0 l1 (jmin l2 (jmin v1 400)) σ).bind fun p2 =>
  (pf 6 4 l0 0 p2.2).bind fun σ =>
  (pf 6 6 l0 0 σ).bind fun σ =>
  (pf 6 9 l0 0 σ).bind fun σ =>
  (pf 6 10 l0 0 σ).bind fun σ =>
  (pz 6 11 l0 0 σ).bind fun σ =>
  (gk 6 l0 σ).bind fun _ => (M_Reader_readClause l0 σ).bind fun p3 =>
  M_Reader_readText_29 l0 p3.1 0 p3.2
set_option maxRecDepth 100000 in
theorem E_Reader_readText_0 (l0 l1 l2 : Int) (σ : mS) : mblk c_Reader_readText K_Reader_readText (C_Reader_readText) (F_Reader_readText_0) (fun v σ => some (v, σ)) 58 0 (mInit 5 [(3, l0), (3, l1), (1, l2)]) [] σ = M_Reader_readText l0 l1 l2 σ := rfl
def C_Law_init : Nat → List mV → mS → Option (Int × mS) := fun k as σ => match k, as with
  | _, _ => none
def K_Law_init : Nat → Bool := fun i => false
def F_Law_init_0 : Nat → List mV → List mV → mS → Option (Int × mS) := fun i L st σ => match i, L, st with
  | _, _, _ => none
def M_Law_init (l0 l1 l2 l3 l4 : Int) (σ : mS) : Option (Int × mS) :=
  (gk 4 l0 σ).bind fun _ =>
  (pf 4 0 l0 l1 σ).bind fun σ =>
  (pf 4 1 l0 l2 σ).bind fun σ =>
  (pf 4 2 l0 l3 σ).bind fun σ =>
  (pz 4 3 l0 l4 σ).bind fun σ =>
  some (0, σ)
set_option maxRecDepth 100000 in
theorem E_Law_init_0 (l0 l1 l2 l3 l4 : Int) (σ : mS) : mblk c_Law_init K_Law_init (C_Law_init) (F_Law_init_0) (fun v σ => some (v, σ)) 16 0 (mInit 5 [(3, l0), (3, l1), (3, l2), (3, l3), (1, l4)]) [] σ = M_Law_init l0 l1 l2 l3 l4 σ := rfl
def C_JA_copyOf : Nat → List mV → mS → Option (Int × mS) := fun k as σ => match k, as with
  | _, _ => none
def K_JA_copyOf : Nat → Bool := fun i => false
def F_JA_copyOf_0 : Nat → List mV → List mV → mS → Option (Int × mS) := fun i L st σ => match i, L, st with
  | _, _, _ => none
def M_JA_copyOf (l0 l1 : Int) (σ : mS) : Option (Int × mS) :=
  (ln l0 σ).bind fun v1 =>
  if l1 = v1 then 
    (cln l0 σ).bind fun σ =>
    mlet σ.2.2.1 fun v2 =>
    (cki v2 σ).bind fun v3 =>
    some (v3, σ)
  else
    (na 100 l1 σ).bind fun σ =>
    mlet σ.2.2.1 fun v4 =>
    (ln l0 σ).bind fun v5 =>
    (cpy l0 0 v4 0 (jmin v5 l1) σ).bind fun σ =>
    some (v4, σ)
set_option maxRecDepth 100000 in
theorem E_JA_copyOf_0 (l0 l1 : Int) (σ : mS) : mblk c_JA_copyOf K_JA_copyOf (C_JA_copyOf) (F_JA_copyOf_0) (fun v σ => some (v, σ)) 23 0 (mInit 3 [(3, l0), (1, l1)]) [] σ = M_JA_copyOf l0 l1 σ := rfl
def C_Reader_makeLaw : Nat → List mV → mS → Option (Int × mS) := fun k as σ => match k, as with
  | 183, [(3, a0), (3, a1), (3, a2), (3, a3), (1, a4)] => M_Law_init a0 a1 a2 a3 a4 σ
  | 240, [(3, a0), (1, a1)] => M_JA_copyOf a0 a1 σ
  | _, _ => none
def K_Reader_makeLaw : Nat → Bool := fun i => false
def F_Reader_makeLaw_0 : Nat → List mV → List mV → mS → Option (Int × mS) := fun i L st σ => match i, L, st with
  | _, _, _ => none
def M_Reader_makeLaw (l0 : Int) (σ : mS) : Option (Int × mS) :=
  mlet (σ.2.2.1 + 1) fun v1 => mlet (mnew 4 4 σ) fun σ =>
  (gf 6 5 l0 σ).bind fun v2 =>
  (gf 6 6 l0 σ).bind fun v3 =>
  (M_JA_copyOf v2 v3 σ).bind fun p4 =>
  (gf 6 7 l0 p4.2).bind fun v5 =>
  (gf 6 9 l0 p4.2).bind fun v6 =>
  (M_JA_copyOf v5 v6 p4.2).bind fun p7 =>
  (gf 6 8 l0 p7.2).bind fun v8 =>
  (gf 6 9 l0 p7.2).bind fun v9 =>
  (M_JA_copyOf v8 v9 p7.2).bind fun p10 =>
  (gf 6 11 l0 p10.2).bind fun v11 =>
  (gk 4 v1 p10.2).bind fun _ => (M_Law_init v1 p4.1 p7.1 p10.1 v11 p10.2).bind fun p12 =>
  some (v1, p12.2)
set_option maxRecDepth 100000 in
theorem E_Reader_makeLaw_0 (l0 : Int) (σ : mS) : mblk c_Reader_makeLaw K_Reader_makeLaw (C_Reader_makeLaw) (F_Reader_makeLaw_0) (fun v σ => some (v, σ)) 22 0 (mInit 1 [(3, l0)]) [] σ = M_Reader_makeLaw l0 σ := rfl
def C_RW_law : Nat → List mV → mS → Option (Int × mS) := fun k as σ => match k, as with
  | 45, [(3, a0), (1, a1)] => M_RW_refuse a0 a1 σ
  | 46, [(3, a0), (1, a1)] => M_RW_accept a0 a1 σ
  | 198, [(3, a0), (3, a1), (1, a2)] => M_Reader_readText a0 a1 a2 σ
  | 199, [(3, a0)] => M_Reader_makeLaw a0 σ
  | _, _ => none
def K_RW_law : Nat → Bool := fun i => false
def F_RW_law_0 : Nat → List mV → List mV → mS → Option (Int × mS) := fun i L st σ => match i, L, st with
  | _, _, _ => none
def M_RW_law (l0 : Int) (σ : mS) : Option (Int × mS) :=
  (gf 10 3 l0 σ).bind fun v1 =>
  (gf 9 1 v1 σ).bind fun v2 =>
  (gf 10 3 l0 σ).bind fun v3 =>
  (pf 9 1 v3 0 σ).bind fun σ =>
  (gf 10 0 l0 σ).bind fun v4 =>
  (gf 7 8 v4 σ).bind fun v5 =>
  if v5 < 6 then 
    (gf 10 4 l0 σ).bind fun v6 =>
    (gf 10 3 l0 σ).bind fun v7 =>
    (gf 9 0 v7 σ).bind fun v8 =>
    (gk 6 v6 σ).bind fun _ => (M_Reader_readText v6 v8 v2 σ).bind fun p9 =>
    (pf 10 13 l0 p9.1 p9.2).bind fun σ =>
    (gf 10 13 l0 σ).bind fun v10 =>
    if v10 = (-1) then 
      (gf 10 0 l0 σ).bind fun v11 =>
      (gf 7 7 v11 σ).bind fun v12 =>
      (gf 10 4 l0 σ).bind fun v13 =>
      (gk 6 v13 σ).bind fun _ => (M_Reader_makeLaw v13 σ).bind fun p14 =>
      (sr 4 v12 v5 p14.1 p14.2).bind fun σ =>
      (gf 10 0 l0 σ).bind fun v15 =>
      (gf 7 8 v15 σ).bind fun v16 =>
      (pf 7 8 v15 (w32 (v16 + 1)) σ).bind fun σ =>
      (gk 10 l0 σ).bind fun _ => (M_RW_accept l0 v5 σ).bind fun p17 =>
      some (p17.1, p17.2)
    else
      (gk 10 l0 σ).bind fun _ => (M_RW_refuse l0 (-6) σ).bind fun p18 =>
      some (p18.1, p18.2)
  else
    (gk 10 l0 σ).bind fun _ => (M_RW_refuse l0 (-5) σ).bind fun p19 =>
    some (p19.1, p19.2)
set_option maxRecDepth 100000 in
theorem E_RW_law_0 (l0 : Int) (σ : mS) : mblk c_RW_law K_RW_law (C_RW_law) (F_RW_law_0) (fun v σ => some (v, σ)) 56 0 (mInit 3 [(3, l0)]) [] σ = M_RW_law l0 σ := rfl
def C_RW_fault : Nat → List mV → mS → Option (Int × mS) := fun k as σ => match k, as with
  | _, _ => none
def K_RW_fault : Nat → Bool := fun i => false
def F_RW_fault_0 : Nat → List mV → List mV → mS → Option (Int × mS) := fun i L st σ => match i, L, st with
  | _, _, _ => none
def M_RW_fault (l0 : Int) (σ : mS) : Option (Int × mS) :=
  (gf 10 13 l0 σ).bind fun v1 =>
  some (v1, σ)
set_option maxRecDepth 100000 in
theorem E_RW_fault_0 (l0 : Int) (σ : mS) : mblk c_RW_fault K_RW_fault (C_RW_fault) (F_RW_fault_0) (fun v σ => some (v, σ)) 4 0 (mInit 1 [(3, l0)]) [] σ = M_RW_fault l0 σ := rfl
def C_Air_forgetAll : Nat → List mV → mS → Option (Int × mS) := fun k as σ => match k, as with
  | _, _ => none
def K_Air_forgetAll : Nat → Bool := fun i => i.beq 2
def F_Air_forgetAll_2 : Nat → List mV → List mV → mS → Option (((Int × mS) ⊕ (Int × mS))) := fun i L st σ => match i, L, st with
  | 2, [(3, l0), (1, l1)], [] => some (.inl (l1, σ))
  | _, _, _ => none
def B_Air_forgetAll_2 (l0 l1 : Int) (σ : mS) : Option (((Int × mS) ⊕ (Int × mS))) :=
  if l1 < 64 then 
    (gf 1 2 l0 σ).bind fun v1 =>
    (ld 100 v1 l1 σ).bind fun v2 =>
    (sd 100 v1 l1 (w32 (v2 + 1)) σ).bind fun σ =>
    some (.inl (w32 (l1 + 1), σ))
  else
    some (.inr (0, σ))
set_option maxRecDepth 100000 in
theorem E_Air_forgetAll_2 (l0 l1 : Int) (σ : mS) : mblk c_Air_forgetAll K_Air_forgetAll (C_Air_forgetAll) (F_Air_forgetAll_2) (fun v σ => some (.inr (v, σ))) 17 2 ([(3, l0), (1, l1)]) [] σ = B_Air_forgetAll_2 l0 l1 σ := rfl
def M_Air_forgetAll_2 (l0 l1 : Int) (σ : mS) : Option (Int × mS) := miter (fun s : Int × mS => B_Air_forgetAll_2 l0 s.1 s.2) mN (l1, σ)
def F_Air_forgetAll_0 : Nat → List mV → List mV → mS → Option (Int × mS) := fun i L st σ => match i, L, st with
  | 2, [(3, l0), (1, l1)], [] => M_Air_forgetAll_2 l0 l1 σ
  | _, _, _ => none
def M_Air_forgetAll (l0 : Int) (σ : mS) : Option (Int × mS) :=
  M_Air_forgetAll_2 l0 0 σ
set_option maxRecDepth 100000 in
theorem E_Air_forgetAll_0 (l0 : Int) (σ : mS) : mblk c_Air_forgetAll K_Air_forgetAll (C_Air_forgetAll) (F_Air_forgetAll_0) (fun v σ => some (v, σ)) 17 0 (mInit 2 [(3, l0)]) [] σ = M_Air_forgetAll l0 σ := rfl
def C_RW_force : Nat → List mV → mS → Option (Int × mS) := fun k as σ => match k, as with
  | 45, [(3, a0), (1, a1)] => M_RW_refuse a0 a1 σ
  | 46, [(3, a0), (1, a1)] => M_RW_accept a0 a1 σ
  | 47, [(1, a0), (1, a1), (1, a2)] => M_RW_isWithin a0 a1 a2 σ
  | 157, [(3, a0)] => M_Air_forgetAll a0 σ
  | _, _ => none
def K_RW_force : Nat → Bool := fun i => i.beq 16
def F_RW_force_16 : Nat → List mV → List mV → mS → Option (Int × mS) := fun i L st σ => match i, L, st with
  | _, _, _ => none
def M_RW_force_16 (l0 l1 : Int) (σ : mS) : Option (Int × mS) :=
  (gf 10 0 l0 σ).bind fun v1 =>
  (gf 7 9 v1 σ).bind fun v2 =>
  if l1 = v2 then 
    (gk 10 l0 σ).bind fun _ => (M_RW_accept l0 v2 σ).bind fun p3 =>
    some (p3.1, p3.2)
  else
    (gf 10 0 l0 σ).bind fun v4 =>
    (pf 7 9 v4 l1 σ).bind fun σ =>
    (gf 10 5 l0 σ).bind fun v5 =>
    (gk 1 v5 σ).bind fun _ => (M_Air_forgetAll v5 σ).bind fun p6 =>
    (gk 10 l0 p6.2).bind fun _ => (M_RW_accept l0 v2 p6.2).bind fun p7 =>
    some (p7.1, p7.2)
set_option maxRecDepth 100000 in
theorem E_RW_force_16 (l0 l1 : Int) (σ : mS) : mblk c_RW_force K_RW_force (C_RW_force) (F_RW_force_16) (fun v σ => some (v, σ)) 35 16 ([(3, l0), (1, l1), (0, 0)]) [] σ = M_RW_force_16 l0 l1 σ := rfl
def F_RW_force_0 : Nat → List mV → List mV → mS → Option (Int × mS) := fun i L st σ => match i, L, st with
  | 16, [(3, l0), (1, l1), _], [] => M_RW_force_16 l0 l1 σ
  | _, _, _ => none
def M_RW_force (l0 l1 : Int) (σ : mS) : Option (Int × mS) :=
  if l1 = (-1) then 
    M_RW_force_16 l0 l1 σ
  else
    (gf 10 0 l0 σ).bind fun v1 =>
    (gf 7 8 v1 σ).bind fun v2 =>
    (M_RW_isWithin l1 0 (w32 (v2 - 1)) σ).bind fun p3 =>
    if p3.1 = 0 then 
      (gk 10 l0 p3.2).bind fun _ => (M_RW_refuse l0 (-2) p3.2).bind fun p4 =>
      some (p4.1, p4.2)
    else
      M_RW_force_16 l0 l1 p3.2
set_option maxRecDepth 100000 in
theorem E_RW_force_0 (l0 l1 : Int) (σ : mS) : mblk c_RW_force K_RW_force (C_RW_force) (F_RW_force_0) (fun v σ => some (v, σ)) 35 0 (mInit 3 [(3, l0), (1, l1)]) [] σ = M_RW_force l0 l1 σ := rfl
def C_RW_isHour : Nat → List mV → mS → Option (Int × mS) := fun k as σ => match k, as with
  | 47, [(1, a0), (1, a1), (1, a2)] => M_RW_isWithin a0 a1 a2 σ
  | _, _ => none
def K_RW_isHour : Nat → Bool := fun i => false
def F_RW_isHour_0 : Nat → List mV → List mV → mS → Option (Int × mS) := fun i L st σ => match i, L, st with
  | _, _, _ => none
def M_RW_isHour (l0 : Int) (σ : mS) : Option (Int × mS) :=
  (M_RW_isWithin l0 0 23 σ).bind fun p1 =>
  if p1.1 = 0 ∨ p1.1 = 1 then some (p1.1, p1.2) else none
set_option maxRecDepth 100000 in
theorem E_RW_isHour_0 (l0 : Int) (σ : mS) : mblk c_RW_isHour K_RW_isHour (C_RW_isHour) (F_RW_isHour_0) (fun v σ => some (v, σ)) 6 0 (mInit 1 [(1, l0)]) [] σ = M_RW_isHour l0 σ := rfl
def C_Air_layOut : Nat → List mV → mS → Option (Int × mS) := fun k as σ => match k, as with
  | _, _ => none
def K_Air_layOut : Nat → Bool := fun i => false
def F_Air_layOut_0 : Nat → List mV → List mV → mS → Option (Int × mS) := fun i L st σ => match i, L, st with
  | _, _, _ => none
def M_Air_layOut (l0 l1 l2 l3 : Int) (σ : mS) : Option (Int × mS) :=
  (gf 1 3 l0 σ).bind fun v1 =>
  (sd 100 v1 0 l2 σ).bind fun σ =>
  (gf 1 3 l0 σ).bind fun v2 =>
  (gf 1 0 l0 σ).bind fun v3 =>
  (gf 7 0 v3 σ).bind fun v4 =>
  (ld 100 v4 l1 σ).bind fun v5 =>
  (sd 100 v2 1 (w32 (l2 - v5)) σ).bind fun σ =>
  (gf 1 3 l0 σ).bind fun v6 =>
  (sd 100 v6 2 l1 σ).bind fun σ =>
  (gf 1 3 l0 σ).bind fun v7 =>
  (gf 1 0 l0 σ).bind fun v8 =>
  (gf 7 1 v8 σ).bind fun v9 =>
  (ld 100 v9 l1 σ).bind fun v10 =>
  (sd 100 v7 3 v10 σ).bind fun σ =>
  (gf 1 3 l0 σ).bind fun v11 =>
  (gf 1 0 l0 σ).bind fun v12 =>
  (gf 7 0 v12 σ).bind fun v13 =>
  (ld 100 v13 l1 σ).bind fun v14 =>
  (sd 100 v11 4 v14 σ).bind fun σ =>
  (gf 1 3 l0 σ).bind fun v15 =>
  (sd 100 v15 5 l3 σ).bind fun σ =>
  some (0, σ)
set_option maxRecDepth 100000 in
theorem E_Air_layOut_0 (l0 l1 l2 l3 : Int) (σ : mS) : mblk c_Air_layOut K_Air_layOut (C_Air_layOut) (F_Air_layOut_0) (fun v σ => some (v, σ)) 46 0 (mInit 4 [(3, l0), (1, l1), (1, l2), (1, l3)]) [] σ = M_Air_layOut l0 l1 l2 l3 σ := rfl
def C_Law_joined : Nat → List mV → mS → Option (Int × mS) := fun k as σ => match k, as with
  | _, _ => none
def K_Law_joined : Nat → Bool := fun i => false
def F_Law_joined_0 : Nat → List mV → List mV → mS → Option (Int × mS) := fun i L st σ => match i, L, st with
  | _, _, _ => none
def M_Law_joined (l0 l1 l3 : Int) (σ : mS) : Option (Int × mS) :=
  if l0 = 5 then
    some (w64 (l1 + l3), σ)
  else if l0 = 6 then
    some (w64 (l1 - l3), σ)
  else if l0 = 7 then
    some (w64 (l1 * l3), σ)
  else if l0 = 8 then
    if (lcp l3 0) = 0 then 
      some (2000000000, σ)
    else
      (ldv l1 l3).bind fun v1 =>
      some (v1, σ)
  else if l0 = 9 then
    if (lcp l1 l3) < 0 then 
      some (1, σ)
    else
      some (0, σ)
  else if l0 = 10 then
    if 0 < (lcp l1 l3) then 
      some (1, σ)
    else
      some (0, σ)
  else if l0 = 11 then
    if (lcp l1 l3) = 0 then 
      some (1, σ)
    else
      some (0, σ)
  else 
    some (2000000000, σ)
set_option maxRecDepth 100000 in
theorem E_Law_joined_0 (l0 l1 l3 : Int) (σ : mS) : mblk c_Law_joined K_Law_joined (C_Law_joined) (F_Law_joined_0) (fun v σ => some (v, σ)) 51 0 (mInit 5 [(1, l0), (2, l1), (2, l3)]) [] σ = M_Law_joined l0 l1 l3 σ := rfl
def C_Law_run : Nat → List mV → mS → Option (Int × mS) := fun k as σ => match k, as with
  | 186, [(1, a0), (2, a1), (2, a2)] => M_Law_joined a0 a1 a2 σ
  | _, _ => none
def K_Law_run : Nat → Bool := fun i => i.beq 4 || i.beq 46 || i.beq 85 || i.beq 91 || i.beq 137
def F_Law_run_137 : Nat → List mV → List mV → mS → Option (Int × mS) := fun i L st σ => match i, L, st with
  | _, _, _ => none
def M_Law_run_137 (l5 : Int) (σ : mS) : Option (Int × mS) :=
  if l5 = 0 then 
    if 1 = 0 ∨ 1 = 1 then some (1, σ) else none
  else
    if 0 = 0 ∨ 0 = 1 then some (0, σ) else none
set_option maxRecDepth 100000 in
theorem E_Law_run_137 (l5 : Int) (σ : mS) : mblk c_Law_run K_Law_run (C_Law_run) (F_Law_run_137) (fun v σ => some (v, σ)) 144 137 ([(0, 0), (0, 0), (0, 0), (0, 0), (0, 0), (1, l5), (0, 0), (0, 0), (0, 0), (0, 0), (0, 0)]) [] σ = M_Law_run_137 l5 σ := rfl
def F_Law_run_91 : Nat → List mV → List mV → mS → Option (((Int × Int × mS) ⊕ (Int × mS))) := fun i L st σ => match i, L, st with
  | 4, [(3, l0), _, (1, l2), (3, l3), (3, l4), (1, l5), (1, l6), _, _, _, _], [] => some (.inl (l5, l6, σ))
  | _, _, _ => none
def M_Law_run_91 (l0 l2 l3 l4 l5 l6 l8 s1 s0 : Int) (σ : mS) : Option (((Int × Int × mS) ⊕ (Int × mS))) :=
  if s0 = s1 then 
    some (.inl (l5, w32 ((jmax l6 (w32 (l8 - 1))) + 1), σ))
  else
    some (.inl (w32 (l5 + (-1)), w32 (l6 + 1), σ))
set_option maxRecDepth 100000 in
theorem E_Law_run_91 (l0 l2 l3 l4 l5 l6 l8 s1 s0 : Int) (σ : mS) : mblk c_Law_run K_Law_run (C_Law_run) (F_Law_run_91) (fun v σ => some (.inr (v, σ))) 144 91 ([(3, l0), (0, 0), (1, l2), (3, l3), (3, l4), (1, l5), (1, l6), (0, 0), (1, l8), (0, 0), (0, 0)]) [(1, s1), (1, s0)] σ = M_Law_run_91 l0 l2 l3 l4 l5 l6 l8 s1 s0 σ := rfl
def F_Law_run_85 : Nat → List mV → List mV → mS → Option (((Int × Int × mS) ⊕ (Int × mS))) := fun i L st σ => match i, L, st with
  | 91, [(3, l0), _, (1, l2), (3, l3), (3, l4), (1, l5), (1, l6), _, (1, l8), _, _], [(1, s1), (1, s0)] => M_Law_run_91 l0 l2 l3 l4 l5 l6 l8 s1 s0 σ
  | _, _, _ => none
def M_Law_run_85 (l0 l2 l3 l4 l5 l6 l7 l8 s0 : Int) (σ : mS) : Option (((Int × Int × mS) ⊕ (Int × mS))) :=
  if l7 = 4 then 
    M_Law_run_91 l0 l2 l3 l4 l5 l6 l8 1 s0 σ
  else
    M_Law_run_91 l0 l2 l3 l4 l5 l6 l8 0 s0 σ
set_option maxRecDepth 100000 in
theorem E_Law_run_85 (l0 l2 l3 l4 l5 l6 l7 l8 s0 : Int) (σ : mS) : mblk c_Law_run K_Law_run (C_Law_run) (F_Law_run_85) (fun v σ => some (.inr (v, σ))) 144 85 ([(3, l0), (0, 0), (1, l2), (3, l3), (3, l4), (1, l5), (1, l6), (1, l7), (1, l8), (0, 0), (0, 0)]) [(1, s0)] σ = M_Law_run_85 l0 l2 l3 l4 l5 l6 l7 l8 s0 σ := rfl
def F_Law_run_46 : Nat → List mV → List mV → mS → Option (((Int × Int × mS) ⊕ (Int × mS))) := fun i L st σ => match i, L, st with
  | 4, [(3, l0), _, (1, l2), (3, l3), (3, l4), (1, l5), (1, l6), _, _, _, _], [] => some (.inl (l5, l6, σ))
  | _, _, _ => none
def M_Law_run_46 (l0 l2 l3 l4 l5 l6 l7 l8 : Int) (σ : mS) : Option (((Int × Int × mS) ⊕ (Int × mS))) :=
  if l7 = 0 then 
    (sd 100 l4 (w32 (l5 + 1)) l8 σ).bind fun σ =>
    some (.inl (w32 (l5 + 1), w32 (l6 + 1), σ))
  else
    (ld 100 l3 l8 σ).bind fun v1 =>
    (sd 100 l4 (w32 (l5 + 1)) v1 σ).bind fun σ =>
    some (.inl (w32 (l5 + 1), w32 (l6 + 1), σ))
set_option maxRecDepth 100000 in
theorem E_Law_run_46 (l0 l2 l3 l4 l5 l6 l7 l8 : Int) (σ : mS) : mblk c_Law_run K_Law_run (C_Law_run) (F_Law_run_46) (fun v σ => some (.inr (v, σ))) 144 46 ([(3, l0), (0, 0), (1, l2), (3, l3), (3, l4), (1, l5), (1, l6), (1, l7), (1, l8), (0, 0), (0, 0)]) [] σ = M_Law_run_46 l0 l2 l3 l4 l5 l6 l7 l8 σ := rfl
def F_Law_run_4 : Nat → List mV → List mV → mS → Option (((Int × Int × mS) ⊕ (Int × mS))) := fun i L st σ => match i, L, st with
  | 4, [(3, l0), _, (1, l2), (3, l3), (3, l4), (1, l5), (1, l6), _, _, _, _], [] => some (.inl (l5, l6, σ))
  | 46, [(3, l0), _, (1, l2), (3, l3), (3, l4), (1, l5), (1, l6), (1, l7), (1, l8), _, _], [] => M_Law_run_46 l0 l2 l3 l4 l5 l6 l7 l8 σ
  | 85, [(3, l0), _, (1, l2), (3, l3), (3, l4), (1, l5), (1, l6), (1, l7), (1, l8), _, _], [(1, s0)] => M_Law_run_85 l0 l2 l3 l4 l5 l6 l7 l8 s0 σ
  | 137, [_, _, _, _, _, (1, l5), _, _, _, _, _], [] => (M_Law_run_137 l5 σ).bind fun z => some (.inr z)
  | _, _, _ => none
def B_Law_run_4 (l0 l2 l3 l4 l5 l6 : Int) (σ : mS) : Option (((Int × Int × mS) ⊕ (Int × mS))) :=
  if l6 < l2 then 
    (gf 4 0 l0 σ).bind fun v1 =>
    (ln v1 σ).bind fun v2 =>
    if l6 < v2 then 
      (gf 4 0 l0 σ).bind fun v3 =>
      (ld 100 v3 l6 σ).bind fun v4 =>
      (gf 4 0 l0 σ).bind fun v5 =>
      (ld 100 v5 l6 σ).bind fun v6 =>
      if 1 < (iand v4 15) then 
        if 4 < (iand v4 15) then 
          if l5 < 1 then 
            if 0 = 0 ∨ 0 = 1 then some (.inr (0, σ)) else none
          else
            (ld 100 l4 (w32 (l5 - 1)) σ).bind fun v7 =>
            (ld 100 l4 l5 σ).bind fun v8 =>
            (M_Law_joined (iand v4 15) v7 v8 σ).bind fun p9 =>
            if 0 < (lcp p9.1 1000000000) then 
              if 0 = 0 ∨ 0 = 1 then some (.inr (0, p9.2)) else none
            else
              if (lcp p9.1 (-1000000000)) < 0 then 
                if 0 = 0 ∨ 0 = 1 then some (.inr (0, p9.2)) else none
              else
                (sd 100 l4 (w32 (l5 + (-1))) (w32 p9.1) p9.2).bind fun σ =>
                some (.inl (w32 (l5 + (-1)), w32 (l6 + 1), σ))
        else
          if l5 < 0 then 
            if 0 = 0 ∨ 0 = 1 then some (.inr (0, σ)) else none
          else
            if (iand v4 15) = 2 then 
              (ld 100 l4 l5 σ).bind fun v10 =>
              (sd 100 l4 l5 (w32 (1 - v10)) σ).bind fun σ =>
              some (.inl (l5, w32 (l6 + 1), σ))
            else
              (ld 100 l4 l5 σ).bind fun v11 =>
              if v11 = 1 then 
                M_Law_run_85 l0 l2 l3 l4 l5 l6 (iand v4 15) (ishr v6 4) 1 σ
              else
                M_Law_run_85 l0 l2 l3 l4 l5 l6 (iand v4 15) (ishr v6 4) 0 σ
      else
        (ln l4 σ).bind fun v12 =>
        if (w32 (l5 + 1)) < v12 then 
          if (ishr v6 4) < 0 then 
            if 0 = 0 ∨ 0 = 1 then some (.inr (0, σ)) else none
          else
            if (iand v4 15) = 1 then 
              (ln l3 σ).bind fun v13 =>
              if (ishr v6 4) < v13 then 
                M_Law_run_46 l0 l2 l3 l4 l5 l6 (iand v4 15) (ishr v6 4) σ
              else
                if 0 = 0 ∨ 0 = 1 then some (.inr (0, σ)) else none
            else
              M_Law_run_46 l0 l2 l3 l4 l5 l6 (iand v4 15) (ishr v6 4) σ
        else
          if 0 = 0 ∨ 0 = 1 then some (.inr (0, σ)) else none
    else
      (M_Law_run_137 l5 σ).bind fun z => some (.inr z)
  else
    (M_Law_run_137 l5 σ).bind fun z => some (.inr z)
set_option maxRecDepth 100000 in
theorem E_Law_run_4 (l0 l2 l3 l4 l5 l6 : Int) (σ : mS) : mblk c_Law_run K_Law_run (C_Law_run) (F_Law_run_4) (fun v σ => some (.inr (v, σ))) 144 4 ([(3, l0), (0, 0), (1, l2), (3, l3), (3, l4), (1, l5), (1, l6), (0, 0), (0, 0), (0, 0), (0, 0)]) [] σ = B_Law_run_4 l0 l2 l3 l4 l5 l6 σ := rfl
def M_Law_run_4 (l0 l2 l3 l4 l5 l6 : Int) (σ : mS) : Option (Int × mS) := miter (fun s : Int × Int × mS => B_Law_run_4 l0 l2 l3 l4 s.1 s.2.1 s.2.2) mN (l5, l6, σ)
def F_Law_run_0 : Nat → List mV → List mV → mS → Option (Int × mS) := fun i L st σ => match i, L, st with
  | 4, [(3, l0), _, (1, l2), (3, l3), (3, l4), (1, l5), (1, l6), _, _, _, _], [] => M_Law_run_4 l0 l2 l3 l4 l5 l6 σ
  | _, _, _ => none
def M_Law_run (l0 l1 l2 l3 l4 : Int) (σ : mS) : Option (Int × mS) :=
  M_Law_run_4 l0 l2 l3 l4 (-1) l1 σ
set_option maxRecDepth 100000 in
theorem E_Law_run_0 (l0 l1 l2 l3 l4 : Int) (σ : mS) : mblk c_Law_run K_Law_run (C_Law_run) (F_Law_run_0) (fun v σ => some (v, σ)) 144 0 (mInit 11 [(3, l0), (1, l1), (1, l2), (3, l3), (3, l4)]) [] σ = M_Law_run l0 l1 l2 l3 l4 σ := rfl
def C_Law_tell : Nat → List mV → mS → Option (Int × mS) := fun k as σ => match k, as with
  | 185, [(3, a0), (1, a1), (1, a2), (3, a3), (3, a4)] => M_Law_run a0 a1 a2 a3 a4 σ
  | _, _ => none
def K_Law_tell : Nat → Bool := fun i => i.beq 10 || i.beq 22 || i.beq 50 || i.beq 52 || i.beq 53
def F_Law_tell_53 : Nat → List mV → List mV → mS → Option (((Int × mS) ⊕ (Int × mS))) := fun i L st σ => match i, L, st with
  | 10, [(3, l0), (3, l1), (3, l2), (1, l3), _, _], [] => some (.inl (l3, σ))
  | _, _, _ => none
def M_Law_tell_53 (l0 l1 l2 l3 l4 s0 : Int) (σ : mS) : Option (((Int × mS) ⊕ (Int × mS))) :=
  if s0 = 0 then 
    some (.inl (w32 (l3 + (-1)), σ))
  else
    (gf 4 1 l0 σ).bind fun v1 =>
    (ld 100 v1 l3 σ).bind fun v2 =>
    (gk 4 l0 σ).bind fun _ => (M_Law_run l0 l4 v2 l1 l2 σ).bind fun p3 =>
    if p3.1 = 0 then 
      some (.inl (w32 (l3 + (-1)), p3.2))
    else
      (ld 100 l2 0 p3.2).bind fun v4 =>
      some (.inr (jmax (-50) (jmin 99 v4), p3.2))
set_option maxRecDepth 100000 in
theorem E_Law_tell_53 (l0 l1 l2 l3 l4 s0 : Int) (σ : mS) : mblk c_Law_tell K_Law_tell (C_Law_tell) (F_Law_tell_53) (fun v σ => some (.inr (v, σ))) 79 53 ([(3, l0), (3, l1), (3, l2), (1, l3), (1, l4), (0, 0)]) [(1, s0)] σ = M_Law_tell_53 l0 l1 l2 l3 l4 s0 σ := rfl
def F_Law_tell_52 : Nat → List mV → List mV → mS → Option (((Int × mS) ⊕ (Int × mS))) := fun i L st σ => match i, L, st with
  | 53, [(3, l0), (3, l1), (3, l2), (1, l3), (1, l4), _], [(1, s0)] => M_Law_tell_53 l0 l1 l2 l3 l4 s0 σ
  | _, _, _ => none
def M_Law_tell_52 (l0 l1 l2 l3 l4 : Int) (σ : mS) : Option (((Int × mS) ⊕ (Int × mS))) :=
  M_Law_tell_53 l0 l1 l2 l3 l4 0 σ
set_option maxRecDepth 100000 in
theorem E_Law_tell_52 (l0 l1 l2 l3 l4 : Int) (σ : mS) : mblk c_Law_tell K_Law_tell (C_Law_tell) (F_Law_tell_52) (fun v σ => some (.inr (v, σ))) 79 52 ([(3, l0), (3, l1), (3, l2), (1, l3), (1, l4), (0, 0)]) [] σ = M_Law_tell_52 l0 l1 l2 l3 l4 σ := rfl
def F_Law_tell_50 : Nat → List mV → List mV → mS → Option (((Int × mS) ⊕ (Int × mS))) := fun i L st σ => match i, L, st with
  | 53, [(3, l0), (3, l1), (3, l2), (1, l3), (1, l4), _], [(1, s0)] => M_Law_tell_53 l0 l1 l2 l3 l4 s0 σ
  | _, _, _ => none
def M_Law_tell_50 (l0 l1 l2 l3 l4 : Int) (σ : mS) : Option (((Int × mS) ⊕ (Int × mS))) :=
  M_Law_tell_53 l0 l1 l2 l3 l4 1 σ
set_option maxRecDepth 100000 in
theorem E_Law_tell_50 (l0 l1 l2 l3 l4 : Int) (σ : mS) : mblk c_Law_tell K_Law_tell (C_Law_tell) (F_Law_tell_50) (fun v σ => some (.inr (v, σ))) 79 50 ([(3, l0), (3, l1), (3, l2), (1, l3), (1, l4), (0, 0)]) [] σ = M_Law_tell_50 l0 l1 l2 l3 l4 σ := rfl
def F_Law_tell_22 : Nat → List mV → List mV → mS → Option (((Int × mS) ⊕ (Int × mS))) := fun i L st σ => match i, L, st with
  | 50, [(3, l0), (3, l1), (3, l2), (1, l3), (1, l4), _], [] => M_Law_tell_50 l0 l1 l2 l3 l4 σ
  | 52, [(3, l0), (3, l1), (3, l2), (1, l3), (1, l4), _], [] => M_Law_tell_52 l0 l1 l2 l3 l4 σ
  | _, _, _ => none
def M_Law_tell_22 (l0 l1 l2 l3 s0 : Int) (σ : mS) : Option (((Int × mS) ⊕ (Int × mS))) :=
  (gf 4 1 l0 σ).bind fun v1 =>
  (ld 100 v1 l3 σ).bind fun v2 =>
  (gf 4 2 l0 σ).bind fun v3 =>
  (ld 100 v3 l3 σ).bind fun v4 =>
  if v2 = v4 then 
    M_Law_tell_50 l0 l1 l2 l3 s0 σ
  else
    (gf 4 1 l0 σ).bind fun v5 =>
    (ld 100 v5 l3 σ).bind fun v6 =>
    (gf 4 2 l0 σ).bind fun v7 =>
    (ld 100 v7 l3 σ).bind fun v8 =>
    (gk 4 l0 σ).bind fun _ => (M_Law_run l0 v6 v8 l1 l2 σ).bind fun p9 =>
    if p9.1 = 0 then 
      M_Law_tell_52 l0 l1 l2 l3 s0 p9.2
    else
      (ld 100 l2 0 p9.2).bind fun v10 =>
      if v10 = 1 then 
        M_Law_tell_50 l0 l1 l2 l3 s0 p9.2
      else
        M_Law_tell_52 l0 l1 l2 l3 s0 p9.2
set_option maxRecDepth 100000 in
theorem E_Law_tell_22 (l0 l1 l2 l3 s0 : Int) (σ : mS) : mblk c_Law_tell K_Law_tell (C_Law_tell) (F_Law_tell_22) (fun v σ => some (.inr (v, σ))) 79 22 ([(3, l0), (3, l1), (3, l2), (1, l3), (0, 0), (0, 0)]) [(1, s0)] σ = M_Law_tell_22 l0 l1 l2 l3 s0 σ := rfl
def F_Law_tell_10 : Nat → List mV → List mV → mS → Option (((Int × mS) ⊕ (Int × mS))) := fun i L st σ => match i, L, st with
  | 22, [(3, l0), (3, l1), (3, l2), (1, l3), _, _], [(1, s0)] => M_Law_tell_22 l0 l1 l2 l3 s0 σ
  | _, _, _ => none
def B_Law_tell_10 (l0 l1 l2 l3 : Int) (σ : mS) : Option (((Int × mS) ⊕ (Int × mS))) :=
  if l3 < 0 then 
    some (.inr (10, σ))
  else
    if l3 = 0 then 
      M_Law_tell_22 l0 l1 l2 l3 0 σ
    else
      (gf 4 2 l0 σ).bind fun v1 =>
      (ld 100 v1 (w32 (l3 - 1)) σ).bind fun v2 =>
      M_Law_tell_22 l0 l1 l2 l3 v2 σ
set_option maxRecDepth 100000 in
theorem E_Law_tell_10 (l0 l1 l2 l3 : Int) (σ : mS) : mblk c_Law_tell K_Law_tell (C_Law_tell) (F_Law_tell_10) (fun v σ => some (.inr (v, σ))) 79 10 ([(3, l0), (3, l1), (3, l2), (1, l3), (0, 0), (0, 0)]) [] σ = B_Law_tell_10 l0 l1 l2 l3 σ := rfl
def M_Law_tell_10 (l0 l1 l2 l3 : Int) (σ : mS) : Option (Int × mS) := miter (fun s : Int × mS => B_Law_tell_10 l0 l1 l2 s.1 s.2) mN (l3, σ)
def F_Law_tell_0 : Nat → List mV → List mV → mS → Option (Int × mS) := fun i L st σ => match i, L, st with
  | 10, [(3, l0), (3, l1), (3, l2), (1, l3), _, _], [] => M_Law_tell_10 l0 l1 l2 l3 σ
  | _, _, _ => none
def M_Law_tell (l0 l1 l2 : Int) (σ : mS) : Option (Int × mS) :=
  (gf 4 1 l0 σ).bind fun v1 =>
  (ln v1 σ).bind fun v2 =>
  (gf 4 2 l0 σ).bind fun v3 =>
  (ln v3 σ).bind fun v4 =>
  M_Law_tell_10 l0 l1 l2 (w32 ((jmin v2 v4) - 1)) σ
set_option maxRecDepth 100000 in
theorem E_Law_tell_0 (l0 l1 l2 : Int) (σ : mS) : mblk c_Law_tell K_Law_tell (C_Law_tell) (F_Law_tell_0) (fun v σ => some (v, σ)) 79 0 (mInit 6 [(3, l0), (3, l1), (3, l2)]) [] σ = M_Law_tell l0 l1 l2 σ := rfl
def C_Air_warmth : Nat → List mV → mS → Option (Int × mS) := fun k as σ => match k, as with
  | 158, [(3, a0)] => M_Air_lawInForce a0 σ
  | 163, [(3, a0), (1, a1), (1, a2), (1, a3)] => M_Air_layOut a0 a1 a2 a3 σ
  | 184, [(3, a0), (3, a1), (3, a2)] => M_Law_tell a0 a1 a2 σ
  | _, _ => none
def K_Air_warmth : Nat → Bool := fun i => i.beq 34
def F_Air_warmth_34 : Nat → List mV → List mV → mS → Option (Int × mS) := fun i L st σ => match i, L, st with
  | _, _, _ => none
def M_Air_warmth_34 (l1 l4 s2 s1 s0 : Int) (σ : mS) : Option (Int × mS) :=
  (sd 100 s0 s1 s2 σ).bind fun σ =>
  (gf 3 1 l1 σ).bind fun v1 =>
  (ld 100 v1 l4 σ).bind fun v2 =>
  some (v2, σ)
set_option maxRecDepth 100000 in
theorem E_Air_warmth_34 (l1 l4 s2 s1 s0 : Int) (σ : mS) : mblk c_Air_warmth K_Air_warmth (C_Air_warmth) (F_Air_warmth_34) (fun v σ => some (v, σ)) 41 34 ([(0, 0), (3, l1), (0, 0), (0, 0), (1, l4), (0, 0)]) [(1, s2), (1, s1), (3, s0)] σ = M_Air_warmth_34 l1 l4 s2 s1 s0 σ := rfl
def F_Air_warmth_0 : Nat → List mV → List mV → mS → Option (Int × mS) := fun i L st σ => match i, L, st with
  | 34, [_, (3, l1), _, _, (1, l4), _], [(1, s2), (1, s1), (3, s0)] => M_Air_warmth_34 l1 l4 s2 s1 s0 σ
  | _, _, _ => none
def M_Air_warmth (l0 l1 l2 l3 : Int) (σ : mS) : Option (Int × mS) :=
  (gf 3 1 l1 σ).bind fun v1 =>
  (ld 100 v1 (w32 ((w32 (l2 * 32)) + l3)) σ).bind fun v2 =>
  if v2 = (-1000000) then 
    (gk 1 l0 σ).bind fun _ => (M_Air_lawInForce l0 σ).bind fun p3 =>
    (gf 3 0 l1 p3.2).bind fun v4 =>
    (gk 1 l0 p3.2).bind fun _ => (M_Air_layOut l0 l2 l3 v4 p3.2).bind fun p5 =>
    (gf 3 1 l1 p5.2).bind fun v6 =>
    if p3.1 = 0 then 
      M_Air_warmth_34 l1 (w32 ((w32 (l2 * 32)) + l3)) 10 (w32 ((w32 (l2 * 32)) + l3)) v6 p5.2
    else
      (gf 1 3 l0 p5.2).bind fun v7 =>
      (gf 1 4 l0 p5.2).bind fun v8 =>
      (gk 4 p3.1 p5.2).bind fun _ => (M_Law_tell p3.1 v7 v8 p5.2).bind fun p9 =>
      M_Air_warmth_34 l1 (w32 ((w32 (l2 * 32)) + l3)) p9.1 (w32 ((w32 (l2 * 32)) + l3)) v6 p9.2
  else
    (gf 3 1 l1 σ).bind fun v10 =>
    (ld 100 v10 (w32 ((w32 (l2 * 32)) + l3)) σ).bind fun v11 =>
    some (v11, σ)
set_option maxRecDepth 100000 in
theorem E_Air_warmth_0 (l0 l1 l2 l3 : Int) (σ : mS) : mblk c_Air_warmth K_Air_warmth (C_Air_warmth) (F_Air_warmth_0) (fun v σ => some (v, σ)) 41 0 (mInit 6 [(3, l0), (3, l1), (1, l2), (1, l3)]) [] σ = M_Air_warmth l0 l1 l2 l3 σ := rfl
def C_RW_warm : Nat → List mV → mS → Option (Int × mS) := fun k as σ => match k, as with
  | 47, [(1, a0), (1, a1), (1, a2)] => M_RW_isWithin a0 a1 a2 σ
  | 48, [(1, a0)] => M_RW_isPlace a0 σ
  | 49, [(1, a0)] => M_RW_isHour a0 σ
  | 160, [(3, a0), (1, a1)] => M_Air_ofHour a0 a1 σ
  | 162, [(3, a0), (3, a1), (1, a2), (1, a3)] => M_Air_warmth a0 a1 a2 a3 σ
  | _, _ => none
def K_RW_warm : Nat → Bool := fun i => false
def F_RW_warm_0 : Nat → List mV → List mV → mS → Option (Int × mS) := fun i L st σ => match i, L, st with
  | _, _, _ => none
def M_RW_warm (l0 l1 l2 l3 : Int) (σ : mS) : Option (Int × mS) :=
  (M_RW_isPlace l1 σ).bind fun p1 =>
  if p1.1 = 0 then 
    some ((-1000000), p1.2)
  else
    (M_RW_isWithin l2 0 31 p1.2).bind fun p2 =>
    if p2.1 = 0 then 
      some ((-1000000), p2.2)
    else
      (M_RW_isHour l3 p2.2).bind fun p3 =>
      if p3.1 = 0 then 
        some ((-1000000), p3.2)
      else
        (gf 10 5 l0 p3.2).bind fun v4 =>
        (gf 10 5 l0 p3.2).bind fun v5 =>
        (gk 1 v5 p3.2).bind fun _ => (M_Air_ofHour v5 l3 p3.2).bind fun p6 =>
        (gk 1 v4 p6.2).bind fun _ => (M_Air_warmth v4 p6.1 l1 l2 p6.2).bind fun p7 =>
        some (p7.1, p7.2)
set_option maxRecDepth 100000 in
theorem E_RW_warm_0 (l0 l1 l2 l3 : Int) (σ : mS) : mblk c_RW_warm K_RW_warm (C_RW_warm) (F_RW_warm_0) (fun v σ => some (v, σ)) 24 0 (mInit 4 [(3, l0), (1, l1), (1, l2), (1, l3)]) [] σ = M_RW_warm l0 l1 l2 l3 σ := rfl
def C_RW_isAngle : Nat → List mV → mS → Option (Int × mS) := fun k as σ => match k, as with
  | 47, [(1, a0), (1, a1), (1, a2)] => M_RW_isWithin a0 a1 a2 σ
  | _, _ => none
def K_RW_isAngle : Nat → Bool := fun i => false
def F_RW_isAngle_0 : Nat → List mV → List mV → mS → Option (Int × mS) := fun i L st σ => match i, L, st with
  | _, _, _ => none
def M_RW_isAngle (l0 : Int) (σ : mS) : Option (Int × mS) :=
  (M_RW_isWithin l0 (-500) 500 σ).bind fun p1 =>
  if p1.1 = 0 ∨ p1.1 = 1 then some (p1.1, p1.2) else none
set_option maxRecDepth 100000 in
theorem E_RW_isAngle_0 (l0 : Int) (σ : mS) : mblk c_RW_isAngle K_RW_isAngle (C_RW_isAngle) (F_RW_isAngle_0) (fun v σ => some (v, σ)) 6 0 (mInit 1 [(1, l0)]) [] σ = M_RW_isAngle l0 σ := rfl
def C_Light_turnTo : Nat → List mV → mS → Option (Int × mS) := fun k as σ => match k, as with
  | 160, [(3, a0), (1, a1)] => M_Air_ofHour a0 a1 σ
  | _, _ => none
def K_Light_turnTo : Nat → Bool := fun i => false
def F_Light_turnTo_0 : Nat → List mV → List mV → mS → Option (Int × mS) := fun i L st σ => match i, L, st with
  | _, _, _ => none
def M_Light_turnTo (l0 l1 : Int) (σ : mS) : Option (Int × mS) :=
  (gf 5 1 l0 σ).bind fun v1 =>
  (gk 1 v1 σ).bind fun _ => (M_Air_ofHour v1 l1 σ).bind fun p2 =>
  (pf 5 5 l0 p2.1 p2.2).bind fun σ =>
  some (0, σ)
set_option maxRecDepth 100000 in
theorem E_Light_turnTo_0 (l0 l1 : Int) (σ : mS) : mblk c_Light_turnTo K_Light_turnTo (C_Light_turnTo) (F_Light_turnTo_0) (fun v σ => some (v, σ)) 8 0 (mInit 2 [(3, l0), (1, l1)]) [] σ = M_Light_turnTo l0 l1 σ := rfl
def C_Light_standByTerms : Nat → List mV → mS → Option (Int × mS) := fun k as σ => match k, as with
  | 189, [(3, a0), (1, a1)] => M_Light_turnTo a0 a1 σ
  | _, _ => none
def K_Light_standByTerms : Nat → Bool := fun i => false
def F_Light_standByTerms_0 : Nat → List mV → List mV → mS → Option (Int × mS) := fun i L st σ => match i, L, st with
  | _, _, _ => none
def M_Light_standByTerms (l0 : Int) (σ : mS) : Option (Int × mS) :=
  (gf 5 0 l0 σ).bind fun v1 =>
  (gf 7 6 v1 σ).bind fun v2 =>
  (ld 100 v2 0 σ).bind fun v3 =>
  (gk 5 l0 σ).bind fun _ => (M_Light_turnTo l0 v3 σ).bind fun p4 =>
  (gf 5 0 l0 p4.2).bind fun v5 =>
  (gf 7 6 v5 p4.2).bind fun v6 =>
  (ld 100 v6 1 p4.2).bind fun v7 =>
  (pf 5 6 l0 v7 p4.2).bind fun σ =>
  (gf 5 0 l0 σ).bind fun v8 =>
  (gf 7 6 v8 σ).bind fun v9 =>
  (ld 100 v9 2 σ).bind fun v10 =>
  (pf 5 3 l0 v10 σ).bind fun σ =>
  (gf 5 0 l0 σ).bind fun v11 =>
  (gf 7 6 v11 σ).bind fun v12 =>
  (ld 100 v12 3 σ).bind fun v13 =>
  (pf 5 4 l0 v13 σ).bind fun σ =>
  (pz 5 7 l0 0 σ).bind fun σ =>
  (pf 5 8 l0 0 σ).bind fun σ =>
  some (0, σ)
set_option maxRecDepth 100000 in
theorem E_Light_standByTerms_0 (l0 : Int) (σ : mS) : mblk c_Light_standByTerms K_Light_standByTerms (C_Light_standByTerms) (F_Light_standByTerms_0) (fun v σ => some (v, σ)) 36 0 (mInit 1 [(3, l0)]) [] σ = M_Light_standByTerms l0 σ := rfl
def C_Air_findPull : Nat → List mV → mS → Option (Int × mS) := fun k as σ => match k, as with
  | 162, [(3, a0), (3, a1), (1, a2), (1, a3)] => M_Air_warmth a0 a1 a2 a3 σ
  | _, _ => none
def K_Air_findPull : Nat → Bool := fun i => false
def F_Air_findPull_0 : Nat → List mV → List mV → mS → Option (Int × mS) := fun i L st σ => match i, L, st with
  | _, _, _ => none
def M_Air_findPull (l0 l1 l2 l3 : Int) (σ : mS) : Option (Int × mS) :=
  (gk 1 l0 σ).bind fun _ => (M_Air_warmth l0 l1 l2 (jmax (w32 (l3 - 1)) 0) σ).bind fun p1 =>
  (gk 1 l0 p1.2).bind fun _ => (M_Air_warmth l0 l1 l2 (jmin (w32 (l3 + 1)) 31) p1.2).bind fun p2 =>
  (gf 3 2 l1 p2.2).bind fun v3 =>
  (sd 100 v3 (w32 ((w32 (l2 * 32)) + l3)) (w32 (p1.1 - p2.1)) p2.2).bind fun σ =>
  some (w32 (p1.1 - p2.1), σ)
set_option maxRecDepth 100000 in
theorem E_Air_findPull_0 (l0 l1 l2 l3 : Int) (σ : mS) : mblk c_Air_findPull K_Air_findPull (C_Air_findPull) (F_Air_findPull_0) (fun v σ => some (v, σ)) 32 0 (mInit 5 [(3, l0), (3, l1), (1, l2), (1, l3)]) [] σ = M_Air_findPull l0 l1 l2 l3 σ := rfl
def C_Light_drawn : Nat → List mV → mS → Option (Int × mS) := fun k as σ => match k, as with
  | _, _ => none
def K_Light_drawn : Nat → Bool := fun i => false
def F_Light_drawn_0 : Nat → List mV → List mV → mS → Option (Int × mS) := fun i L st σ => match i, L, st with
  | _, _, _ => none
def M_Light_drawn (l0 l1 : Int) (σ : mS) : Option (Int × mS) :=
  (gf 5 9 l0 σ).bind fun v1 =>
  (lrm (w64 ((w64 (v1 * 1103)) + 12345)) 1000003).bind fun v2 =>
  (pf 5 9 l0 (w32 v2) σ).bind fun σ =>
  (gf 5 9 l0 σ).bind fun v3 =>
  (irm v3 l1).bind fun v4 =>
  some (v4, σ)
set_option maxRecDepth 100000 in
theorem E_Light_drawn_0 (l0 l1 : Int) (σ : mS) : mblk c_Light_drawn K_Light_drawn (C_Light_drawn) (F_Light_drawn_0) (fun v σ => some (v, σ)) 18 0 (mInit 2 [(3, l0), (1, l1)]) [] σ = M_Light_drawn l0 l1 σ := rfl
def C_Light_settle : Nat → List mV → mS → Option (Int × mS) := fun k as σ => match k, as with
  | _, _ => none
def K_Light_settle : Nat → Bool := fun i => false
def F_Light_settle_0 : Nat → List mV → List mV → mS → Option (Int × mS) := fun i L st σ => match i, L, st with
  | _, _, _ => none
def M_Light_settle (l0 l1 l2 l3 : Int) (σ : mS) : Option (Int × mS) :=
  (pf 5 15 l0 (-1) σ).bind fun σ =>
  (pf 5 16 l0 (-1) σ).bind fun σ =>
  if l3 = 0 then 
    (gf 5 12 l0 σ).bind fun v1 =>
    if v1 < 3200 then 
      if l2 < 0 then 
        (pf 5 14 l0 0 σ).bind fun σ =>
        some (0, σ)
      else
        (pf 5 14 l0 1 σ).bind fun σ =>
        (pf 5 15 l0 l1 σ).bind fun σ =>
        (idv l2 100).bind fun v2 =>
        (pf 5 16 l0 v2 σ).bind fun σ =>
        some (0, σ)
    else
      (pf 5 14 l0 2 σ).bind fun σ =>
      some (0, σ)
  else
    (pf 5 14 l0 2 σ).bind fun σ =>
    some (0, σ)
set_option maxRecDepth 100000 in
theorem E_Light_settle_0 (l0 l1 l2 l3 : Int) (σ : mS) : mblk c_Light_settle K_Light_settle (C_Light_settle) (F_Light_settle_0) (fun v σ => some (v, σ)) 35 0 (mInit 4 [(3, l0), (1, l1), (1, l2), (1, l3)]) [] σ = M_Light_settle l0 l1 l2 l3 σ := rfl
def C_Light_send : Nat → List mV → mS → Option (Int × mS) := fun k as σ => match k, as with
  | 161, [(3, a0), (3, a1), (1, a2), (1, a3)] => M_Air_findPull a0 a1 a2 a3 σ
  | 191, [(3, a0), (1, a1)] => M_Light_drawn a0 a1 σ
  | 192, [(3, a0), (1, a1), (1, a2), (1, a3)] => M_Light_settle a0 a1 a2 a3 σ
  | _, _ => none
def K_Light_send : Nat → Bool := fun i => i.beq 9 || i.beq 33 || i.beq 60 || i.beq 96 || i.beq 98 || i.beq 99 || i.beq 128 || i.beq 140 || i.beq 157
def F_Light_send_157 : Nat → List mV → List mV → mS → Option (Int × mS) := fun i L st σ => match i, L, st with
  | _, _, _ => none
def M_Light_send_157 (l0 l4 l5 l7 s1 s0 : Int) (σ : mS) : Option (Int × mS) :=
  (gf 5 0 l0 σ).bind fun v1 =>
  (gf 7 0 v1 σ).bind fun v2 =>
  (ld 100 v2 l4 σ).bind fun v3 =>
  (gk 5 s0 σ).bind fun _ => (M_Light_settle s0 s1 (w32 (l5 - (w32 (100 * v3)))) l7 σ).bind fun p4 =>
  some (0, p4.2)
set_option maxRecDepth 100000 in
theorem E_Light_send_157 (l0 l4 l5 l7 s1 s0 : Int) (σ : mS) : mblk c_Light_send K_Light_send (C_Light_send) (F_Light_send_157) (fun v σ => some (v, σ)) 170 157 ([(3, l0), (0, 0), (0, 0), (0, 0), (1, l4), (1, l5), (0, 0), (1, l7), (0, 0), (0, 0)]) [(1, s1), (3, s0)] σ = M_Light_send_157 l0 l4 l5 l7 s1 s0 σ := rfl
def F_Light_send_140 : Nat → List mV → List mV → mS → Option (Int × mS) := fun i L st σ => match i, L, st with
  | 157, [(3, l0), _, _, _, (1, l4), (1, l5), _, (1, l7), _, _], [(1, s1), (3, s0)] => M_Light_send_157 l0 l4 l5 l7 s1 s0 σ
  | _, _, _ => none
def M_Light_send_140 (l0 l2 l4 l5 l6 l7 : Int) (σ : mS) : Option (Int × mS) :=
  (pf 5 11 l0 l4 σ).bind fun σ =>
  (pf 5 12 l0 l5 σ).bind fun σ =>
  (pf 5 13 l0 l6 σ).bind fun σ =>
  if l7 = 0 then 
    (ld 100 l2 l4 σ).bind fun v1 =>
    M_Light_send_157 l0 l4 l5 l7 v1 l0 σ
  else
    M_Light_send_157 l0 l4 l5 l7 (-1) l0 σ
set_option maxRecDepth 100000 in
theorem E_Light_send_140 (l0 l2 l4 l5 l6 l7 : Int) (σ : mS) : mblk c_Light_send K_Light_send (C_Light_send) (F_Light_send_140) (fun v σ => some (v, σ)) 170 140 ([(3, l0), (0, 0), (3, l2), (0, 0), (1, l4), (1, l5), (1, l6), (1, l7), (0, 0), (0, 0)]) [] σ = M_Light_send_140 l0 l2 l4 l5 l6 l7 σ := rfl
def F_Light_send_128 : Nat → List mV → List mV → mS → Option (((Int × Int × Int × Int × mS) ⊕ (Int × mS))) := fun i L st σ => match i, L, st with
  | 33, [(3, l0), _, (3, l2), (3, l3), (1, l4), (1, l5), (1, l6), (1, l7), _, _], [] => some (.inl (l4, l5, l6, l7, σ))
  | _, _, _ => none
def M_Light_send_128 (l0 l2 l3 l4 l5 l6 l7 l9 : Int) (σ : mS) : Option (((Int × Int × Int × Int × mS) ⊕ (Int × mS))) :=
  (gf 5 6 l0 σ).bind fun v1 =>
  some (.inl (l4, l5, jmax (-2000) (jmin 2000 (w32 (l6 + (w32 (v1 * l9))))), l7, σ))
set_option maxRecDepth 100000 in
theorem E_Light_send_128 (l0 l2 l3 l4 l5 l6 l7 l9 : Int) (σ : mS) : mblk c_Light_send K_Light_send (C_Light_send) (F_Light_send_128) (fun v σ => some (.inr (v, σ))) 170 128 ([(3, l0), (0, 0), (3, l2), (3, l3), (1, l4), (1, l5), (1, l6), (1, l7), (0, 0), (1, l9)]) [] σ = M_Light_send_128 l0 l2 l3 l4 l5 l6 l7 l9 σ := rfl
def F_Light_send_99 : Nat → List mV → List mV → mS → Option (((Int × Int × Int × Int × mS) ⊕ (Int × mS))) := fun i L st σ => match i, L, st with
  | 33, [(3, l0), _, (3, l2), (3, l3), (1, l4), (1, l5), (1, l6), (1, l7), _, _], [] => some (.inl (l4, l5, l6, l7, σ))
  | 128, [(3, l0), _, (3, l2), (3, l3), (1, l4), (1, l5), (1, l6), (1, l7), _, (1, l9)], [] => M_Light_send_128 l0 l2 l3 l4 l5 l6 l7 l9 σ
  | _, _, _ => none
def M_Light_send_99 (l0 l2 l3 l4 l5 l6 s0 : Int) (σ : mS) : Option (((Int × Int × Int × Int × mS) ⊕ (Int × mS))) :=
  if s0 = 0 then 
    some (.inl (l4, l5, l6, s0, σ))
  else
    if l4 < 63 then 
      (idv l5 100).bind fun v1 =>
      (ld 100 l3 (w32 ((w32 (l4 * 32)) + v1)) σ).bind fun v2 =>
      if v2 = (-1000000) then 
        (gf 5 1 l0 σ).bind fun v3 =>
        (gf 5 5 l0 σ).bind fun v4 =>
        (idv l5 100).bind fun v5 =>
        (gk 1 v3 σ).bind fun _ => (M_Air_findPull v3 v4 l4 v5 σ).bind fun p6 =>
        M_Light_send_128 l0 l2 l3 l4 l5 l6 s0 p6.1 p6.2
      else
        M_Light_send_128 l0 l2 l3 l4 l5 l6 s0 v2 σ
    else
      some (.inl (l4, l5, l6, s0, σ))
set_option maxRecDepth 100000 in
theorem E_Light_send_99 (l0 l2 l3 l4 l5 l6 s0 : Int) (σ : mS) : mblk c_Light_send K_Light_send (C_Light_send) (F_Light_send_99) (fun v σ => some (.inr (v, σ))) 170 99 ([(3, l0), (0, 0), (3, l2), (3, l3), (1, l4), (1, l5), (1, l6), (0, 0), (0, 0), (0, 0)]) [(1, s0)] σ = M_Light_send_99 l0 l2 l3 l4 l5 l6 s0 σ := rfl
def F_Light_send_98 : Nat → List mV → List mV → mS → Option (((Int × Int × Int × Int × mS) ⊕ (Int × mS))) := fun i L st σ => match i, L, st with
  | 99, [(3, l0), _, (3, l2), (3, l3), (1, l4), (1, l5), (1, l6), _, _, _], [(1, s0)] => M_Light_send_99 l0 l2 l3 l4 l5 l6 s0 σ
  | _, _, _ => none
def M_Light_send_98 (l0 l2 l3 l4 l5 l6 : Int) (σ : mS) : Option (((Int × Int × Int × Int × mS) ⊕ (Int × mS))) :=
  M_Light_send_99 l0 l2 l3 l4 l5 l6 0 σ
set_option maxRecDepth 100000 in
theorem E_Light_send_98 (l0 l2 l3 l4 l5 l6 : Int) (σ : mS) : mblk c_Light_send K_Light_send (C_Light_send) (F_Light_send_98) (fun v σ => some (.inr (v, σ))) 170 98 ([(3, l0), (0, 0), (3, l2), (3, l3), (1, l4), (1, l5), (1, l6), (0, 0), (0, 0), (0, 0)]) [] σ = M_Light_send_98 l0 l2 l3 l4 l5 l6 σ := rfl
def F_Light_send_96 : Nat → List mV → List mV → mS → Option (((Int × Int × Int × Int × mS) ⊕ (Int × mS))) := fun i L st σ => match i, L, st with
  | 99, [(3, l0), _, (3, l2), (3, l3), (1, l4), (1, l5), (1, l6), _, _, _], [(1, s0)] => M_Light_send_99 l0 l2 l3 l4 l5 l6 s0 σ
  | _, _, _ => none
def M_Light_send_96 (l0 l2 l3 l4 l5 l6 : Int) (σ : mS) : Option (((Int × Int × Int × Int × mS) ⊕ (Int × mS))) :=
  M_Light_send_99 l0 l2 l3 l4 l5 l6 1 σ
set_option maxRecDepth 100000 in
theorem E_Light_send_96 (l0 l2 l3 l4 l5 l6 : Int) (σ : mS) : mblk c_Light_send K_Light_send (C_Light_send) (F_Light_send_96) (fun v σ => some (.inr (v, σ))) 170 96 ([(3, l0), (0, 0), (3, l2), (3, l3), (1, l4), (1, l5), (1, l6), (0, 0), (0, 0), (0, 0)]) [] σ = M_Light_send_96 l0 l2 l3 l4 l5 l6 σ := rfl
def F_Light_send_60 : Nat → List mV → List mV → mS → Option (((Int × Int × Int × Int × mS) ⊕ (Int × mS))) := fun i L st σ => match i, L, st with
  | 96, [(3, l0), _, (3, l2), (3, l3), (1, l4), (1, l5), (1, l6), _, _, _], [] => M_Light_send_96 l0 l2 l3 l4 l5 l6 σ
  | 98, [(3, l0), _, (3, l2), (3, l3), (1, l4), (1, l5), (1, l6), _, _, _], [] => M_Light_send_98 l0 l2 l3 l4 l5 l6 σ
  | _, _, _ => none
def M_Light_send_60 (l0 l2 l3 l4 l5 l6 : Int) (σ : mS) : Option (((Int × Int × Int × Int × mS) ⊕ (Int × mS))) :=
  (gf 5 10 l0 σ).bind fun v1 =>
  (sd 100 v1 l4 l5 σ).bind fun σ =>
  (gf 5 0 l0 σ).bind fun v2 =>
  (gf 7 0 v2 σ).bind fun v3 =>
  (ld 100 v3 l4 σ).bind fun v4 =>
  if (w32 (l5 - (w32 (100 * v4)))) < 0 then 
    M_Light_send_98 l0 l2 l3 l4 l5 l6 σ
  else
    if l5 < 3200 then 
      (ld 100 l2 l4 σ).bind fun v5 =>
      if v5 = (-1) then 
        M_Light_send_96 l0 l2 l3 l4 l5 l6 σ
      else
        (gf 5 0 l0 σ).bind fun v6 =>
        (gf 7 4 v6 σ).bind fun v7 =>
        (ld 100 l2 l4 σ).bind fun v8 =>
        (ld 100 v7 v8 σ).bind fun v9 =>
        if (w32 (l5 - (w32 (100 * v4)))) < (w32 (100 * v9)) then 
          M_Light_send_98 l0 l2 l3 l4 l5 l6 σ
        else
          M_Light_send_96 l0 l2 l3 l4 l5 l6 σ
    else
      M_Light_send_98 l0 l2 l3 l4 l5 l6 σ
set_option maxRecDepth 100000 in
theorem E_Light_send_60 (l0 l2 l3 l4 l5 l6 : Int) (σ : mS) : mblk c_Light_send K_Light_send (C_Light_send) (F_Light_send_60) (fun v σ => some (.inr (v, σ))) 170 60 ([(3, l0), (0, 0), (3, l2), (3, l3), (1, l4), (1, l5), (1, l6), (0, 0), (0, 0), (0, 0)]) [] σ = M_Light_send_60 l0 l2 l3 l4 l5 l6 σ := rfl
def F_Light_send_33 : Nat → List mV → List mV → mS → Option (((Int × Int × Int × Int × mS) ⊕ (Int × mS))) := fun i L st σ => match i, L, st with
  | 60, [(3, l0), _, (3, l2), (3, l3), (1, l4), (1, l5), (1, l6), _, _, _], [] => M_Light_send_60 l0 l2 l3 l4 l5 l6 σ
  | 140, [(3, l0), _, (3, l2), _, (1, l4), (1, l5), (1, l6), (1, l7), _, _], [] => (M_Light_send_140 l0 l2 l4 l5 l6 l7 σ).bind fun z => some (.inr z)
  | _, _, _ => none
def B_Light_send_33 (l0 l2 l3 l4 l5 l6 l7 : Int) (σ : mS) : Option (((Int × Int × Int × Int × mS) ⊕ (Int × mS))) :=
  if l7 = 0 then 
    (M_Light_send_140 l0 l2 l4 l5 l6 l7 σ).bind fun z => some (.inr z)
  else
    if l4 < 63 then 
      (gf 5 8 l0 σ).bind fun v1 =>
      if 0 < v1 then 
        (gf 5 8 l0 σ).bind fun v2 =>
        (gk 5 l0 σ).bind fun _ => (M_Light_drawn l0 (w32 ((w32 (2 * v2)) + 1)) σ).bind fun p3 =>
        (gf 5 8 l0 p3.2).bind fun v4 =>
        M_Light_send_60 l0 l2 l3 (w32 (l4 + 1)) (w32 ((w32 (l5 + l6)) + (w32 (p3.1 - v4)))) l6 p3.2
      else
        M_Light_send_60 l0 l2 l3 (w32 (l4 + 1)) (w32 (l5 + l6)) l6 σ
    else
      (M_Light_send_140 l0 l2 l4 l5 l6 l7 σ).bind fun z => some (.inr z)
set_option maxRecDepth 100000 in
theorem E_Light_send_33 (l0 l2 l3 l4 l5 l6 l7 : Int) (σ : mS) : mblk c_Light_send K_Light_send (C_Light_send) (F_Light_send_33) (fun v σ => some (.inr (v, σ))) 170 33 ([(3, l0), (0, 0), (3, l2), (3, l3), (1, l4), (1, l5), (1, l6), (1, l7), (0, 0), (0, 0)]) [] σ = B_Light_send_33 l0 l2 l3 l4 l5 l6 l7 σ := rfl
def M_Light_send_33 (l0 l2 l3 l4 l5 l6 l7 : Int) (σ : mS) : Option (Int × mS) := miter (fun s : Int × Int × Int × Int × mS => B_Light_send_33 l0 l2 l3 s.1 s.2.1 s.2.2.1 s.2.2.2.1 s.2.2.2.2) mN (l4, l5, l6, l7, σ)
def F_Light_send_9 : Nat → List mV → List mV → mS → Option (Int × mS) := fun i L st σ => match i, L, st with
  | 33, [(3, l0), _, (3, l2), (3, l3), (1, l4), (1, l5), (1, l6), (1, l7), _, _], [] => M_Light_send_33 l0 l2 l3 l4 l5 l6 l7 σ
  | _, _, _ => none
def M_Light_send_9 (l0 l1 s0 : Int) (σ : mS) : Option (Int × mS) :=
  (gf 5 5 l0 σ).bind fun v1 =>
  (gf 3 2 v1 σ).bind fun v2 =>
  (gf 5 3 l0 σ).bind fun v3 =>
  (gf 5 4 l0 σ).bind fun v4 =>
  (gf 5 10 l0 σ).bind fun v5 =>
  (sd 100 v5 v3 (w32 ((w32 (100 * v4)) + 50)) σ).bind fun σ =>
  M_Light_send_33 l0 s0 v2 v3 (w32 ((w32 (100 * v4)) + 50)) l1 1 σ
set_option maxRecDepth 100000 in
theorem E_Light_send_9 (l0 l1 s0 : Int) (σ : mS) : mblk c_Light_send K_Light_send (C_Light_send) (F_Light_send_9) (fun v σ => some (v, σ)) 170 9 ([(3, l0), (1, l1), (0, 0), (0, 0), (0, 0), (0, 0), (0, 0), (0, 0), (0, 0), (0, 0)]) [(3, s0)] σ = M_Light_send_9 l0 l1 s0 σ := rfl
def F_Light_send_0 : Nat → List mV → List mV → mS → Option (Int × mS) := fun i L st σ => match i, L, st with
  | 9, [(3, l0), (1, l1), _, _, _, _, _, _, _, _], [(3, s0)] => M_Light_send_9 l0 l1 s0 σ
  | _, _, _ => none
def M_Light_send (l0 l1 : Int) (σ : mS) : Option (Int × mS) :=
  (gf 5 7 l0 σ).bind fun v1 =>
  if v1 = 0 then 
    (gf 5 0 l0 σ).bind fun v2 =>
    (gf 7 2 v2 σ).bind fun v3 =>
    M_Light_send_9 l0 l1 v3 σ
  else
    (gf 5 2 l0 σ).bind fun v4 =>
    M_Light_send_9 l0 l1 v4 σ
set_option maxRecDepth 100000 in
theorem E_Light_send_0 (l0 l1 : Int) (σ : mS) : mblk c_Light_send K_Light_send (C_Light_send) (F_Light_send_0) (fun v σ => some (v, σ)) 170 0 (mInit 10 [(3, l0), (1, l1)]) [] σ = M_Light_send l0 l1 σ := rfl
def C_Light_lowestPlace : Nat → List mV → mS → Option (Int × mS) := fun k as σ => match k, as with
  | _, _ => none
def K_Light_lowestPlace : Nat → Bool := fun i => i.beq 8
def F_Light_lowestPlace_8 : Nat → List mV → List mV → mS → Option (((Int × Int × mS) ⊕ (Int × mS))) := fun i L st σ => match i, L, st with
  | 8, [(3, l0), (1, l1), (1, l2)], [] => some (.inl (l1, l2, σ))
  | _, _, _ => none
def B_Light_lowestPlace_8 (l0 l1 l2 : Int) (σ : mS) : Option (((Int × Int × mS) ⊕ (Int × mS))) :=
  (gf 5 11 l0 σ).bind fun v1 =>
  if v1 < l2 then 
    some (.inr (l1, σ))
  else
    (gf 5 10 l0 σ).bind fun v2 =>
    (ld 100 v2 l2 σ).bind fun v3 =>
    (gf 5 10 l0 σ).bind fun v4 =>
    (ld 100 v4 l1 σ).bind fun v5 =>
    if v3 < v5 then 
      some (.inl (l2, w32 (l2 + 1), σ))
    else
      some (.inl (l1, w32 (l2 + 1), σ))
set_option maxRecDepth 100000 in
theorem E_Light_lowestPlace_8 (l0 l1 l2 : Int) (σ : mS) : mblk c_Light_lowestPlace K_Light_lowestPlace (C_Light_lowestPlace) (F_Light_lowestPlace_8) (fun v σ => some (.inr (v, σ))) 28 8 ([(3, l0), (1, l1), (1, l2)]) [] σ = B_Light_lowestPlace_8 l0 l1 l2 σ := rfl
def M_Light_lowestPlace_8 (l0 l1 l2 : Int) (σ : mS) : Option (Int × mS) := miter (fun s : Int × Int × mS => B_Light_lowestPlace_8 l0 s.1 s.2.1 s.2.2) mN (l1, l2, σ)
def F_Light_lowestPlace_0 : Nat → List mV → List mV → mS → Option (Int × mS) := fun i L st σ => match i, L, st with
  | 8, [(3, l0), (1, l1), (1, l2)], [] => M_Light_lowestPlace_8 l0 l1 l2 σ
  | _, _, _ => none
def M_Light_lowestPlace (l0 : Int) (σ : mS) : Option (Int × mS) :=
  (gf 5 3 l0 σ).bind fun v1 =>
  (gf 5 3 l0 σ).bind fun v2 =>
  M_Light_lowestPlace_8 l0 v1 (w32 (v2 + 1)) σ
set_option maxRecDepth 100000 in
theorem E_Light_lowestPlace_0 (l0 : Int) (σ : mS) : mblk c_Light_lowestPlace K_Light_lowestPlace (C_Light_lowestPlace) (F_Light_lowestPlace_0) (fun v σ => some (v, σ)) 28 0 (mInit 3 [(3, l0)]) [] σ = M_Light_lowestPlace l0 σ := rfl
def C_JI_signum : Nat → List mV → mS → Option (Int × mS) := fun k as σ => match k, as with
  | _, _ => none
def K_JI_signum : Nat → Bool := fun i => false
def F_JI_signum_0 : Nat → List mV → List mV → mS → Option (Int × mS) := fun i L st σ => match i, L, st with
  | _, _, _ => none
def M_JI_signum (l0 : Int) (σ : mS) : Option (Int × mS) :=
  some (ior (ishr l0 31) (iushr (w32 (-l0)) 31), σ)
set_option maxRecDepth 100000 in
theorem E_JI_signum_0 (l0 : Int) (σ : mS) : mblk c_JI_signum K_JI_signum (C_JI_signum) (F_JI_signum_0) (fun v σ => some (v, σ)) 10 0 (mInit 1 [(1, l0)]) [] σ = M_JI_signum l0 σ := rfl
def C_Light_turns : Nat → List mV → mS → Option (Int × mS) := fun k as σ => match k, as with
  | 239, [(1, a0)] => M_JI_signum a0 σ
  | _, _ => none
def K_Light_turns : Nat → Bool := fun i => i.beq 7 || i.beq 34
def F_Light_turns_34 : Nat → List mV → List mV → mS → Option (((Int × Int × Int × mS) ⊕ (Int × mS))) := fun i L st σ => match i, L, st with
  | 7, [(3, l0), (1, l1), (1, l2), (1, l3), _], [] => some (.inl (l1, l2, l3, σ))
  | _, _, _ => none
def M_Light_turns_34 (l0 l3 l4 s1 s0 : Int) (σ : mS) : Option (((Int × Int × Int × mS) ⊕ (Int × mS))) :=
  some (.inl (w32 (s0 + s1), l4, w32 (l3 + 1), σ))
set_option maxRecDepth 100000 in
theorem E_Light_turns_34 (l0 l3 l4 s1 s0 : Int) (σ : mS) : mblk c_Light_turns K_Light_turns (C_Light_turns) (F_Light_turns_34) (fun v σ => some (.inr (v, σ))) 43 34 ([(3, l0), (0, 0), (0, 0), (1, l3), (1, l4)]) [(1, s1), (1, s0)] σ = M_Light_turns_34 l0 l3 l4 s1 s0 σ := rfl
def F_Light_turns_7 : Nat → List mV → List mV → mS → Option (((Int × Int × Int × mS) ⊕ (Int × mS))) := fun i L st σ => match i, L, st with
  | 7, [(3, l0), (1, l1), (1, l2), (1, l3), _], [] => some (.inl (l1, l2, l3, σ))
  | 34, [(3, l0), _, _, (1, l3), (1, l4)], [(1, s1), (1, s0)] => M_Light_turns_34 l0 l3 l4 s1 s0 σ
  | _, _, _ => none
def B_Light_turns_7 (l0 l1 l2 l3 : Int) (σ : mS) : Option (((Int × Int × Int × mS) ⊕ (Int × mS))) :=
  (gf 5 11 l0 σ).bind fun v1 =>
  if l3 < v1 then 
    (gf 5 10 l0 σ).bind fun v2 =>
    (ld 100 v2 (w32 (l3 + 1)) σ).bind fun v3 =>
    (gf 5 10 l0 σ).bind fun v4 =>
    (ld 100 v4 l3 σ).bind fun v5 =>
    (M_JI_signum (w32 (v3 - v5)) σ).bind fun p6 =>
    if p6.1 = 0 then 
      some (.inl (l1, l2, w32 (l3 + 1), p6.2))
    else
      if p6.1 = (w32 (-l2)) then 
        M_Light_turns_34 l0 l3 p6.1 1 l1 p6.2
      else
        M_Light_turns_34 l0 l3 p6.1 0 l1 p6.2
  else
    some (.inr (l1, σ))
set_option maxRecDepth 100000 in
theorem E_Light_turns_7 (l0 l1 l2 l3 : Int) (σ : mS) : mblk c_Light_turns K_Light_turns (C_Light_turns) (F_Light_turns_7) (fun v σ => some (.inr (v, σ))) 43 7 ([(3, l0), (1, l1), (1, l2), (1, l3), (0, 0)]) [] σ = B_Light_turns_7 l0 l1 l2 l3 σ := rfl
def M_Light_turns_7 (l0 l1 l2 l3 : Int) (σ : mS) : Option (Int × mS) := miter (fun s : Int × Int × Int × mS => B_Light_turns_7 l0 s.1 s.2.1 s.2.2.1 s.2.2.2) mN (l1, l2, l3, σ)
def F_Light_turns_0 : Nat → List mV → List mV → mS → Option (Int × mS) := fun i L st σ => match i, L, st with
  | 7, [(3, l0), (1, l1), (1, l2), (1, l3), _], [] => M_Light_turns_7 l0 l1 l2 l3 σ
  | _, _, _ => none
def M_Light_turns (l0 : Int) (σ : mS) : Option (Int × mS) :=
  (gf 5 3 l0 σ).bind fun v1 =>
  M_Light_turns_7 l0 0 0 v1 σ
set_option maxRecDepth 100000 in
theorem E_Light_turns_0 (l0 : Int) (σ : mS) : mblk c_Light_turns K_Light_turns (C_Light_turns) (F_Light_turns_0) (fun v σ => some (v, σ)) 43 0 (mInit 5 [(3, l0)]) [] σ = M_Light_turns l0 σ := rfl
def C_RW_ray : Nat → List mV → mS → Option (Int × mS) := fun k as σ => match k, as with
  | 51, [(1, a0)] => M_RW_isAngle a0 σ
  | 188, [(3, a0)] => M_Light_standByTerms a0 σ
  | 190, [(3, a0), (1, a1)] => M_Light_send a0 a1 σ
  | 193, [(3, a0)] => M_Light_lowestPlace a0 σ
  | 194, [(3, a0)] => M_Light_turns a0 σ
  | _, _ => none
def K_RW_ray : Nat → Bool := fun i => false
def F_RW_ray_0 : Nat → List mV → List mV → mS → Option (Int × mS) := fun i L st σ => match i, L, st with
  | _, _, _ => none
def M_RW_ray (l0 l1 l2 : Int) (σ : mS) : Option (Int × mS) :=
  (M_RW_isAngle l1 σ).bind fun p1 =>
  if p1.1 = 0 then 
    some ((-1000000), p1.2)
  else
    (gf 10 6 l0 p1.2).bind fun v2 =>
    (gk 5 v2 p1.2).bind fun _ => (M_Light_standByTerms v2 p1.2).bind fun p3 =>
    (gf 10 6 l0 p3.2).bind fun v4 =>
    (gk 5 v4 p3.2).bind fun _ => (M_Light_send v4 l1 p3.2).bind fun p5 =>
    if l2 = 0 then
      (gf 10 6 l0 p5.2).bind fun v6 =>
      (gf 5 14 v6 p5.2).bind fun v7 =>
      some (v7, p5.2)
    else if l2 = 1 then
      (gf 10 6 l0 p5.2).bind fun v8 =>
      (gf 5 11 v8 p5.2).bind fun v9 =>
      some (v9, p5.2)
    else if l2 = 2 then
      (gf 10 6 l0 p5.2).bind fun v10 =>
      (gf 5 15 v10 p5.2).bind fun v11 =>
      some (v11, p5.2)
    else if l2 = 3 then
      (gf 10 6 l0 p5.2).bind fun v12 =>
      (gf 5 16 v12 p5.2).bind fun v13 =>
      some (v13, p5.2)
    else if l2 = 4 then
      (gf 10 6 l0 p5.2).bind fun v14 =>
      (gf 5 12 v14 p5.2).bind fun v15 =>
      some (v15, p5.2)
    else if l2 = 5 then
      (gf 10 6 l0 p5.2).bind fun v16 =>
      (gf 5 10 v16 p5.2).bind fun v17 =>
      (gf 10 6 l0 p5.2).bind fun v18 =>
      (gk 5 v18 p5.2).bind fun _ => (M_Light_lowestPlace v18 p5.2).bind fun p19 =>
      (ld 100 v17 p19.1 p19.2).bind fun v20 =>
      some (v20, p19.2)
    else if l2 = 6 then
      (gf 10 6 l0 p5.2).bind fun v21 =>
      (gk 5 v21 p5.2).bind fun _ => (M_Light_turns v21 p5.2).bind fun p22 =>
      some (p22.1, p22.2)
    else if l2 = 7 then
      (gf 10 6 l0 p5.2).bind fun v23 =>
      (gf 5 13 v23 p5.2).bind fun v24 =>
      some (v24, p5.2)
    else 
      some ((-1000000), p5.2)
set_option maxRecDepth 100000 in
theorem E_RW_ray_0 (l0 l1 l2 : Int) (σ : mS) : mblk c_RW_ray K_RW_ray (C_RW_ray) (F_RW_ray_0) (fun v σ => some (v, σ)) 53 0 (mInit 3 [(3, l0), (1, l1), (1, l2)]) [] σ = M_RW_ray l0 l1 l2 σ := rfl
def C_Light_comesTo : Nat → List mV → mS → Option (Int × mS) := fun k as σ => match k, as with
  | _, _ => none
def K_Light_comesTo : Nat → Bool := fun i => false
def F_Light_comesTo_0 : Nat → List mV → List mV → mS → Option (Int × mS) := fun i L st σ => match i, L, st with
  | _, _, _ => none
def M_Light_comesTo (l0 l1 : Int) (σ : mS) : Option (Int × mS) :=
  (gf 5 3 l0 σ).bind fun v1 =>
  if l1 < v1 then 
    if 0 = 0 ∨ 0 = 1 then some (0, σ) else none
  else
    (gf 5 11 l0 σ).bind fun v2 =>
    if v2 < l1 then 
      if 0 = 0 ∨ 0 = 1 then some (0, σ) else none
    else
      if 1 = 0 ∨ 1 = 1 then some (1, σ) else none
set_option maxRecDepth 100000 in
theorem E_Light_comesTo_0 (l0 l1 : Int) (σ : mS) : mblk c_Light_comesTo K_Light_comesTo (C_Light_comesTo) (F_Light_comesTo_0) (fun v σ => some (v, σ)) 13 0 (mInit 2 [(3, l0), (1, l1)]) [] σ = M_Light_comesTo l0 l1 σ := rfl
def C_RW_at : Nat → List mV → mS → Option (Int × mS) := fun k as σ => match k, as with
  | 48, [(1, a0)] => M_RW_isPlace a0 σ
  | 51, [(1, a0)] => M_RW_isAngle a0 σ
  | 188, [(3, a0)] => M_Light_standByTerms a0 σ
  | 190, [(3, a0), (1, a1)] => M_Light_send a0 a1 σ
  | 195, [(3, a0), (1, a1)] => M_Light_comesTo a0 a1 σ
  | _, _ => none
def K_RW_at : Nat → Bool := fun i => false
def F_RW_at_0 : Nat → List mV → List mV → mS → Option (Int × mS) := fun i L st σ => match i, L, st with
  | _, _, _ => none
def M_RW_at (l0 l1 l2 : Int) (σ : mS) : Option (Int × mS) :=
  (M_RW_isAngle l1 σ).bind fun p1 =>
  if p1.1 = 0 then 
    some ((-1000000), p1.2)
  else
    (M_RW_isPlace l2 p1.2).bind fun p2 =>
    if p2.1 = 0 then 
      some ((-1000000), p2.2)
    else
      (gf 10 6 l0 p2.2).bind fun v3 =>
      (gk 5 v3 p2.2).bind fun _ => (M_Light_standByTerms v3 p2.2).bind fun p4 =>
      (gf 10 6 l0 p4.2).bind fun v5 =>
      (gk 5 v5 p4.2).bind fun _ => (M_Light_send v5 l1 p4.2).bind fun p6 =>
      (gf 10 6 l0 p6.2).bind fun v7 =>
      (gk 5 v7 p6.2).bind fun _ => (M_Light_comesTo v7 l2 p6.2).bind fun p8 =>
      if p8.1 = 0 then 
        some ((-1000000), p8.2)
      else
        (gf 10 6 l0 p8.2).bind fun v9 =>
        (gf 5 10 v9 p8.2).bind fun v10 =>
        (ld 100 v10 l2 p8.2).bind fun v11 =>
        some (v11, p8.2)
set_option maxRecDepth 100000 in
theorem E_RW_at_0 (l0 l1 l2 : Int) (σ : mS) : mblk c_RW_at K_RW_at (C_RW_at) (F_RW_at_0) (fun v σ => some (v, σ)) 29 0 (mInit 3 [(3, l0), (1, l1), (1, l2)]) [] σ = M_RW_at l0 l1 l2 σ := rfl
def C_Field_look : Nat → List mV → mS → Option (Int × mS) := fun k as σ => match k, as with
  | 190, [(3, a0), (1, a1)] => M_Light_send a0 a1 σ
  | _, _ => none
def K_Field_look : Nat → Bool := fun i => i.beq 24
def F_Field_look_24 : Nat → List mV → List mV → mS → Option (((Int × mS) ⊕ (Int × mS))) := fun i L st σ => match i, L, st with
  | 24, [(3, l0), (1, l1)], [] => some (.inl (l1, σ))
  | _, _, _ => none
def B_Field_look_24 (l0 l1 : Int) (σ : mS) : Option (((Int × mS) ⊕ (Int × mS))) :=
  if l1 < 201 then 
    (gf 2 0 l0 σ).bind fun v1 =>
    (gk 5 v1 σ).bind fun _ => (M_Light_send v1 (w32 (l1 - 100)) σ).bind fun p2 =>
    (gf 2 1 l0 p2.2).bind fun v3 =>
    (gf 2 0 l0 p2.2).bind fun v4 =>
    (gf 5 14 v4 p2.2).bind fun v5 =>
    (sd 100 v3 l1 v5 p2.2).bind fun σ =>
    (gf 2 2 l0 σ).bind fun v6 =>
    (gf 2 0 l0 σ).bind fun v7 =>
    (gf 5 15 v7 σ).bind fun v8 =>
    (sd 100 v6 l1 v8 σ).bind fun σ =>
    (gf 2 3 l0 σ).bind fun v9 =>
    (gf 2 0 l0 σ).bind fun v10 =>
    (gf 5 16 v10 σ).bind fun v11 =>
    (sd 100 v9 l1 v11 σ).bind fun σ =>
    some (.inl (w32 (l1 + 1), σ))
  else
    (pz 2 4 l0 1 σ).bind fun σ =>
    (gf 2 0 l0 σ).bind fun v12 =>
    (gf 5 5 v12 σ).bind fun v13 =>
    (pf 2 5 l0 v13 σ).bind fun σ =>
    (gf 2 0 l0 σ).bind fun v14 =>
    (gf 5 6 v14 σ).bind fun v15 =>
    (pf 2 6 l0 v15 σ).bind fun σ =>
    (gf 2 0 l0 σ).bind fun v16 =>
    (gf 5 4 v16 σ).bind fun v17 =>
    (pf 2 7 l0 v17 σ).bind fun σ =>
    some (.inr (0, σ))
set_option maxRecDepth 100000 in
theorem E_Field_look_24 (l0 l1 : Int) (σ : mS) : mblk c_Field_look K_Field_look (C_Field_look) (F_Field_look_24) (fun v σ => some (.inr (v, σ))) 76 24 ([(3, l0), (1, l1)]) [] σ = B_Field_look_24 l0 l1 σ := rfl
def M_Field_look_24 (l0 l1 : Int) (σ : mS) : Option (Int × mS) := miter (fun s : Int × mS => B_Field_look_24 l0 s.1 s.2) mN (l1, σ)
def F_Field_look_0 : Nat → List mV → List mV → mS → Option (Int × mS) := fun i L st σ => match i, L, st with
  | 24, [(3, l0), (1, l1)], [] => M_Field_look_24 l0 l1 σ
  | _, _, _ => none
def M_Field_look (l0 : Int) (σ : mS) : Option (Int × mS) :=
  (gf 2 4 l0 σ).bind fun v1 =>
  if v1 = 0 then 
    M_Field_look_24 l0 0 σ
  else
    (gf 2 5 l0 σ).bind fun v2 =>
    (gf 2 0 l0 σ).bind fun v3 =>
    (gf 5 5 v3 σ).bind fun v4 =>
    (nng v2 v4).bind fun _ =>
    if v2 = v4 then 
      (gf 2 6 l0 σ).bind fun v5 =>
      (gf 2 0 l0 σ).bind fun v6 =>
      (gf 5 6 v6 σ).bind fun v7 =>
      if v5 = v7 then 
        (gf 2 7 l0 σ).bind fun v8 =>
        (gf 2 0 l0 σ).bind fun v9 =>
        (gf 5 4 v9 σ).bind fun v10 =>
        if v8 = v10 then 
          some (0, σ)
        else
          M_Field_look_24 l0 0 σ
      else
        M_Field_look_24 l0 0 σ
    else
      M_Field_look_24 l0 0 σ
set_option maxRecDepth 100000 in
theorem E_Field_look_0 (l0 : Int) (σ : mS) : mblk c_Field_look K_Field_look (C_Field_look) (F_Field_look_0) (fun v σ => some (v, σ)) 76 0 (mInit 2 [(3, l0)]) [] σ = M_Field_look l0 σ := rfl
def C_Field_raysTo : Nat → List mV → mS → Option (Int × mS) := fun k as σ => match k, as with
  | _, _ => none
def K_Field_raysTo : Nat → Bool := fun i => i.beq 4
def F_Field_raysTo_4 : Nat → List mV → List mV → mS → Option (((Int × Int × mS) ⊕ (Int × mS))) := fun i L st σ => match i, L, st with
  | 4, [(3, l0), (1, l1), (1, l2), (1, l3)], [] => some (.inl (l2, l3, σ))
  | _, _, _ => none
def B_Field_raysTo_4 (l0 l1 l2 l3 : Int) (σ : mS) : Option (((Int × Int × mS) ⊕ (Int × mS))) :=
  if l3 < 201 then 
    (gf 2 2 l0 σ).bind fun v1 =>
    (ld 100 v1 l3 σ).bind fun v2 =>
    if v2 = l1 then 
      some (.inl (w32 (l2 + 1), w32 (l3 + 1), σ))
    else
      some (.inl (l2, w32 (l3 + 1), σ))
  else
    some (.inr (l2, σ))
set_option maxRecDepth 100000 in
theorem E_Field_raysTo_4 (l0 l1 l2 l3 : Int) (σ : mS) : mblk c_Field_raysTo K_Field_raysTo (C_Field_raysTo) (F_Field_raysTo_4) (fun v σ => some (.inr (v, σ))) 19 4 ([(3, l0), (1, l1), (1, l2), (1, l3)]) [] σ = B_Field_raysTo_4 l0 l1 l2 l3 σ := rfl
def M_Field_raysTo_4 (l0 l1 l2 l3 : Int) (σ : mS) : Option (Int × mS) := miter (fun s : Int × Int × mS => B_Field_raysTo_4 l0 l1 s.1 s.2.1 s.2.2) mN (l2, l3, σ)
def F_Field_raysTo_0 : Nat → List mV → List mV → mS → Option (Int × mS) := fun i L st σ => match i, L, st with
  | 4, [(3, l0), (1, l1), (1, l2), (1, l3)], [] => M_Field_raysTo_4 l0 l1 l2 l3 σ
  | _, _, _ => none
def M_Field_raysTo (l0 l1 : Int) (σ : mS) : Option (Int × mS) :=
  M_Field_raysTo_4 l0 l1 0 0 σ
set_option maxRecDepth 100000 in
theorem E_Field_raysTo_0 (l0 l1 : Int) (σ : mS) : mblk c_Field_raysTo K_Field_raysTo (C_Field_raysTo) (F_Field_raysTo_0) (fun v σ => some (v, σ)) 19 0 (mInit 4 [(3, l0), (1, l1)]) [] σ = M_Field_raysTo l0 l1 σ := rfl
def C_RW_seen : Nat → List mV → mS → Option (Int × mS) := fun k as σ => match k, as with
  | 166, [(3, a0)] => M_Field_look a0 σ
  | 167, [(3, a0), (1, a1)] => M_Field_raysTo a0 a1 σ
  | 188, [(3, a0)] => M_Light_standByTerms a0 σ
  | 222, [(3, a0), (1, a1)] => M_Road_hasThing a0 a1 σ
  | _, _ => none
def K_RW_seen : Nat → Bool := fun i => false
def F_RW_seen_0 : Nat → List mV → List mV → mS → Option (Int × mS) := fun i L st σ => match i, L, st with
  | _, _, _ => none
def M_RW_seen (l0 l1 : Int) (σ : mS) : Option (Int × mS) :=
  (gf 10 0 l0 σ).bind fun v1 =>
  (gk 7 v1 σ).bind fun _ => (M_Road_hasThing v1 l1 σ).bind fun p2 =>
  if p2.1 = 0 then 
    some ((-1), p2.2)
  else
    (gf 10 6 l0 p2.2).bind fun v3 =>
    (gk 5 v3 p2.2).bind fun _ => (M_Light_standByTerms v3 p2.2).bind fun p4 =>
    (gf 10 7 l0 p4.2).bind fun v5 =>
    (gk 2 v5 p4.2).bind fun _ => (M_Field_look v5 p4.2).bind fun p6 =>
    (gf 10 7 l0 p6.2).bind fun v7 =>
    (gk 2 v7 p6.2).bind fun _ => (M_Field_raysTo v7 l1 p6.2).bind fun p8 =>
    some (p8.1, p8.2)
set_option maxRecDepth 100000 in
theorem E_RW_seen_0 (l0 l1 : Int) (σ : mS) : mblk c_RW_seen K_RW_seen (C_RW_seen) (F_RW_seen_0) (fun v σ => some (v, σ)) 19 0 (mInit 2 [(3, l0), (1, l1)]) [] σ = M_RW_seen l0 l1 σ := rfl
def C_Field_startsPicture : Nat → List mV → mS → Option (Int × mS) := fun k as σ => match k, as with
  | _, _ => none
def K_Field_startsPicture : Nat → Bool := fun i => false
def F_Field_startsPicture_0 : Nat → List mV → List mV → mS → Option (Int × mS) := fun i L st σ => match i, L, st with
  | _, _, _ => none
def M_Field_startsPicture (l0 l1 l2 : Int) (σ : mS) : Option (Int × mS) :=
  (gf 2 2 l0 σ).bind fun v1 =>
  (ld 100 v1 l1 σ).bind fun v2 =>
  if v2 = l2 then 
    if l1 = 0 then 
      if 1 = 0 ∨ 1 = 1 then some (1, σ) else none
    else
      (gf 2 2 l0 σ).bind fun v3 =>
      (ld 100 v3 (w32 (l1 - 1)) σ).bind fun v4 =>
      if v4 = l2 then 
        if 0 = 0 ∨ 0 = 1 then some (0, σ) else none
      else
        if 1 = 0 ∨ 1 = 1 then some (1, σ) else none
  else
    if 0 = 0 ∨ 0 = 1 then some (0, σ) else none
set_option maxRecDepth 100000 in
theorem E_Field_startsPicture_0 (l0 l1 l2 : Int) (σ : mS) : mblk c_Field_startsPicture K_Field_startsPicture (C_Field_startsPicture) (F_Field_startsPicture_0) (fun v σ => some (v, σ)) 21 0 (mInit 3 [(3, l0), (1, l1), (1, l2)]) [] σ = M_Field_startsPicture l0 l1 l2 σ := rfl
def C_Field_picturesOf : Nat → List mV → mS → Option (Int × mS) := fun k as σ => match k, as with
  | 168, [(3, a0), (1, a1), (1, a2)] => M_Field_startsPicture a0 a1 a2 σ
  | _, _ => none
def K_Field_picturesOf : Nat → Bool := fun i => i.beq 4
def F_Field_picturesOf_4 : Nat → List mV → List mV → mS → Option (((Int × Int × mS) ⊕ (Int × mS))) := fun i L st σ => match i, L, st with
  | 4, [(3, l0), (1, l1), (1, l2), (1, l3)], [] => some (.inl (l2, l3, σ))
  | _, _, _ => none
def B_Field_picturesOf_4 (l0 l1 l2 l3 : Int) (σ : mS) : Option (((Int × Int × mS) ⊕ (Int × mS))) :=
  if l3 < 201 then 
    (gk 2 l0 σ).bind fun _ => (M_Field_startsPicture l0 l3 l1 σ).bind fun p1 =>
    if p1.1 = 0 then 
      some (.inl (l2, w32 (l3 + 1), p1.2))
    else
      some (.inl (w32 (l2 + 1), w32 (l3 + 1), p1.2))
  else
    some (.inr (l2, σ))
set_option maxRecDepth 100000 in
theorem E_Field_picturesOf_4 (l0 l1 l2 l3 : Int) (σ : mS) : mblk c_Field_picturesOf K_Field_picturesOf (C_Field_picturesOf) (F_Field_picturesOf_4) (fun v σ => some (.inr (v, σ))) 18 4 ([(3, l0), (1, l1), (1, l2), (1, l3)]) [] σ = B_Field_picturesOf_4 l0 l1 l2 l3 σ := rfl
def M_Field_picturesOf_4 (l0 l1 l2 l3 : Int) (σ : mS) : Option (Int × mS) := miter (fun s : Int × Int × mS => B_Field_picturesOf_4 l0 l1 s.1 s.2.1 s.2.2) mN (l2, l3, σ)
def F_Field_picturesOf_0 : Nat → List mV → List mV → mS → Option (Int × mS) := fun i L st σ => match i, L, st with
  | 4, [(3, l0), (1, l1), (1, l2), (1, l3)], [] => M_Field_picturesOf_4 l0 l1 l2 l3 σ
  | _, _, _ => none
def M_Field_picturesOf (l0 l1 : Int) (σ : mS) : Option (Int × mS) :=
  M_Field_picturesOf_4 l0 l1 0 0 σ
set_option maxRecDepth 100000 in
theorem E_Field_picturesOf_0 (l0 l1 : Int) (σ : mS) : mblk c_Field_picturesOf K_Field_picturesOf (C_Field_picturesOf) (F_Field_picturesOf_0) (fun v σ => some (v, σ)) 18 0 (mInit 4 [(3, l0), (1, l1)]) [] σ = M_Field_picturesOf l0 l1 σ := rfl
def C_RW_pictures : Nat → List mV → mS → Option (Int × mS) := fun k as σ => match k, as with
  | 166, [(3, a0)] => M_Field_look a0 σ
  | 169, [(3, a0), (1, a1)] => M_Field_picturesOf a0 a1 σ
  | 188, [(3, a0)] => M_Light_standByTerms a0 σ
  | 222, [(3, a0), (1, a1)] => M_Road_hasThing a0 a1 σ
  | _, _ => none
def K_RW_pictures : Nat → Bool := fun i => false
def F_RW_pictures_0 : Nat → List mV → List mV → mS → Option (Int × mS) := fun i L st σ => match i, L, st with
  | _, _, _ => none
def M_RW_pictures (l0 l1 : Int) (σ : mS) : Option (Int × mS) :=
  (gf 10 0 l0 σ).bind fun v1 =>
  (gk 7 v1 σ).bind fun _ => (M_Road_hasThing v1 l1 σ).bind fun p2 =>
  if p2.1 = 0 then 
    some ((-1), p2.2)
  else
    (gf 10 6 l0 p2.2).bind fun v3 =>
    (gk 5 v3 p2.2).bind fun _ => (M_Light_standByTerms v3 p2.2).bind fun p4 =>
    (gf 10 7 l0 p4.2).bind fun v5 =>
    (gk 2 v5 p4.2).bind fun _ => (M_Field_look v5 p4.2).bind fun p6 =>
    (gf 10 7 l0 p6.2).bind fun v7 =>
    (gk 2 v7 p6.2).bind fun _ => (M_Field_picturesOf v7 l1 p6.2).bind fun p8 =>
    some (p8.1, p8.2)
set_option maxRecDepth 100000 in
theorem E_RW_pictures_0 (l0 l1 : Int) (σ : mS) : mblk c_RW_pictures K_RW_pictures (C_RW_pictures) (F_RW_pictures_0) (fun v σ => some (v, σ)) 19 0 (mInit 2 [(3, l0), (1, l1)]) [] σ = M_RW_pictures l0 l1 σ := rfl
def C_Field_pictureStart : Nat → List mV → mS → Option (Int × mS) := fun k as σ => match k, as with
  | 168, [(3, a0), (1, a1), (1, a2)] => M_Field_startsPicture a0 a1 a2 σ
  | _, _ => none
def K_Field_pictureStart : Nat → Bool := fun i => i.beq 4
def F_Field_pictureStart_4 : Nat → List mV → List mV → mS → Option (((Int × Int × mS) ⊕ (Int × mS))) := fun i L st σ => match i, L, st with
  | 4, [(3, l0), (1, l1), (1, l2), (1, l3), (1, l4)], [] => some (.inl (l3, l4, σ))
  | _, _, _ => none
def B_Field_pictureStart_4 (l0 l1 l2 l3 l4 : Int) (σ : mS) : Option (((Int × Int × mS) ⊕ (Int × mS))) :=
  if l4 < 201 then 
    (gk 2 l0 σ).bind fun _ => (M_Field_startsPicture l0 l4 l1 σ).bind fun p1 =>
    if p1.1 = 0 then 
      some (.inl (l3, w32 (l4 + 1), p1.2))
    else
      if l3 = l2 then 
        some (.inr (w32 (l4 - 100), p1.2))
      else
        some (.inl (w32 (l3 + 1), w32 (l4 + 1), p1.2))
  else
    some (.inr ((-1000000), σ))
set_option maxRecDepth 100000 in
theorem E_Field_pictureStart_4 (l0 l1 l2 l3 l4 : Int) (σ : mS) : mblk c_Field_pictureStart K_Field_pictureStart (C_Field_pictureStart) (F_Field_pictureStart_4) (fun v σ => some (.inr (v, σ))) 25 4 ([(3, l0), (1, l1), (1, l2), (1, l3), (1, l4)]) [] σ = B_Field_pictureStart_4 l0 l1 l2 l3 l4 σ := rfl
def M_Field_pictureStart_4 (l0 l1 l2 l3 l4 : Int) (σ : mS) : Option (Int × mS) := miter (fun s : Int × Int × mS => B_Field_pictureStart_4 l0 l1 l2 s.1 s.2.1 s.2.2) mN (l3, l4, σ)
def F_Field_pictureStart_0 : Nat → List mV → List mV → mS → Option (Int × mS) := fun i L st σ => match i, L, st with
  | 4, [(3, l0), (1, l1), (1, l2), (1, l3), (1, l4)], [] => M_Field_pictureStart_4 l0 l1 l2 l3 l4 σ
  | _, _, _ => none
def M_Field_pictureStart (l0 l1 l2 : Int) (σ : mS) : Option (Int × mS) :=
  M_Field_pictureStart_4 l0 l1 l2 0 0 σ
set_option maxRecDepth 100000 in
theorem E_Field_pictureStart_0 (l0 l1 l2 : Int) (σ : mS) : mblk c_Field_pictureStart K_Field_pictureStart (C_Field_pictureStart) (F_Field_pictureStart_0) (fun v σ => some (v, σ)) 25 0 (mInit 5 [(3, l0), (1, l1), (1, l2)]) [] σ = M_Field_pictureStart l0 l1 l2 σ := rfl
def C_Field_pictureStop : Nat → List mV → mS → Option (Int × mS) := fun k as σ => match k, as with
  | _, _ => none
def K_Field_pictureStop : Nat → Bool := fun i => i.beq 4
def F_Field_pictureStop_4 : Nat → List mV → List mV → mS → Option (((Int × mS) ⊕ (Int × mS))) := fun i L st σ => match i, L, st with
  | 4, [(3, l0), (1, l1), _, (1, l3)], [] => some (.inl (l3, σ))
  | _, _, _ => none
def B_Field_pictureStop_4 (l0 l1 l3 : Int) (σ : mS) : Option (((Int × mS) ⊕ (Int × mS))) :=
  if (w32 (l3 + 1)) < 201 then 
    (gf 2 2 l0 σ).bind fun v1 =>
    (ld 100 v1 (w32 (l3 + 1)) σ).bind fun v2 =>
    if v2 = l1 then 
      some (.inl (w32 (l3 + 1), σ))
    else
      some (.inr (w32 (l3 - 100), σ))
  else
    some (.inr (w32 (l3 - 100), σ))
set_option maxRecDepth 100000 in
theorem E_Field_pictureStop_4 (l0 l1 l3 : Int) (σ : mS) : mblk c_Field_pictureStop K_Field_pictureStop (C_Field_pictureStop) (F_Field_pictureStop_4) (fun v σ => some (.inr (v, σ))) 24 4 ([(3, l0), (1, l1), (0, 0), (1, l3)]) [] σ = B_Field_pictureStop_4 l0 l1 l3 σ := rfl
def M_Field_pictureStop_4 (l0 l1 l3 : Int) (σ : mS) : Option (Int × mS) := miter (fun s : Int × mS => B_Field_pictureStop_4 l0 l1 s.1 s.2) mN (l3, σ)
def F_Field_pictureStop_0 : Nat → List mV → List mV → mS → Option (Int × mS) := fun i L st σ => match i, L, st with
  | 4, [(3, l0), (1, l1), _, (1, l3)], [] => M_Field_pictureStop_4 l0 l1 l3 σ
  | _, _, _ => none
def M_Field_pictureStop (l0 l1 l2 : Int) (σ : mS) : Option (Int × mS) :=
  M_Field_pictureStop_4 l0 l1 (w32 (l2 + 100)) σ
set_option maxRecDepth 100000 in
theorem E_Field_pictureStop_0 (l0 l1 l2 : Int) (σ : mS) : mblk c_Field_pictureStop K_Field_pictureStop (C_Field_pictureStop) (F_Field_pictureStop_0) (fun v σ => some (v, σ)) 24 0 (mInit 4 [(3, l0), (1, l1), (1, l2)]) [] σ = M_Field_pictureStop l0 l1 l2 σ := rfl
def C_Field_uprightness : Nat → List mV → mS → Option (Int × mS) := fun k as σ => match k, as with
  | _, _ => none
def K_Field_uprightness : Nat → Bool := fun i => false
def F_Field_uprightness_0 : Nat → List mV → List mV → mS → Option (Int × mS) := fun i L st σ => match i, L, st with
  | _, _, _ => none
def M_Field_uprightness (l0 l1 l2 : Int) (σ : mS) : Option (Int × mS) :=
  (gf 2 3 l0 σ).bind fun v1 =>
  (ld 100 v1 (w32 (l1 + 100)) σ).bind fun v2 =>
  (gf 2 3 l0 σ).bind fun v3 =>
  (ld 100 v3 (w32 (l2 + 100)) σ).bind fun v4 =>
  if v4 = v2 then 
    some (0, σ)
  else
    if v2 < v4 then 
      some (1, σ)
    else
      some (2, σ)
set_option maxRecDepth 100000 in
theorem E_Field_uprightness_0 (l0 l1 l2 : Int) (σ : mS) : mblk c_Field_uprightness K_Field_uprightness (C_Field_uprightness) (F_Field_uprightness_0) (fun v σ => some (v, σ)) 27 0 (mInit 5 [(3, l0), (1, l1), (1, l2)]) [] σ = M_Field_uprightness l0 l1 l2 σ := rfl
def C_Field_leastInch : Nat → List mV → mS → Option (Int × mS) := fun k as σ => match k, as with
  | _, _ => none
def K_Field_leastInch : Nat → Bool := fun i => i.beq 9
def F_Field_leastInch_9 : Nat → List mV → List mV → mS → Option (((Int × Int × mS) ⊕ (Int × mS))) := fun i L st σ => match i, L, st with
  | 9, [(3, l0), _, (1, l2), (1, l3), (1, l4)], [] => some (.inl (l3, l4, σ))
  | _, _, _ => none
def B_Field_leastInch_9 (l0 l2 l3 l4 : Int) (σ : mS) : Option (((Int × Int × mS) ⊕ (Int × mS))) :=
  if l2 < l4 then 
    some (.inr (l3, σ))
  else
    (gf 2 3 l0 σ).bind fun v1 =>
    (ld 100 v1 (w32 (l4 + 100)) σ).bind fun v2 =>
    some (.inl (jmin l3 v2, w32 (l4 + 1), σ))
set_option maxRecDepth 100000 in
theorem E_Field_leastInch_9 (l0 l2 l3 l4 : Int) (σ : mS) : mblk c_Field_leastInch K_Field_leastInch (C_Field_leastInch) (F_Field_leastInch_9) (fun v σ => some (.inr (v, σ))) 26 9 ([(3, l0), (0, 0), (1, l2), (1, l3), (1, l4)]) [] σ = B_Field_leastInch_9 l0 l2 l3 l4 σ := rfl
def M_Field_leastInch_9 (l0 l2 l3 l4 : Int) (σ : mS) : Option (Int × mS) := miter (fun s : Int × Int × mS => B_Field_leastInch_9 l0 l2 s.1 s.2.1 s.2.2) mN (l3, l4, σ)
def F_Field_leastInch_0 : Nat → List mV → List mV → mS → Option (Int × mS) := fun i L st σ => match i, L, st with
  | 9, [(3, l0), _, (1, l2), (1, l3), (1, l4)], [] => M_Field_leastInch_9 l0 l2 l3 l4 σ
  | _, _, _ => none
def M_Field_leastInch (l0 l1 l2 : Int) (σ : mS) : Option (Int × mS) :=
  (gf 2 3 l0 σ).bind fun v1 =>
  (ld 100 v1 (w32 (l1 + 100)) σ).bind fun v2 =>
  M_Field_leastInch_9 l0 l2 v2 l1 σ
set_option maxRecDepth 100000 in
theorem E_Field_leastInch_0 (l0 l1 l2 : Int) (σ : mS) : mblk c_Field_leastInch K_Field_leastInch (C_Field_leastInch) (F_Field_leastInch_0) (fun v σ => some (v, σ)) 26 0 (mInit 5 [(3, l0), (1, l1), (1, l2)]) [] σ = M_Field_leastInch l0 l1 l2 σ := rfl
def C_Field_greatestInch : Nat → List mV → mS → Option (Int × mS) := fun k as σ => match k, as with
  | _, _ => none
def K_Field_greatestInch : Nat → Bool := fun i => i.beq 9
def F_Field_greatestInch_9 : Nat → List mV → List mV → mS → Option (((Int × Int × mS) ⊕ (Int × mS))) := fun i L st σ => match i, L, st with
  | 9, [(3, l0), _, (1, l2), (1, l3), (1, l4)], [] => some (.inl (l3, l4, σ))
  | _, _, _ => none
def B_Field_greatestInch_9 (l0 l2 l3 l4 : Int) (σ : mS) : Option (((Int × Int × mS) ⊕ (Int × mS))) :=
  if l2 < l4 then 
    some (.inr (l3, σ))
  else
    (gf 2 3 l0 σ).bind fun v1 =>
    (ld 100 v1 (w32 (l4 + 100)) σ).bind fun v2 =>
    some (.inl (jmax l3 v2, w32 (l4 + 1), σ))
set_option maxRecDepth 100000 in
theorem E_Field_greatestInch_9 (l0 l2 l3 l4 : Int) (σ : mS) : mblk c_Field_greatestInch K_Field_greatestInch (C_Field_greatestInch) (F_Field_greatestInch_9) (fun v σ => some (.inr (v, σ))) 26 9 ([(3, l0), (0, 0), (1, l2), (1, l3), (1, l4)]) [] σ = B_Field_greatestInch_9 l0 l2 l3 l4 σ := rfl
def M_Field_greatestInch_9 (l0 l2 l3 l4 : Int) (σ : mS) : Option (Int × mS) := miter (fun s : Int × Int × mS => B_Field_greatestInch_9 l0 l2 s.1 s.2.1 s.2.2) mN (l3, l4, σ)
def F_Field_greatestInch_0 : Nat → List mV → List mV → mS → Option (Int × mS) := fun i L st σ => match i, L, st with
  | 9, [(3, l0), _, (1, l2), (1, l3), (1, l4)], [] => M_Field_greatestInch_9 l0 l2 l3 l4 σ
  | _, _, _ => none
def M_Field_greatestInch (l0 l1 l2 : Int) (σ : mS) : Option (Int × mS) :=
  (gf 2 3 l0 σ).bind fun v1 =>
  (ld 100 v1 (w32 (l1 + 100)) σ).bind fun v2 =>
  M_Field_greatestInch_9 l0 l2 v2 l1 σ
set_option maxRecDepth 100000 in
theorem E_Field_greatestInch_0 (l0 l1 l2 : Int) (σ : mS) : mblk c_Field_greatestInch K_Field_greatestInch (C_Field_greatestInch) (F_Field_greatestInch_0) (fun v σ => some (v, σ)) 26 0 (mInit 5 [(3, l0), (1, l1), (1, l2)]) [] σ = M_Field_greatestInch l0 l1 l2 σ := rfl
def C_RW_picture : Nat → List mV → mS → Option (Int × mS) := fun k as σ => match k, as with
  | 166, [(3, a0)] => M_Field_look a0 σ
  | 170, [(3, a0), (1, a1), (1, a2)] => M_Field_pictureStart a0 a1 a2 σ
  | 171, [(3, a0), (1, a1), (1, a2)] => M_Field_pictureStop a0 a1 a2 σ
  | 172, [(3, a0), (1, a1), (1, a2)] => M_Field_uprightness a0 a1 a2 σ
  | 173, [(3, a0), (1, a1), (1, a2)] => M_Field_leastInch a0 a1 a2 σ
  | 174, [(3, a0), (1, a1), (1, a2)] => M_Field_greatestInch a0 a1 a2 σ
  | 188, [(3, a0)] => M_Light_standByTerms a0 σ
  | 222, [(3, a0), (1, a1)] => M_Road_hasThing a0 a1 σ
  | _, _ => none
def K_RW_picture : Nat → Bool := fun i => false
def F_RW_picture_0 : Nat → List mV → List mV → mS → Option (Int × mS) := fun i L st σ => match i, L, st with
  | _, _, _ => none
def M_RW_picture (l0 l1 l2 l3 : Int) (σ : mS) : Option (Int × mS) :=
  (gf 10 0 l0 σ).bind fun v1 =>
  (gk 7 v1 σ).bind fun _ => (M_Road_hasThing v1 l1 σ).bind fun p2 =>
  if p2.1 = 0 then 
    some ((-1000000), p2.2)
  else
    (gf 10 6 l0 p2.2).bind fun v3 =>
    (gk 5 v3 p2.2).bind fun _ => (M_Light_standByTerms v3 p2.2).bind fun p4 =>
    (gf 10 7 l0 p4.2).bind fun v5 =>
    (gk 2 v5 p4.2).bind fun _ => (M_Field_look v5 p4.2).bind fun p6 =>
    (gf 10 7 l0 p6.2).bind fun v7 =>
    (gk 2 v7 p6.2).bind fun _ => (M_Field_pictureStart v7 l1 l2 p6.2).bind fun p8 =>
    if p8.1 = (-1000000) then 
      some ((-1000000), p8.2)
    else
      (gf 10 7 l0 p8.2).bind fun v9 =>
      (gk 2 v9 p8.2).bind fun _ => (M_Field_pictureStop v9 l1 p8.1 p8.2).bind fun p10 =>
      if l3 = 0 then
        some (p8.1, p10.2)
      else if l3 = 1 then
        some (p10.1, p10.2)
      else if l3 = 2 then
        (gf 10 7 l0 p10.2).bind fun v11 =>
        (gk 2 v11 p10.2).bind fun _ => (M_Field_uprightness v11 p8.1 p10.1 p10.2).bind fun p12 =>
        some (p12.1, p12.2)
      else if l3 = 3 then
        (gf 10 7 l0 p10.2).bind fun v13 =>
        (gk 2 v13 p10.2).bind fun _ => (M_Field_leastInch v13 p8.1 p10.1 p10.2).bind fun p14 =>
        some (p14.1, p14.2)
      else if l3 = 4 then
        (gf 10 7 l0 p10.2).bind fun v15 =>
        (gk 2 v15 p10.2).bind fun _ => (M_Field_greatestInch v15 p8.1 p10.1 p10.2).bind fun p16 =>
        some (p16.1, p16.2)
      else 
        some ((-1000000), p10.2)
set_option maxRecDepth 100000 in
theorem E_RW_picture_0 (l0 l1 l2 l3 : Int) (σ : mS) : mblk c_RW_picture K_RW_picture (C_RW_picture) (F_RW_picture_0) (fun v σ => some (v, σ)) 57 0 (mInit 6 [(3, l0), (1, l1), (1, l2), (1, l3)]) [] σ = M_RW_picture l0 l1 l2 l3 σ := rfl
def C_Field_hiddenInches : Nat → List mV → mS → Option (Int × mS) := fun k as σ => match k, as with
  | _, _ => none
def K_Field_hiddenInches : Nat → Bool := fun i => i.beq 8
def F_Field_hiddenInches_8 : Nat → List mV → List mV → mS → Option (((Int × Int × mS) ⊕ (Int × mS))) := fun i L st σ => match i, L, st with
  | 8, [(3, l0), (1, l1), _, (1, l3), (1, l4)], [] => some (.inl (l3, l4, σ))
  | _, _, _ => none
def B_Field_hiddenInches_8 (l0 l1 l3 l4 : Int) (σ : mS) : Option (((Int × Int × mS) ⊕ (Int × mS))) :=
  if l4 < 201 then 
    (gf 2 2 l0 σ).bind fun v1 =>
    (ld 100 v1 l4 σ).bind fun v2 =>
    if v2 = l1 then 
      (gf 2 3 l0 σ).bind fun v3 =>
      (ld 100 v3 l4 σ).bind fun v4 =>
      some (.inl (iand l3 (ixor (ishl 1 v4) (-1)), w32 (l4 + 1), σ))
    else
      some (.inl (l3, w32 (l4 + 1), σ))
  else
    some (.inr (l3, σ))
set_option maxRecDepth 100000 in
theorem E_Field_hiddenInches_8 (l0 l1 l3 l4 : Int) (σ : mS) : mblk c_Field_hiddenInches K_Field_hiddenInches (C_Field_hiddenInches) (F_Field_hiddenInches_8) (fun v σ => some (.inr (v, σ))) 33 8 ([(3, l0), (1, l1), (0, 0), (1, l3), (1, l4)]) [] σ = B_Field_hiddenInches_8 l0 l1 l3 l4 σ := rfl
def M_Field_hiddenInches_8 (l0 l1 l3 l4 : Int) (σ : mS) : Option (Int × mS) := miter (fun s : Int × Int × mS => B_Field_hiddenInches_8 l0 l1 s.1 s.2.1 s.2.2) mN (l3, l4, σ)
def F_Field_hiddenInches_0 : Nat → List mV → List mV → mS → Option (Int × mS) := fun i L st σ => match i, L, st with
  | 8, [(3, l0), (1, l1), _, (1, l3), (1, l4)], [] => M_Field_hiddenInches_8 l0 l1 l3 l4 σ
  | _, _, _ => none
def M_Field_hiddenInches (l0 l1 l2 : Int) (σ : mS) : Option (Int × mS) :=
  M_Field_hiddenInches_8 l0 l1 (w32 ((ishl 1 l2) - 1)) 0 σ
set_option maxRecDepth 100000 in
theorem E_Field_hiddenInches_0 (l0 l1 l2 : Int) (σ : mS) : mblk c_Field_hiddenInches K_Field_hiddenInches (C_Field_hiddenInches) (F_Field_hiddenInches_0) (fun v σ => some (v, σ)) 33 0 (mInit 5 [(3, l0), (1, l1), (1, l2)]) [] σ = M_Field_hiddenInches l0 l1 l2 σ := rfl
def C_RW_hidden : Nat → List mV → mS → Option (Int × mS) := fun k as σ => match k, as with
  | 166, [(3, a0)] => M_Field_look a0 σ
  | 175, [(3, a0), (1, a1), (1, a2)] => M_Field_hiddenInches a0 a1 a2 σ
  | 188, [(3, a0)] => M_Light_standByTerms a0 σ
  | 222, [(3, a0), (1, a1)] => M_Road_hasThing a0 a1 σ
  | 223, [(3, a0), (1, a1)] => M_Road_inchesThere a0 a1 σ
  | _, _ => none
def K_RW_hidden : Nat → Bool := fun i => false
def F_RW_hidden_0 : Nat → List mV → List mV → mS → Option (Int × mS) := fun i L st σ => match i, L, st with
  | _, _, _ => none
def M_RW_hidden (l0 l1 : Int) (σ : mS) : Option (Int × mS) :=
  (gf 10 0 l0 σ).bind fun v1 =>
  (gk 7 v1 σ).bind fun _ => (M_Road_hasThing v1 l1 σ).bind fun p2 =>
  if p2.1 = 0 then 
    some ((-1), p2.2)
  else
    (gf 10 6 l0 p2.2).bind fun v3 =>
    (gk 5 v3 p2.2).bind fun _ => (M_Light_standByTerms v3 p2.2).bind fun p4 =>
    (gf 10 7 l0 p4.2).bind fun v5 =>
    (gk 2 v5 p4.2).bind fun _ => (M_Field_look v5 p4.2).bind fun p6 =>
    (gf 10 7 l0 p6.2).bind fun v7 =>
    (gf 10 0 l0 p6.2).bind fun v8 =>
    (gk 7 v8 p6.2).bind fun _ => (M_Road_inchesThere v8 l1 p6.2).bind fun p9 =>
    (gk 2 v7 p9.2).bind fun _ => (M_Field_hiddenInches v7 l1 p9.1 p9.2).bind fun p10 =>
    some (p10.1, p10.2)
set_option maxRecDepth 100000 in
theorem E_RW_hidden_0 (l0 l1 : Int) (σ : mS) : mblk c_RW_hidden K_RW_hidden (C_RW_hidden) (F_RW_hidden_0) (fun v σ => some (v, σ)) 23 0 (mInit 2 [(3, l0), (1, l1)]) [] σ = M_RW_hidden l0 l1 σ := rfl
def C_Field_waterAngles : Nat → List mV → mS → Option (Int × mS) := fun k as σ => match k, as with
  | _, _ => none
def K_Field_waterAngles : Nat → Bool := fun i => i.beq 4
def F_Field_waterAngles_4 : Nat → List mV → List mV → mS → Option (((Int × Int × mS) ⊕ (Int × mS))) := fun i L st σ => match i, L, st with
  | 4, [(3, l0), (1, l1), (1, l2)], [] => some (.inl (l1, l2, σ))
  | _, _, _ => none
def B_Field_waterAngles_4 (l0 l1 l2 : Int) (σ : mS) : Option (((Int × Int × mS) ⊕ (Int × mS))) :=
  if l2 < 100 then 
    (gf 2 1 l0 σ).bind fun v1 =>
    (ld 100 v1 l2 σ).bind fun v2 =>
    if v2 = 2 then 
      some (.inl (w32 (l1 + 1), w32 (l2 + 1), σ))
    else
      some (.inl (l1, w32 (l2 + 1), σ))
  else
    some (.inr (l1, σ))
set_option maxRecDepth 100000 in
theorem E_Field_waterAngles_4 (l0 l1 l2 : Int) (σ : mS) : mblk c_Field_waterAngles K_Field_waterAngles (C_Field_waterAngles) (F_Field_waterAngles_4) (fun v σ => some (.inr (v, σ))) 19 4 ([(3, l0), (1, l1), (1, l2)]) [] σ = B_Field_waterAngles_4 l0 l1 l2 σ := rfl
def M_Field_waterAngles_4 (l0 l1 l2 : Int) (σ : mS) : Option (Int × mS) := miter (fun s : Int × Int × mS => B_Field_waterAngles_4 l0 s.1 s.2.1 s.2.2) mN (l1, l2, σ)
def F_Field_waterAngles_0 : Nat → List mV → List mV → mS → Option (Int × mS) := fun i L st σ => match i, L, st with
  | 4, [(3, l0), (1, l1), (1, l2)], [] => M_Field_waterAngles_4 l0 l1 l2 σ
  | _, _, _ => none
def M_Field_waterAngles (l0 : Int) (σ : mS) : Option (Int × mS) :=
  M_Field_waterAngles_4 l0 0 0 σ
set_option maxRecDepth 100000 in
theorem E_Field_waterAngles_0 (l0 : Int) (σ : mS) : mblk c_Field_waterAngles K_Field_waterAngles (C_Field_waterAngles) (F_Field_waterAngles_0) (fun v σ => some (v, σ)) 19 0 (mInit 3 [(3, l0)]) [] σ = M_Field_waterAngles l0 σ := rfl
def C_Field_highestWater : Nat → List mV → mS → Option (Int × mS) := fun k as σ => match k, as with
  | _, _ => none
def K_Field_highestWater : Nat → Bool := fun i => i.beq 2
def F_Field_highestWater_2 : Nat → List mV → List mV → mS → Option (((Int × mS) ⊕ (Int × mS))) := fun i L st σ => match i, L, st with
  | 2, [(3, l0), (1, l1)], [] => some (.inl (l1, σ))
  | _, _, _ => none
def B_Field_highestWater_2 (l0 l1 : Int) (σ : mS) : Option (((Int × mS) ⊕ (Int × mS))) :=
  if l1 < 0 then 
    some (.inr ((-1000000), σ))
  else
    (gf 2 1 l0 σ).bind fun v1 =>
    (ld 100 v1 l1 σ).bind fun v2 =>
    if v2 = 2 then 
      some (.inr (w32 (l1 - 100), σ))
    else
      some (.inl (w32 (l1 + (-1)), σ))
set_option maxRecDepth 100000 in
theorem E_Field_highestWater_2 (l0 l1 : Int) (σ : mS) : mblk c_Field_highestWater K_Field_highestWater (C_Field_highestWater) (F_Field_highestWater_2) (fun v σ => some (.inr (v, σ))) 19 2 ([(3, l0), (1, l1)]) [] σ = B_Field_highestWater_2 l0 l1 σ := rfl
def M_Field_highestWater_2 (l0 l1 : Int) (σ : mS) : Option (Int × mS) := miter (fun s : Int × mS => B_Field_highestWater_2 l0 s.1 s.2) mN (l1, σ)
def F_Field_highestWater_0 : Nat → List mV → List mV → mS → Option (Int × mS) := fun i L st σ => match i, L, st with
  | 2, [(3, l0), (1, l1)], [] => M_Field_highestWater_2 l0 l1 σ
  | _, _, _ => none
def M_Field_highestWater (l0 : Int) (σ : mS) : Option (Int × mS) :=
  M_Field_highestWater_2 l0 99 σ
set_option maxRecDepth 100000 in
theorem E_Field_highestWater_0 (l0 : Int) (σ : mS) : mblk c_Field_highestWater K_Field_highestWater (C_Field_highestWater) (F_Field_highestWater_0) (fun v σ => some (v, σ)) 19 0 (mInit 2 [(3, l0)]) [] σ = M_Field_highestWater l0 σ := rfl
def C_Field_lowestWater : Nat → List mV → mS → Option (Int × mS) := fun k as σ => match k, as with
  | _, _ => none
def K_Field_lowestWater : Nat → Bool := fun i => i.beq 2
def F_Field_lowestWater_2 : Nat → List mV → List mV → mS → Option (((Int × mS) ⊕ (Int × mS))) := fun i L st σ => match i, L, st with
  | 2, [(3, l0), (1, l1)], [] => some (.inl (l1, σ))
  | _, _, _ => none
def B_Field_lowestWater_2 (l0 l1 : Int) (σ : mS) : Option (((Int × mS) ⊕ (Int × mS))) :=
  if l1 < 100 then 
    (gf 2 1 l0 σ).bind fun v1 =>
    (ld 100 v1 l1 σ).bind fun v2 =>
    if v2 = 2 then 
      some (.inr (w32 (l1 - 100), σ))
    else
      some (.inl (w32 (l1 + 1), σ))
  else
    some (.inr ((-1000000), σ))
set_option maxRecDepth 100000 in
theorem E_Field_lowestWater_2 (l0 l1 : Int) (σ : mS) : mblk c_Field_lowestWater K_Field_lowestWater (C_Field_lowestWater) (F_Field_lowestWater_2) (fun v σ => some (.inr (v, σ))) 20 2 ([(3, l0), (1, l1)]) [] σ = B_Field_lowestWater_2 l0 l1 σ := rfl
def M_Field_lowestWater_2 (l0 l1 : Int) (σ : mS) : Option (Int × mS) := miter (fun s : Int × mS => B_Field_lowestWater_2 l0 s.1 s.2) mN (l1, σ)
def F_Field_lowestWater_0 : Nat → List mV → List mV → mS → Option (Int × mS) := fun i L st σ => match i, L, st with
  | 2, [(3, l0), (1, l1)], [] => M_Field_lowestWater_2 l0 l1 σ
  | _, _, _ => none
def M_Field_lowestWater (l0 : Int) (σ : mS) : Option (Int × mS) :=
  M_Field_lowestWater_2 l0 0 σ
set_option maxRecDepth 100000 in
theorem E_Field_lowestWater_0 (l0 : Int) (σ : mS) : mblk c_Field_lowestWater K_Field_lowestWater (C_Field_lowestWater) (F_Field_lowestWater_0) (fun v σ => some (v, σ)) 20 0 (mInit 2 [(3, l0)]) [] σ = M_Field_lowestWater l0 σ := rfl
def C_RW_water : Nat → List mV → mS → Option (Int × mS) := fun k as σ => match k, as with
  | 166, [(3, a0)] => M_Field_look a0 σ
  | 176, [(3, a0)] => M_Field_waterAngles a0 σ
  | 177, [(3, a0)] => M_Field_highestWater a0 σ
  | 178, [(3, a0)] => M_Field_lowestWater a0 σ
  | 188, [(3, a0)] => M_Light_standByTerms a0 σ
  | 190, [(3, a0), (1, a1)] => M_Light_send a0 a1 σ
  | 193, [(3, a0)] => M_Light_lowestPlace a0 σ
  | _, _ => none
def K_RW_water : Nat → Bool := fun i => false
def F_RW_water_0 : Nat → List mV → List mV → mS → Option (Int × mS) := fun i L st σ => match i, L, st with
  | _, _, _ => none
def M_RW_water (l0 l1 : Int) (σ : mS) : Option (Int × mS) :=
  (gf 10 6 l0 σ).bind fun v1 =>
  (gk 5 v1 σ).bind fun _ => (M_Light_standByTerms v1 σ).bind fun p2 =>
  (gf 10 7 l0 p2.2).bind fun v3 =>
  (gk 2 v3 p2.2).bind fun _ => (M_Field_look v3 p2.2).bind fun p4 =>
  if l1 = 0 then 
    (gf 10 7 l0 p4.2).bind fun v5 =>
    (gk 2 v5 p4.2).bind fun _ => (M_Field_waterAngles v5 p4.2).bind fun p6 =>
    some (p6.1, p6.2)
  else
    (gf 10 7 l0 p4.2).bind fun v7 =>
    (gk 2 v7 p4.2).bind fun _ => (M_Field_highestWater v7 p4.2).bind fun p8 =>
    if p8.1 = (-1000000) then 
      some ((-1000000), p8.2)
    else
      if l1 = 1 then
        some (p8.1, p8.2)
      else if l1 = 2 then
        (gf 10 7 l0 p8.2).bind fun v9 =>
        (gk 2 v9 p8.2).bind fun _ => (M_Field_lowestWater v9 p8.2).bind fun p10 =>
        some (p10.1, p10.2)
      else if l1 = 3 then
        (gf 10 6 l0 p8.2).bind fun v11 =>
        (gk 5 v11 p8.2).bind fun _ => (M_Light_send v11 p8.1 p8.2).bind fun p12 =>
        (gf 10 6 l0 p12.2).bind fun v13 =>
        (gk 5 v13 p12.2).bind fun _ => (M_Light_lowestPlace v13 p12.2).bind fun p14 =>
        some (p14.1, p14.2)
      else 
        some ((-1000000), p8.2)
set_option maxRecDepth 100000 in
theorem E_RW_water_0 (l0 l1 : Int) (σ : mS) : mblk c_RW_water K_RW_water (C_RW_water) (F_RW_water_0) (fun v σ => some (v, σ)) 40 0 (mInit 3 [(3, l0), (1, l1)]) [] σ = M_RW_water l0 l1 σ := rfl
def C_Field_highestToGround : Nat → List mV → mS → Option (Int × mS) := fun k as σ => match k, as with
  | _, _ => none
def K_Field_highestToGround : Nat → Bool := fun i => i.beq 2
def F_Field_highestToGround_2 : Nat → List mV → List mV → mS → Option (((Int × mS) ⊕ (Int × mS))) := fun i L st σ => match i, L, st with
  | 2, [(3, l0), (1, l1)], [] => some (.inl (l1, σ))
  | _, _, _ => none
def B_Field_highestToGround_2 (l0 l1 : Int) (σ : mS) : Option (((Int × mS) ⊕ (Int × mS))) :=
  if l1 < 0 then 
    some (.inr ((-1000000), σ))
  else
    (gf 2 1 l0 σ).bind fun v1 =>
    (ld 100 v1 l1 σ).bind fun v2 =>
    if v2 = 0 then 
      some (.inr (w32 (l1 - 100), σ))
    else
      some (.inl (w32 (l1 + (-1)), σ))
set_option maxRecDepth 100000 in
theorem E_Field_highestToGround_2 (l0 l1 : Int) (σ : mS) : mblk c_Field_highestToGround K_Field_highestToGround (C_Field_highestToGround) (F_Field_highestToGround_2) (fun v σ => some (.inr (v, σ))) 18 2 ([(3, l0), (1, l1)]) [] σ = B_Field_highestToGround_2 l0 l1 σ := rfl
def M_Field_highestToGround_2 (l0 l1 : Int) (σ : mS) : Option (Int × mS) := miter (fun s : Int × mS => B_Field_highestToGround_2 l0 s.1 s.2) mN (l1, σ)
def F_Field_highestToGround_0 : Nat → List mV → List mV → mS → Option (Int × mS) := fun i L st σ => match i, L, st with
  | 2, [(3, l0), (1, l1)], [] => M_Field_highestToGround_2 l0 l1 σ
  | _, _, _ => none
def M_Field_highestToGround (l0 : Int) (σ : mS) : Option (Int × mS) :=
  M_Field_highestToGround_2 l0 200 σ
set_option maxRecDepth 100000 in
theorem E_Field_highestToGround_0 (l0 : Int) (σ : mS) : mblk c_Field_highestToGround K_Field_highestToGround (C_Field_highestToGround) (F_Field_highestToGround_0) (fun v σ => some (v, σ)) 18 0 (mInit 2 [(3, l0)]) [] σ = M_Field_highestToGround l0 σ := rfl
def C_RW_horizon : Nat → List mV → mS → Option (Int × mS) := fun k as σ => match k, as with
  | 166, [(3, a0)] => M_Field_look a0 σ
  | 179, [(3, a0)] => M_Field_highestToGround a0 σ
  | 188, [(3, a0)] => M_Light_standByTerms a0 σ
  | _, _ => none
def K_RW_horizon : Nat → Bool := fun i => false
def F_RW_horizon_0 : Nat → List mV → List mV → mS → Option (Int × mS) := fun i L st σ => match i, L, st with
  | _, _, _ => none
def M_RW_horizon (l0 : Int) (σ : mS) : Option (Int × mS) :=
  (gf 10 6 l0 σ).bind fun v1 =>
  (gk 5 v1 σ).bind fun _ => (M_Light_standByTerms v1 σ).bind fun p2 =>
  (gf 10 7 l0 p2.2).bind fun v3 =>
  (gk 2 v3 p2.2).bind fun _ => (M_Field_look v3 p2.2).bind fun p4 =>
  (gf 10 7 l0 p4.2).bind fun v5 =>
  (gk 2 v5 p4.2).bind fun _ => (M_Field_highestToGround v5 p4.2).bind fun p6 =>
  some (p6.1, p6.2)
set_option maxRecDepth 100000 in
theorem E_RW_horizon_0 (l0 : Int) (σ : mS) : mblk c_RW_horizon K_RW_horizon (C_RW_horizon) (F_RW_horizon_0) (fun v σ => some (v, σ)) 11 0 (mInit 1 [(3, l0)]) [] σ = M_RW_horizon l0 σ := rfl
def C_Field_lowestTo : Nat → List mV → mS → Option (Int × mS) := fun k as σ => match k, as with
  | _, _ => none
def K_Field_lowestTo : Nat → Bool := fun i => i.beq 2
def F_Field_lowestTo_2 : Nat → List mV → List mV → mS → Option (((Int × mS) ⊕ (Int × mS))) := fun i L st σ => match i, L, st with
  | 2, [(3, l0), (1, l1), (1, l2), (1, l3)], [] => some (.inl (l3, σ))
  | _, _, _ => none
def B_Field_lowestTo_2 (l0 l1 l2 l3 : Int) (σ : mS) : Option (((Int × mS) ⊕ (Int × mS))) :=
  if l3 < 201 then 
    (gf 2 2 l0 σ).bind fun v1 =>
    (ld 100 v1 l3 σ).bind fun v2 =>
    if v2 = l1 then 
      (gf 2 3 l0 σ).bind fun v3 =>
      (ld 100 v3 l3 σ).bind fun v4 =>
      if v4 = l2 then 
        some (.inr (w32 (l3 - 100), σ))
      else
        some (.inl (w32 (l3 + 1), σ))
    else
      some (.inl (w32 (l3 + 1), σ))
  else
    some (.inr ((-1000000), σ))
set_option maxRecDepth 100000 in
theorem E_Field_lowestTo_2 (l0 l1 l2 l3 : Int) (σ : mS) : mblk c_Field_lowestTo K_Field_lowestTo (C_Field_lowestTo) (F_Field_lowestTo_2) (fun v σ => some (.inr (v, σ))) 26 2 ([(3, l0), (1, l1), (1, l2), (1, l3)]) [] σ = B_Field_lowestTo_2 l0 l1 l2 l3 σ := rfl
def M_Field_lowestTo_2 (l0 l1 l2 l3 : Int) (σ : mS) : Option (Int × mS) := miter (fun s : Int × mS => B_Field_lowestTo_2 l0 l1 l2 s.1 s.2) mN (l3, σ)
def F_Field_lowestTo_0 : Nat → List mV → List mV → mS → Option (Int × mS) := fun i L st σ => match i, L, st with
  | 2, [(3, l0), (1, l1), (1, l2), (1, l3)], [] => M_Field_lowestTo_2 l0 l1 l2 l3 σ
  | _, _, _ => none
def M_Field_lowestTo (l0 l1 l2 : Int) (σ : mS) : Option (Int × mS) :=
  M_Field_lowestTo_2 l0 l1 l2 0 σ
set_option maxRecDepth 100000 in
theorem E_Field_lowestTo_0 (l0 l1 l2 : Int) (σ : mS) : mblk c_Field_lowestTo K_Field_lowestTo (C_Field_lowestTo) (F_Field_lowestTo_0) (fun v σ => some (v, σ)) 26 0 (mInit 4 [(3, l0), (1, l1), (1, l2)]) [] σ = M_Field_lowestTo l0 l1 l2 σ := rfl
def C_RW_aim : Nat → List mV → mS → Option (Int × mS) := fun k as σ => match k, as with
  | 166, [(3, a0)] => M_Field_look a0 σ
  | 180, [(3, a0), (1, a1), (1, a2)] => M_Field_lowestTo a0 a1 a2 σ
  | 188, [(3, a0)] => M_Light_standByTerms a0 σ
  | 222, [(3, a0), (1, a1)] => M_Road_hasThing a0 a1 σ
  | _, _ => none
def K_RW_aim : Nat → Bool := fun i => false
def F_RW_aim_0 : Nat → List mV → List mV → mS → Option (Int × mS) := fun i L st σ => match i, L, st with
  | _, _, _ => none
def M_RW_aim (l0 l1 l2 : Int) (σ : mS) : Option (Int × mS) :=
  (gf 10 0 l0 σ).bind fun v1 =>
  (gk 7 v1 σ).bind fun _ => (M_Road_hasThing v1 l1 σ).bind fun p2 =>
  if p2.1 = 0 then 
    some ((-1000000), p2.2)
  else
    (gf 10 6 l0 p2.2).bind fun v3 =>
    (gk 5 v3 p2.2).bind fun _ => (M_Light_standByTerms v3 p2.2).bind fun p4 =>
    (gf 10 7 l0 p4.2).bind fun v5 =>
    (gk 2 v5 p4.2).bind fun _ => (M_Field_look v5 p4.2).bind fun p6 =>
    (gf 10 7 l0 p6.2).bind fun v7 =>
    (gk 2 v7 p6.2).bind fun _ => (M_Field_lowestTo v7 l1 l2 p6.2).bind fun p8 =>
    some (p8.1, p8.2)
set_option maxRecDepth 100000 in
theorem E_RW_aim_0 (l0 l1 l2 : Int) (σ : mS) : mblk c_RW_aim K_RW_aim (C_RW_aim) (F_RW_aim_0) (fun v σ => some (v, σ)) 20 0 (mInit 3 [(3, l0), (1, l1), (1, l2)]) [] σ = M_RW_aim l0 l1 l2 σ := rfl
def C_RW_loom : Nat → List mV → mS → Option (Int × mS) := fun k as σ => match k, as with
  | 166, [(3, a0)] => M_Field_look a0 σ
  | 180, [(3, a0), (1, a1), (1, a2)] => M_Field_lowestTo a0 a1 a2 σ
  | 188, [(3, a0)] => M_Light_standByTerms a0 σ
  | 222, [(3, a0), (1, a1)] => M_Road_hasThing a0 a1 σ
  | _, _ => none
def K_RW_loom : Nat → Bool := fun i => false
def F_RW_loom_0 : Nat → List mV → List mV → mS → Option (Int × mS) := fun i L st σ => match i, L, st with
  | _, _, _ => none
def M_RW_loom (l0 l1 l2 : Int) (σ : mS) : Option (Int × mS) :=
  (gf 10 0 l0 σ).bind fun v1 =>
  (gk 7 v1 σ).bind fun _ => (M_Road_hasThing v1 l1 σ).bind fun p2 =>
  if p2.1 = 0 then 
    some ((-1000000), p2.2)
  else
    (gf 10 6 l0 p2.2).bind fun v3 =>
    (gk 5 v3 p2.2).bind fun _ => (M_Light_standByTerms v3 p2.2).bind fun p4 =>
    (gf 10 7 l0 p4.2).bind fun v5 =>
    (gk 2 v5 p4.2).bind fun _ => (M_Field_look v5 p4.2).bind fun p6 =>
    (gf 10 7 l0 p6.2).bind fun v7 =>
    (gk 2 v7 p6.2).bind fun _ => (M_Field_lowestTo v7 l1 l2 p6.2).bind fun p8 =>
    if p8.1 = (-1000000) then 
      some ((-1000000), p8.2)
    else
      (gf 10 6 l0 p8.2).bind fun v9 =>
      (pf 5 6 v9 0 p8.2).bind fun σ =>
      (gf 10 7 l0 σ).bind fun v10 =>
      (gk 2 v10 σ).bind fun _ => (M_Field_look v10 σ).bind fun p11 =>
      (gf 10 7 l0 p11.2).bind fun v12 =>
      (gk 2 v12 p11.2).bind fun _ => (M_Field_lowestTo v12 l1 l2 p11.2).bind fun p13 =>
      if p13.1 = (-1000000) then 
        some ((-1000000), p13.2)
      else
        some (w32 (p8.1 - p13.1), p13.2)
set_option maxRecDepth 100000 in
theorem E_RW_loom_0 (l0 l1 l2 : Int) (σ : mS) : mblk c_RW_loom K_RW_loom (C_RW_loom) (F_RW_loom_0) (fun v σ => some (v, σ)) 47 0 (mInit 5 [(3, l0), (1, l1), (1, l2)]) [] σ = M_RW_loom l0 l1 l2 σ := rfl
def C_RW_shade : Nat → List mV → mS → Option (Int × mS) := fun k as σ => match k, as with
  | 48, [(1, a0)] => M_RW_isPlace a0 σ
  | 188, [(3, a0)] => M_Light_standByTerms a0 σ
  | 190, [(3, a0), (1, a1)] => M_Light_send a0 a1 σ
  | 195, [(3, a0), (1, a1)] => M_Light_comesTo a0 a1 σ
  | _, _ => none
def K_RW_shade : Nat → Bool := fun i => i.beq 12 || i.beq 47
def F_RW_shade_47 : Nat → List mV → List mV → mS → Option (((Int × Int × mS) ⊕ (Int × mS))) := fun i L st σ => match i, L, st with
  | 12, [(3, l0), (1, l1), (1, l2), (1, l3)], [] => some (.inl (l2, l3, σ))
  | _, _, _ => none
def M_RW_shade_47 (l0 l1 l3 : Int) (σ : mS) : Option (((Int × Int × mS) ⊕ (Int × mS))) :=
  (gf 10 6 l0 σ).bind fun v1 =>
  (gf 5 10 v1 σ).bind fun v2 =>
  (ld 100 v2 l1 σ).bind fun v3 =>
  some (.inl (v3, w32 (l3 + 1), σ))
set_option maxRecDepth 100000 in
theorem E_RW_shade_47 (l0 l1 l3 : Int) (σ : mS) : mblk c_RW_shade K_RW_shade (C_RW_shade) (F_RW_shade_47) (fun v σ => some (.inr (v, σ))) 58 47 ([(3, l0), (1, l1), (0, 0), (1, l3)]) [] σ = M_RW_shade_47 l0 l1 l3 σ := rfl
def F_RW_shade_12 : Nat → List mV → List mV → mS → Option (((Int × Int × mS) ⊕ (Int × mS))) := fun i L st σ => match i, L, st with
  | 12, [(3, l0), (1, l1), (1, l2), (1, l3)], [] => some (.inl (l2, l3, σ))
  | 47, [(3, l0), (1, l1), _, (1, l3)], [] => M_RW_shade_47 l0 l1 l3 σ
  | _, _, _ => none
def B_RW_shade_12 (l0 l1 l2 l3 : Int) (σ : mS) : Option (((Int × Int × mS) ⊕ (Int × mS))) :=
  if 100 < l3 then 
    some (.inr (l2, σ))
  else
    (gf 10 6 l0 σ).bind fun v1 =>
    (gk 5 v1 σ).bind fun _ => (M_Light_send v1 l3 σ).bind fun p2 =>
    (gf 10 6 l0 p2.2).bind fun v3 =>
    (gk 5 v3 p2.2).bind fun _ => (M_Light_comesTo v3 l1 p2.2).bind fun p4 =>
    if p4.1 = 0 then 
      some (.inl (l2, w32 (l3 + 1), p4.2))
    else
      (gf 10 6 l0 p4.2).bind fun v5 =>
      (gf 5 10 v5 p4.2).bind fun v6 =>
      (ld 100 v6 l1 p4.2).bind fun v7 =>
      (gf 10 0 l0 p4.2).bind fun v8 =>
      (gf 7 0 v8 p4.2).bind fun v9 =>
      (ld 100 v9 l1 p4.2).bind fun v10 =>
      if v7 < (w32 (100 * v10)) then 
        some (.inl (l2, w32 (l3 + 1), p4.2))
      else
        if l2 = (-1000000) then 
          M_RW_shade_47 l0 l1 l3 p4.2
        else
          (gf 10 6 l0 p4.2).bind fun v11 =>
          (gf 5 10 v11 p4.2).bind fun v12 =>
          (ld 100 v12 l1 p4.2).bind fun v13 =>
          if v13 < l2 then 
            M_RW_shade_47 l0 l1 l3 p4.2
          else
            some (.inl (l2, w32 (l3 + 1), p4.2))
set_option maxRecDepth 100000 in
theorem E_RW_shade_12 (l0 l1 l2 l3 : Int) (σ : mS) : mblk c_RW_shade K_RW_shade (C_RW_shade) (F_RW_shade_12) (fun v σ => some (.inr (v, σ))) 58 12 ([(3, l0), (1, l1), (1, l2), (1, l3)]) [] σ = B_RW_shade_12 l0 l1 l2 l3 σ := rfl
def M_RW_shade_12 (l0 l1 l2 l3 : Int) (σ : mS) : Option (Int × mS) := miter (fun s : Int × Int × mS => B_RW_shade_12 l0 l1 s.1 s.2.1 s.2.2) mN (l2, l3, σ)
def F_RW_shade_0 : Nat → List mV → List mV → mS → Option (Int × mS) := fun i L st σ => match i, L, st with
  | 12, [(3, l0), (1, l1), (1, l2), (1, l3)], [] => M_RW_shade_12 l0 l1 l2 l3 σ
  | _, _, _ => none
def M_RW_shade (l0 l1 : Int) (σ : mS) : Option (Int × mS) :=
  (M_RW_isPlace l1 σ).bind fun p1 =>
  if p1.1 = 0 then 
    some ((-1000000), p1.2)
  else
    (gf 10 6 l0 p1.2).bind fun v2 =>
    (gk 5 v2 p1.2).bind fun _ => (M_Light_standByTerms v2 p1.2).bind fun p3 =>
    M_RW_shade_12 l0 l1 (-1000000) (-100) p3.2
set_option maxRecDepth 100000 in
theorem E_RW_shade_0 (l0 l1 : Int) (σ : mS) : mblk c_RW_shade K_RW_shade (C_RW_shade) (F_RW_shade_0) (fun v σ => some (v, σ)) 58 0 (mInit 4 [(3, l0), (1, l1)]) [] σ = M_RW_shade l0 l1 σ := rfl
end
