/-! the methods as functions: written by gen/emit.py -/
noncomputable section
def C_JA_fill : Nat → List mV → mS → Option (Int × mS) := fun k as σ => match k, as with
  | _, _ => none
def K_JA_fill : Nat → Bool := fun i => i.beq 5
def F_JA_fill_5 : Nat → List mV → List mV → mS → Option (((Int × mS) ⊕ (Int × mS))) := fun i L st σ => match i, L, st with
  | 5, [(3, l0), (1, l1), (1, l2), (1, l3)], [] => some (.inl (l2, σ))
  | _, _, _ => none
def B_JA_fill_5 (l0 l1 l2 l3 : Int) (σ : mS) : Option (((Int × mS) ⊕ (Int × mS))) :=
  if l2 < l3 then 
    (sd 100 l0 l2 l1 σ).bind fun σ =>
    some (.inl (w32 (l2 + 1), σ))
  else
    some (.inr (0, σ))
set_option maxRecDepth 100000 in
theorem E_JA_fill_5 (l0 l1 l2 l3 : Int) (σ : mS) : mblk c_JA_fill K_JA_fill (C_JA_fill) (F_JA_fill_5) (fun v σ => some (.inr (v, σ))) 16 5 ([(3, l0), (1, l1), (1, l2), (1, l3)]) [] σ = B_JA_fill_5 l0 l1 l2 l3 σ := rfl
def M_JA_fill_5 (l0 l1 l2 l3 : Int) (σ : mS) : Option (Int × mS) := miter (fun s : Int × mS => B_JA_fill_5 l0 l1 s.1 l3 s.2) mN (l2, σ)
def F_JA_fill_0 : Nat → List mV → List mV → mS → Option (Int × mS) := fun i L st σ => match i, L, st with
  | 5, [(3, l0), (1, l1), (1, l2), (1, l3)], [] => M_JA_fill_5 l0 l1 l2 l3 σ
  | _, _, _ => none
def M_JA_fill (l0 l1 : Int) (σ : mS) : Option (Int × mS) :=
  (ln l0 σ).bind fun v1 =>
  M_JA_fill_5 l0 l1 0 v1 σ
set_option maxRecDepth 100000 in
theorem E_JA_fill_0 (l0 l1 : Int) (σ : mS) : mblk c_JA_fill K_JA_fill (C_JA_fill) (F_JA_fill_0) (fun v σ => some (v, σ)) 16 0 (mInit 4 [(3, l0), (1, l1)]) [] σ = M_JA_fill l0 l1 σ := rfl
def C_Air_init : Nat → List mV → mS → Option (Int × mS) := fun k as σ => match k, as with
  | 241, [(3, a0), (1, a1)] => M_JA_fill a0 a1 σ
  | _, _ => none
def K_Air_init : Nat → Bool := fun i => false
def F_Air_init_0 : Nat → List mV → List mV → mS → Option (Int × mS) := fun i L st σ => match i, L, st with
  | _, _, _ => none
def M_Air_init (l0 l1 : Int) (σ : mS) : Option (Int × mS) :=
  (gk 1 l0 σ).bind fun _ =>
  (na 203 24 σ).bind fun σ =>
  mlet σ.2.2.1 fun v1 =>
  (pf 1 1 l0 v1 σ).bind fun σ =>
  (na 100 64 σ).bind fun σ =>
  mlet σ.2.2.1 fun v2 =>
  (pf 1 2 l0 v2 σ).bind fun σ =>
  (na 100 6 σ).bind fun σ =>
  mlet σ.2.2.1 fun v3 =>
  (pf 1 3 l0 v3 σ).bind fun σ =>
  (na 100 64 σ).bind fun σ =>
  mlet σ.2.2.1 fun v4 =>
  (pf 1 4 l0 v4 σ).bind fun σ =>
  (pf 1 0 l0 l1 σ).bind fun σ =>
  (gf 1 2 l0 σ).bind fun v5 =>
  (M_JA_fill v5 1 σ).bind fun p6 =>
  some (0, p6.2)
set_option maxRecDepth 100000 in
theorem E_Air_init_0 (l0 l1 : Int) (σ : mS) : mblk c_Air_init K_Air_init (C_Air_init) (F_Air_init_0) (fun v σ => some (v, σ)) 27 0 (mInit 2 [(3, l0), (3, l1)]) [] σ = M_Air_init l0 l1 σ := rfl
def C_Field_init : Nat → List mV → mS → Option (Int × mS) := fun k as σ => match k, as with
  | _, _ => none
def K_Field_init : Nat → Bool := fun i => false
def F_Field_init_0 : Nat → List mV → List mV → mS → Option (Int × mS) := fun i L st σ => match i, L, st with
  | _, _, _ => none
def M_Field_init (l0 l1 : Int) (σ : mS) : Option (Int × mS) :=
  (gk 2 l0 σ).bind fun _ =>
  (na 100 201 σ).bind fun σ =>
  mlet σ.2.2.1 fun v1 =>
  (pf 2 1 l0 v1 σ).bind fun σ =>
  (na 100 201 σ).bind fun σ =>
  mlet σ.2.2.1 fun v2 =>
  (pf 2 2 l0 v2 σ).bind fun σ =>
  (na 100 201 σ).bind fun σ =>
  mlet σ.2.2.1 fun v3 =>
  (pf 2 3 l0 v3 σ).bind fun σ =>
  (pf 2 0 l0 l1 σ).bind fun σ =>
  some (0, σ)
set_option maxRecDepth 100000 in
theorem E_Field_init_0 (l0 l1 : Int) (σ : mS) : mblk c_Field_init K_Field_init (C_Field_init) (F_Field_init_0) (fun v σ => some (v, σ)) 19 0 (mInit 2 [(3, l0), (3, l1)]) [] σ = M_Field_init l0 l1 σ := rfl
def C_Air_lawInForce : Nat → List mV → mS → Option (Int × mS) := fun k as σ => match k, as with
  | _, _ => none
def K_Air_lawInForce : Nat → Bool := fun i => false
def F_Air_lawInForce_0 : Nat → List mV → List mV → mS → Option (Int × mS) := fun i L st σ => match i, L, st with
  | _, _, _ => none
def M_Air_lawInForce (l0 : Int) (σ : mS) : Option (Int × mS) :=
  (gf 1 0 l0 σ).bind fun v1 =>
  (gf 7 9 v1 σ).bind fun v2 =>
  if v2 < 0 then 
    some (0, σ)
  else
    if v2 < 6 then 
      (gf 1 0 l0 σ).bind fun v3 =>
      (gf 7 7 v3 σ).bind fun v4 =>
      (ld 204 v4 v2 σ).bind fun v5 =>
      some (v5, σ)
    else
      some (0, σ)
set_option maxRecDepth 100000 in
theorem E_Air_lawInForce_0 (l0 : Int) (σ : mS) : mblk c_Air_lawInForce K_Air_lawInForce (C_Air_lawInForce) (F_Air_lawInForce_0) (fun v σ => some (v, σ)) 18 0 (mInit 2 [(3, l0)]) [] σ = M_Air_lawInForce l0 σ := rfl
def C_Air_differsByHour : Nat → List mV → mS → Option (Int × mS) := fun k as σ => match k, as with
  | 158, [(3, a0)] => M_Air_lawInForce a0 σ
  | _, _ => none
def K_Air_differsByHour : Nat → Bool := fun i => false
def F_Air_differsByHour_0 : Nat → List mV → List mV → mS → Option (Int × mS) := fun i L st σ => match i, L, st with
  | _, _, _ => none
def M_Air_differsByHour (l0 : Int) (σ : mS) : Option (Int × mS) :=
  (gk 1 l0 σ).bind fun _ => (M_Air_lawInForce l0 σ).bind fun p1 =>
  if p1.1 = 0 then 
    if 0 = 0 ∨ 0 = 1 then some (0, p1.2) else none
  else
    (gf 4 3 p1.1 p1.2).bind fun v2 =>
    if v2 = 0 then 
      if 0 = 0 ∨ 0 = 1 then some (0, p1.2) else none
    else
      if 1 = 0 ∨ 1 = 1 then some (1, p1.2) else none
set_option maxRecDepth 100000 in
theorem E_Air_differsByHour_0 (l0 : Int) (σ : mS) : mblk c_Air_differsByHour K_Air_differsByHour (C_Air_differsByHour) (F_Air_differsByHour_0) (fun v σ => some (v, σ)) 13 0 (mInit 2 [(3, l0)]) [] σ = M_Air_differsByHour l0 σ := rfl
def C_HourAir_init : Nat → List mV → mS → Option (Int × mS) := fun k as σ => match k, as with
  | _, _ => none
def K_HourAir_init : Nat → Bool := fun i => false
def F_HourAir_init_0 : Nat → List mV → List mV → mS → Option (Int × mS) := fun i L st σ => match i, L, st with
  | _, _, _ => none
def M_HourAir_init (l0 l1 : Int) (σ : mS) : Option (Int × mS) :=
  (gk 3 l0 σ).bind fun _ =>
  (na 100 2048 σ).bind fun σ =>
  mlet σ.2.2.1 fun v1 =>
  (pf 3 1 l0 v1 σ).bind fun σ =>
  (na 100 2048 σ).bind fun σ =>
  mlet σ.2.2.1 fun v2 =>
  (pf 3 2 l0 v2 σ).bind fun σ =>
  (na 100 64 σ).bind fun σ =>
  mlet σ.2.2.1 fun v3 =>
  (pf 3 3 l0 v3 σ).bind fun σ =>
  (pf 3 0 l0 l1 σ).bind fun σ =>
  some (0, σ)
set_option maxRecDepth 100000 in
theorem E_HourAir_init_0 (l0 l1 : Int) (σ : mS) : mblk c_HourAir_init K_HourAir_init (C_HourAir_init) (F_HourAir_init_0) (fun v σ => some (v, σ)) 19 0 (mInit 2 [(3, l0), (1, l1)]) [] σ = M_HourAir_init l0 l1 σ := rfl
def C_HourAir_clear : Nat → List mV → mS → Option (Int × mS) := fun k as σ => match k, as with
  | _, _ => none
def K_HourAir_clear : Nat → Bool := fun i => i.beq 4
def F_HourAir_clear_4 : Nat → List mV → List mV → mS → Option (((Int × mS) ⊕ (Int × mS))) := fun i L st σ => match i, L, st with
  | 4, [(3, l0), (1, l1), (1, l2), (1, l3)], [] => some (.inl (l3, σ))
  | _, _, _ => none
def B_HourAir_clear_4 (l0 l1 l2 l3 : Int) (σ : mS) : Option (((Int × mS) ⊕ (Int × mS))) :=
  if l3 < (w32 ((w32 (l1 + 1)) * 32)) then 
    (gf 3 1 l0 σ).bind fun v1 =>
    (sd 100 v1 l3 (-1000000) σ).bind fun σ =>
    (gf 3 2 l0 σ).bind fun v2 =>
    (sd 100 v2 l3 (-1000000) σ).bind fun σ =>
    some (.inl (w32 (l3 + 1), σ))
  else
    (gf 3 3 l0 σ).bind fun v3 =>
    (sd 100 v3 l1 l2 σ).bind fun σ =>
    some (.inr (0, σ))
set_option maxRecDepth 100000 in
theorem E_HourAir_clear_4 (l0 l1 l2 l3 : Int) (σ : mS) : mblk c_HourAir_clear K_HourAir_clear (C_HourAir_clear) (F_HourAir_clear_4) (fun v σ => some (.inr (v, σ))) 30 4 ([(3, l0), (1, l1), (1, l2), (1, l3)]) [] σ = B_HourAir_clear_4 l0 l1 l2 l3 σ := rfl
def M_HourAir_clear_4 (l0 l1 l2 l3 : Int) (σ : mS) : Option (Int × mS) := miter (fun s : Int × mS => B_HourAir_clear_4 l0 l1 l2 s.1 s.2) mN (l3, σ)
def F_HourAir_clear_0 : Nat → List mV → List mV → mS → Option (Int × mS) := fun i L st σ => match i, L, st with
  | 4, [(3, l0), (1, l1), (1, l2), (1, l3)], [] => M_HourAir_clear_4 l0 l1 l2 l3 σ
  | _, _, _ => none
def M_HourAir_clear (l0 l1 l2 : Int) (σ : mS) : Option (Int × mS) :=
  M_HourAir_clear_4 l0 l1 l2 (w32 (l1 * 32)) σ
set_option maxRecDepth 100000 in
theorem E_HourAir_clear_0 (l0 l1 l2 : Int) (σ : mS) : mblk c_HourAir_clear K_HourAir_clear (C_HourAir_clear) (F_HourAir_clear_0) (fun v σ => some (v, σ)) 30 0 (mInit 4 [(3, l0), (1, l1), (1, l2)]) [] σ = M_HourAir_clear l0 l1 l2 σ := rfl
def C_Air_ofHour : Nat → List mV → mS → Option (Int × mS) := fun k as σ => match k, as with
  | 159, [(3, a0)] => M_Air_differsByHour a0 σ
  | 181, [(3, a0), (1, a1)] => M_HourAir_init a0 a1 σ
  | 182, [(3, a0), (1, a1), (1, a2)] => M_HourAir_clear a0 a1 a2 σ
  | _, _ => none
def K_Air_ofHour : Nat → Bool := fun i => i.beq 6 || i.beq 26
def F_Air_ofHour_26 : Nat → List mV → List mV → mS → Option (((Int × mS) ⊕ (Int × mS))) := fun i L st σ => match i, L, st with
  | 26, [(3, l0), _, _, (3, l3), (1, l4)], [] => some (.inl (l4, σ))
  | _, _, _ => none
def B_Air_ofHour_26 (l0 l3 l4 : Int) (σ : mS) : Option (((Int × mS) ⊕ (Int × mS))) :=
  if l4 < 64 then 
    (gf 3 3 l3 σ).bind fun v1 =>
    (ld 100 v1 l4 σ).bind fun v2 =>
    (gf 1 2 l0 σ).bind fun v3 =>
    (ld 100 v3 l4 σ).bind fun v4 =>
    if v2 = v4 then 
      some (.inl (w32 (l4 + 1), σ))
    else
      (gf 1 2 l0 σ).bind fun v5 =>
      (ld 100 v5 l4 σ).bind fun v6 =>
      (gk 3 l3 σ).bind fun _ => (M_HourAir_clear l3 l4 v6 σ).bind fun p7 =>
      some (.inl (w32 (l4 + 1), p7.2))
  else
    some (.inr (l3, σ))
set_option maxRecDepth 100000 in
theorem E_Air_ofHour_26 (l0 l3 l4 : Int) (σ : mS) : mblk c_Air_ofHour K_Air_ofHour (C_Air_ofHour) (F_Air_ofHour_26) (fun v σ => some (.inr (v, σ))) 50 26 ([(3, l0), (0, 0), (0, 0), (3, l3), (1, l4)]) [] σ = B_Air_ofHour_26 l0 l3 l4 σ := rfl
def M_Air_ofHour_26 (l0 l3 l4 : Int) (σ : mS) : Option (Int × mS) := miter (fun s : Int × mS => B_Air_ofHour_26 l0 l3 s.1 s.2) mN (l4, σ)
def F_Air_ofHour_6 : Nat → List mV → List mV → mS → Option (Int × mS) := fun i L st σ => match i, L, st with
  | 26, [(3, l0), _, _, (3, l3), (1, l4)], [] => M_Air_ofHour_26 l0 l3 l4 σ
  | _, _, _ => none
def M_Air_ofHour_6 (l0 s0 : Int) (σ : mS) : Option (Int × mS) :=
  (gf 1 1 l0 σ).bind fun v1 =>
  (ld 203 v1 s0 σ).bind fun v2 =>
  if v2 = 0 then 
    mlet (σ.2.2.1 + 1) fun v3 => mlet (mnew 3 4 σ) fun σ =>
    (gk 3 v3 σ).bind fun _ => (M_HourAir_init v3 s0 σ).bind fun p4 =>
    (gf 1 1 l0 p4.2).bind fun v5 =>
    (sr 3 v5 s0 v3 p4.2).bind fun σ =>
    M_Air_ofHour_26 l0 v3 0 σ
  else
    M_Air_ofHour_26 l0 v2 0 σ
set_option maxRecDepth 100000 in
theorem E_Air_ofHour_6 (l0 s0 : Int) (σ : mS) : mblk c_Air_ofHour K_Air_ofHour (C_Air_ofHour) (F_Air_ofHour_6) (fun v σ => some (v, σ)) 50 6 ([(3, l0), (0, 0), (0, 0), (0, 0), (0, 0)]) [(1, s0)] σ = M_Air_ofHour_6 l0 s0 σ := rfl
def F_Air_ofHour_0 : Nat → List mV → List mV → mS → Option (Int × mS) := fun i L st σ => match i, L, st with
  | 6, [(3, l0), _, _, _, _], [(1, s0)] => M_Air_ofHour_6 l0 s0 σ
  | _, _, _ => none
def M_Air_ofHour (l0 l1 : Int) (σ : mS) : Option (Int × mS) :=
  (gk 1 l0 σ).bind fun _ => (M_Air_differsByHour l0 σ).bind fun p1 =>
  if p1.1 = 0 then 
    M_Air_ofHour_6 l0 0 p1.2
  else
    M_Air_ofHour_6 l0 l1 p1.2
set_option maxRecDepth 100000 in
theorem E_Air_ofHour_0 (l0 l1 : Int) (σ : mS) : mblk c_Air_ofHour K_Air_ofHour (C_Air_ofHour) (F_Air_ofHour_0) (fun v σ => some (v, σ)) 50 0 (mInit 5 [(3, l0), (1, l1)]) [] σ = M_Air_ofHour l0 l1 σ := rfl
def C_Light_init : Nat → List mV → mS → Option (Int × mS) := fun k as σ => match k, as with
  | 160, [(3, a0), (1, a1)] => M_Air_ofHour a0 a1 σ
  | 241, [(3, a0), (1, a1)] => M_JA_fill a0 a1 σ
  | _, _ => none
def K_Light_init : Nat → Bool := fun i => false
def F_Light_init_0 : Nat → List mV → List mV → mS → Option (Int × mS) := fun i L st σ => match i, L, st with
  | _, _, _ => none
def M_Light_init (l0 l1 l2 : Int) (σ : mS) : Option (Int × mS) :=
  (gk 5 l0 σ).bind fun _ =>
  (na 100 64 σ).bind fun σ =>
  mlet σ.2.2.1 fun v1 =>
  (pf 5 2 l0 v1 σ).bind fun σ =>
  (na 100 64 σ).bind fun σ =>
  mlet σ.2.2.1 fun v2 =>
  (pf 5 10 l0 v2 σ).bind fun σ =>
  (pf 5 0 l0 l1 σ).bind fun σ =>
  (pf 5 1 l0 l2 σ).bind fun σ =>
  (gf 5 2 l0 σ).bind fun v3 =>
  (M_JA_fill v3 (-1) σ).bind fun p4 =>
  (gk 1 l2 p4.2).bind fun _ => (M_Air_ofHour l2 0 p4.2).bind fun p5 =>
  (pf 5 5 l0 p5.1 p5.2).bind fun σ =>
  some (0, σ)
set_option maxRecDepth 100000 in
theorem E_Light_init_0 (l0 l1 l2 : Int) (σ : mS) : mblk c_Light_init K_Light_init (C_Light_init) (F_Light_init_0) (fun v σ => some (v, σ)) 27 0 (mInit 3 [(3, l0), (3, l1), (3, l2)]) [] σ = M_Light_init l0 l1 l2 σ := rfl
def C_Reader_init : Nat → List mV → mS → Option (Int × mS) := fun k as σ => match k, as with
  | _, _ => none
def K_Reader_init : Nat → Bool := fun i => false
def F_Reader_init_0 : Nat → List mV → List mV → mS → Option (Int × mS) := fun i L st σ => match i, L, st with
  | _, _, _ => none
def M_Reader_init (l0 : Int) (σ : mS) : Option (Int × mS) :=
  (gk 6 l0 σ).bind fun _ =>
  (na 100 401 σ).bind fun σ =>
  mlet σ.2.2.1 fun v1 =>
  (pf 6 0 l0 v1 σ).bind fun σ =>
  (na 100 401 σ).bind fun σ =>
  mlet σ.2.2.1 fun v2 =>
  (pf 6 1 l0 v2 σ).bind fun σ =>
  (na 100 401 σ).bind fun σ =>
  mlet σ.2.2.1 fun v3 =>
  (pf 6 2 l0 v3 σ).bind fun σ =>
  (na 100 400 σ).bind fun σ =>
  mlet σ.2.2.1 fun v4 =>
  (pf 6 5 l0 v4 σ).bind fun σ =>
  (na 100 12 σ).bind fun σ =>
  mlet σ.2.2.1 fun v5 =>
  (pf 6 7 l0 v5 σ).bind fun σ =>
  (na 100 12 σ).bind fun σ =>
  mlet σ.2.2.1 fun v6 =>
  (pf 6 8 l0 v6 σ).bind fun σ =>
  some (0, σ)
set_option maxRecDepth 100000 in
theorem E_Reader_init_0 (l0 : Int) (σ : mS) : mblk c_Reader_init K_Reader_init (C_Reader_init) (F_Reader_init_0) (fun v σ => some (v, σ)) 28 0 (mInit 1 [(3, l0)]) [] σ = M_Reader_init l0 σ := rfl
def C_Road_init : Nat → List mV → mS → Option (Int × mS) := fun k as σ => match k, as with
  | 241, [(3, a0), (1, a1)] => M_JA_fill a0 a1 σ
  | _, _ => none
def K_Road_init : Nat → Bool := fun i => false
def F_Road_init_0 : Nat → List mV → List mV → mS → Option (Int × mS) := fun i L st σ => match i, L, st with
  | _, _, _ => none
def M_Road_init (l0 : Int) (σ : mS) : Option (Int × mS) :=
  (gk 7 l0 σ).bind fun _ =>
  (na 100 64 σ).bind fun σ =>
  mlet σ.2.2.1 fun v1 =>
  (pf 7 0 l0 v1 σ).bind fun σ =>
  (na 100 64 σ).bind fun σ =>
  mlet σ.2.2.1 fun v2 =>
  (pf 7 1 l0 v2 σ).bind fun σ =>
  (na 100 64 σ).bind fun σ =>
  mlet σ.2.2.1 fun v3 =>
  (pf 7 2 l0 v3 σ).bind fun σ =>
  (na 100 8 σ).bind fun σ =>
  mlet σ.2.2.1 fun v4 =>
  (pf 7 3 l0 v4 σ).bind fun σ =>
  (na 100 8 σ).bind fun σ =>
  mlet σ.2.2.1 fun v5 =>
  (pf 7 4 l0 v5 σ).bind fun σ =>
  (na 100 4 σ).bind fun σ =>
  mlet σ.2.2.1 fun v6 =>
  (pf 7 6 l0 v6 σ).bind fun σ =>
  (na 204 6 σ).bind fun σ =>
  mlet σ.2.2.1 fun v7 =>
  (pf 7 7 l0 v7 σ).bind fun σ =>
  (na 100 12 σ).bind fun σ =>
  mlet σ.2.2.1 fun v8 =>
  (pf 7 10 l0 v8 σ).bind fun σ =>
  (na 100 12 σ).bind fun σ =>
  mlet σ.2.2.1 fun v9 =>
  (pf 7 11 l0 v9 σ).bind fun σ =>
  (na 100 12 σ).bind fun σ =>
  mlet σ.2.2.1 fun v10 =>
  (pf 7 12 l0 v10 σ).bind fun σ =>
  (gf 7 2 l0 σ).bind fun v11 =>
  (M_JA_fill v11 (-1) σ).bind fun p12 =>
  (gf 7 6 l0 p12.2).bind fun v13 =>
  (cpy (-2) 0 v13 0 4 p12.2).bind fun σ =>
  (pf 7 9 l0 (-1) σ).bind fun σ =>
  some (0, σ)
set_option maxRecDepth 100000 in
theorem E_Road_init_0 (l0 : Int) (σ : mS) : mblk c_Road_init K_Road_init (C_Road_init) (F_Road_init_0) (fun v σ => some (v, σ)) 58 0 (mInit 1 [(3, l0)]) [] σ = M_Road_init l0 σ := rfl
def C_Survey_init : Nat → List mV → mS → Option (Int × mS) := fun k as σ => match k, as with
  | _, _ => none
def K_Survey_init : Nat → Bool := fun i => false
def F_Survey_init_0 : Nat → List mV → List mV → mS → Option (Int × mS) := fun i L st σ => match i, L, st with
  | _, _, _ => none
def M_Survey_init (l0 l1 l2 : Int) (σ : mS) : Option (Int × mS) :=
  (gk 8 l0 σ).bind fun _ =>
  (na 100 64 σ).bind fun σ =>
  mlet σ.2.2.1 fun v1 =>
  (pf 8 2 l0 v1 σ).bind fun σ =>
  (na 100 64 σ).bind fun σ =>
  mlet σ.2.2.1 fun v2 =>
  (pf 8 3 l0 v2 σ).bind fun σ =>
  (pf 8 0 l0 l1 σ).bind fun σ =>
  (pf 8 1 l0 l2 σ).bind fun σ =>
  some (0, σ)
set_option maxRecDepth 100000 in
theorem E_Survey_init_0 (l0 l1 l2 : Int) (σ : mS) : mblk c_Survey_init K_Survey_init (C_Survey_init) (F_Survey_init_0) (fun v σ => some (v, σ)) 18 0 (mInit 3 [(3, l0), (3, l1), (3, l2)]) [] σ = M_Survey_init l0 l1 l2 σ := rfl
def C_Tape_init : Nat → List mV → mS → Option (Int × mS) := fun k as σ => match k, as with
  | _, _ => none
def K_Tape_init : Nat → Bool := fun i => false
def F_Tape_init_0 : Nat → List mV → List mV → mS → Option (Int × mS) := fun i L st σ => match i, L, st with
  | _, _, _ => none
def M_Tape_init (l0 : Int) (σ : mS) : Option (Int × mS) :=
  (gk 9 l0 σ).bind fun _ =>
  (na 100 400 σ).bind fun σ =>
  mlet σ.2.2.1 fun v1 =>
  (pf 9 0 l0 v1 σ).bind fun σ =>
  some (0, σ)
set_option maxRecDepth 100000 in
theorem E_Tape_init_0 (l0 : Int) (σ : mS) : mblk c_Tape_init K_Tape_init (C_Tape_init) (F_Tape_init_0) (fun v σ => some (v, σ)) 8 0 (mInit 1 [(3, l0)]) [] σ = M_Tape_init l0 σ := rfl
def C_RW_init : Nat → List mV → mS → Option (Int × mS) := fun k as σ => match k, as with
  | 155, [(3, a0), (3, a1)] => M_Air_init a0 a1 σ
  | 164, [(3, a0), (3, a1)] => M_Field_init a0 a1 σ
  | 187, [(3, a0), (3, a1), (3, a2)] => M_Light_init a0 a1 a2 σ
  | 197, [(3, a0)] => M_Reader_init a0 σ
  | 220, [(3, a0)] => M_Road_init a0 σ
  | 226, [(3, a0), (3, a1), (3, a2)] => M_Survey_init a0 a1 a2 σ
  | 235, [(3, a0)] => M_Tape_init a0 σ
  | _, _ => none
def K_RW_init : Nat → Bool := fun i => i.beq 13
def F_RW_init_13 : Nat → List mV → List mV → mS → Option (((Int × mS) ⊕ (Int × mS))) := fun i L st σ => match i, L, st with
  | 13, [(3, l0), (1, l1)], [] => some (.inl (l1, σ))
  | _, _, _ => none
def B_RW_init_13 (l0 l1 : Int) (σ : mS) : Option (((Int × mS) ⊕ (Int × mS))) :=
  if l1 < 2 then 
    (gf 10 1 l0 σ).bind fun v1 =>
    mlet (σ.2.2.1 + 1) fun v2 => mlet (mnew 7 14 σ) fun σ =>
    (gk 7 v2 σ).bind fun _ => (M_Road_init v2 σ).bind fun p3 =>
    (sr 7 v1 l1 v2 p3.2).bind fun σ =>
    some (.inl (w32 (l1 + 1), σ))
  else
    (na 102 2 σ).bind fun σ =>
    mlet σ.2.2.1 fun v4 =>
    (pf 10 2 l0 v4 σ).bind fun σ =>
    mlet (σ.2.2.1 + 1) fun v5 => mlet (mnew 9 2 σ) fun σ =>
    (gk 9 v5 σ).bind fun _ => (M_Tape_init v5 σ).bind fun p6 =>
    (pf 10 3 l0 v5 p6.2).bind fun σ =>
    mlet (σ.2.2.1 + 1) fun v7 => mlet (mnew 6 12 σ) fun σ =>
    (gk 6 v7 σ).bind fun _ => (M_Reader_init v7 σ).bind fun p8 =>
    (pf 10 4 l0 v7 p8.2).bind fun σ =>
    mlet (σ.2.2.1 + 1) fun v9 => mlet (mnew 1 5 σ) fun σ =>
    (gf 10 0 l0 σ).bind fun v10 =>
    (gk 1 v9 σ).bind fun _ => (M_Air_init v9 v10 σ).bind fun p11 =>
    (pf 10 5 l0 v9 p11.2).bind fun σ =>
    mlet (σ.2.2.1 + 1) fun v12 => mlet (mnew 5 17 σ) fun σ =>
    (gf 10 0 l0 σ).bind fun v13 =>
    (gf 10 5 l0 σ).bind fun v14 =>
    (gk 5 v12 σ).bind fun _ => (M_Light_init v12 v13 v14 σ).bind fun p15 =>
    (pf 10 6 l0 v12 p15.2).bind fun σ =>
    mlet (σ.2.2.1 + 1) fun v16 => mlet (mnew 2 8 σ) fun σ =>
    (gf 10 6 l0 σ).bind fun v17 =>
    (gk 2 v16 σ).bind fun _ => (M_Field_init v16 v17 σ).bind fun p18 =>
    (pf 10 7 l0 v16 p18.2).bind fun σ =>
    mlet (σ.2.2.1 + 1) fun v19 => mlet (mnew 8 4 σ) fun σ =>
    (gf 10 0 l0 σ).bind fun v20 =>
    (gf 10 6 l0 σ).bind fun v21 =>
    (gk 8 v19 σ).bind fun _ => (M_Survey_init v19 v20 v21 σ).bind fun p22 =>
    (pf 10 8 l0 v19 p22.2).bind fun σ =>
    (na 100 40 σ).bind fun σ =>
    mlet σ.2.2.1 fun v23 =>
    (pf 10 9 l0 v23 σ).bind fun σ =>
    (na 100 40 σ).bind fun σ =>
    mlet σ.2.2.1 fun v24 =>
    (pf 10 10 l0 v24 σ).bind fun σ =>
    (pf 10 13 l0 (-1) σ).bind fun σ =>
    (na 100 7 σ).bind fun σ =>
    mlet σ.2.2.1 fun v25 =>
    (pf 10 15 l0 v25 σ).bind fun σ =>
    some (.inr (0, σ))
set_option maxRecDepth 100000 in
theorem E_RW_init_13 (l0 l1 : Int) (σ : mS) : mblk c_RW_init K_RW_init (C_RW_init) (F_RW_init_13) (fun v σ => some (.inr (v, σ))) 88 13 ([(3, l0), (1, l1)]) [] σ = B_RW_init_13 l0 l1 σ := rfl
def M_RW_init_13 (l0 l1 : Int) (σ : mS) : Option (Int × mS) := miter (fun s : Int × mS => B_RW_init_13 l0 s.1 s.2) mN (l1, σ)
def F_RW_init_0 : Nat → List mV → List mV → mS → Option (Int × mS) := fun i L st σ => match i, L, st with
  | 13, [(3, l0), (1, l1)], [] => M_RW_init_13 l0 l1 σ
  | _, _, _ => none
def M_RW_init (l0 : Int) (σ : mS) : Option (Int × mS) :=
  (gk 10 l0 σ).bind fun _ =>
  mlet (σ.2.2.1 + 1) fun v1 => mlet (mnew 7 14 σ) fun σ =>
  (gk 7 v1 σ).bind fun _ => (M_Road_init v1 σ).bind fun p2 =>
  (pf 10 0 l0 v1 p2.2).bind fun σ =>
  (na 207 2 σ).bind fun σ =>
  mlet σ.2.2.1 fun v3 =>
  (pf 10 1 l0 v3 σ).bind fun σ =>
  M_RW_init_13 l0 0 σ
set_option maxRecDepth 100000 in
theorem E_RW_init_0 (l0 : Int) (σ : mS) : mblk c_RW_init K_RW_init (C_RW_init) (F_RW_init_0) (fun v σ => some (v, σ)) 88 0 (mInit 2 [(3, l0)]) [] σ = M_RW_init l0 σ := rfl
def C_RW_isWithin : Nat → List mV → mS → Option (Int × mS) := fun k as σ => match k, as with
  | _, _ => none
def K_RW_isWithin : Nat → Bool := fun i => false
def F_RW_isWithin_0 : Nat → List mV → List mV → mS → Option (Int × mS) := fun i L st σ => match i, L, st with
  | _, _, _ => none
def M_RW_isWithin (l0 l1 l2 : Int) (σ : mS) : Option (Int × mS) :=
  if l0 < l1 then 
    if 0 = 0 ∨ 0 = 1 then some (0, σ) else none
  else
    if l2 < l0 then 
      if 0 = 0 ∨ 0 = 1 then some (0, σ) else none
    else
      if 1 = 0 ∨ 1 = 1 then some (1, σ) else none
set_option maxRecDepth 100000 in
theorem E_RW_isWithin_0 (l0 l1 l2 : Int) (σ : mS) : mblk c_RW_isWithin K_RW_isWithin (C_RW_isWithin) (F_RW_isWithin_0) (fun v σ => some (v, σ)) 11 0 (mInit 3 [(1, l0), (1, l1), (1, l2)]) [] σ = M_RW_isWithin l0 l1 l2 σ := rfl
def C_RW_refuse : Nat → List mV → mS → Option (Int × mS) := fun k as σ => match k, as with
  | 47, [(1, a0), (1, a1), (1, a2)] => M_RW_isWithin a0 a1 a2 σ
  | _, _ => none
def K_RW_refuse : Nat → Bool := fun i => false
def F_RW_refuse_0 : Nat → List mV → List mV → mS → Option (Int × mS) := fun i L st σ => match i, L, st with
  | _, _, _ => none
def M_RW_refuse (l0 l1 : Int) (σ : mS) : Option (Int × mS) :=
  (pf 10 14 l0 l1 σ).bind fun σ =>
  (gf 10 15 l0 σ).bind fun v1 =>
  (ln v1 σ).bind fun v2 =>
  (M_RW_isWithin (w32 (-l1)) 0 (w32 (v2 - 1)) σ).bind fun p3 =>
  if p3.1 = 0 then 
    some (l1, p3.2)
  else
    (gf 10 15 l0 p3.2).bind fun v4 =>
    (ld 100 v4 (w32 (-l1)) p3.2).bind fun v5 =>
    (sd 100 v4 (w32 (-l1)) (w32 (v5 + 1)) p3.2).bind fun σ =>
    some (l1, σ)
set_option maxRecDepth 100000 in
theorem E_RW_refuse_0 (l0 l1 : Int) (σ : mS) : mblk c_RW_refuse K_RW_refuse (C_RW_refuse) (F_RW_refuse_0) (fun v σ => some (v, σ)) 25 0 (mInit 2 [(3, l0), (1, l1)]) [] σ = M_RW_refuse l0 l1 σ := rfl
def C_Field_forget : Nat → List mV → mS → Option (Int × mS) := fun k as σ => match k, as with
  | _, _ => none
def K_Field_forget : Nat → Bool := fun i => false
def F_Field_forget_0 : Nat → List mV → List mV → mS → Option (Int × mS) := fun i L st σ => match i, L, st with
  | _, _, _ => none
def M_Field_forget (l0 : Int) (σ : mS) : Option (Int × mS) :=
  (pz 2 4 l0 0 σ).bind fun σ =>
  some (0, σ)
set_option maxRecDepth 100000 in
theorem E_Field_forget_0 (l0 : Int) (σ : mS) : mblk c_Field_forget K_Field_forget (C_Field_forget) (F_Field_forget_0) (fun v σ => some (v, σ)) 5 0 (mInit 1 [(3, l0)]) [] σ = M_Field_forget l0 σ := rfl
def C_RW_accept : Nat → List mV → mS → Option (Int × mS) := fun k as σ => match k, as with
  | 165, [(3, a0)] => M_Field_forget a0 σ
  | _, _ => none
def K_RW_accept : Nat → Bool := fun i => false
def F_RW_accept_0 : Nat → List mV → List mV → mS → Option (Int × mS) := fun i L st σ => match i, L, st with
  | _, _, _ => none
def M_RW_accept (l0 l1 : Int) (σ : mS) : Option (Int × mS) :=
  (pf 10 14 l0 0 σ).bind fun σ =>
  (gf 10 7 l0 σ).bind fun v1 =>
  (gk 2 v1 σ).bind fun _ => (M_Field_forget v1 σ).bind fun p2 =>
  some (l1, p2.2)
set_option maxRecDepth 100000 in
theorem E_RW_accept_0 (l0 l1 : Int) (σ : mS) : mblk c_RW_accept K_RW_accept (C_RW_accept) (F_RW_accept_0) (fun v σ => some (v, σ)) 9 0 (mInit 2 [(3, l0), (1, l1)]) [] σ = M_RW_accept l0 l1 σ := rfl
def C_RW_isPlace : Nat → List mV → mS → Option (Int × mS) := fun k as σ => match k, as with
  | 47, [(1, a0), (1, a1), (1, a2)] => M_RW_isWithin a0 a1 a2 σ
  | _, _ => none
def K_RW_isPlace : Nat → Bool := fun i => false
def F_RW_isPlace_0 : Nat → List mV → List mV → mS → Option (Int × mS) := fun i L st σ => match i, L, st with
  | _, _, _ => none
def M_RW_isPlace (l0 : Int) (σ : mS) : Option (Int × mS) :=
  (M_RW_isWithin l0 0 63 σ).bind fun p1 =>
  if p1.1 = 0 ∨ p1.1 = 1 then some (p1.1, p1.2) else none
set_option maxRecDepth 100000 in
theorem E_RW_isPlace_0 (l0 : Int) (σ : mS) : mblk c_RW_isPlace K_RW_isPlace (C_RW_isPlace) (F_RW_isPlace_0) (fun v σ => some (v, σ)) 6 0 (mInit 1 [(1, l0)]) [] σ = M_RW_isPlace l0 σ := rfl
def C_Air_forgetPlace : Nat → List mV → mS → Option (Int × mS) := fun k as σ => match k, as with
  | _, _ => none
def K_Air_forgetPlace : Nat → Bool := fun i => false
def F_Air_forgetPlace_0 : Nat → List mV → List mV → mS → Option (Int × mS) := fun i L st σ => match i, L, st with
  | _, _, _ => none
def M_Air_forgetPlace (l0 l1 : Int) (σ : mS) : Option (Int × mS) :=
  (gf 1 2 l0 σ).bind fun v1 =>
  (ld 100 v1 l1 σ).bind fun v2 =>
  (sd 100 v1 l1 (w32 (v2 + 1)) σ).bind fun σ =>
  some (0, σ)
set_option maxRecDepth 100000 in
theorem E_Air_forgetPlace_0 (l0 l1 : Int) (σ : mS) : mblk c_Air_forgetPlace K_Air_forgetPlace (C_Air_forgetPlace) (F_Air_forgetPlace_0) (fun v σ => some (v, σ)) 10 0 (mInit 2 [(3, l0), (1, l1)]) [] σ = M_Air_forgetPlace l0 l1 σ := rfl
def C_RW_rise : Nat → List mV → mS → Option (Int × mS) := fun k as σ => match k, as with
  | 45, [(3, a0), (1, a1)] => M_RW_refuse a0 a1 σ
  | 46, [(3, a0), (1, a1)] => M_RW_accept a0 a1 σ
  | 47, [(1, a0), (1, a1), (1, a2)] => M_RW_isWithin a0 a1 a2 σ
  | 48, [(1, a0)] => M_RW_isPlace a0 σ
  | 156, [(3, a0), (1, a1)] => M_Air_forgetPlace a0 a1 σ
  | _, _ => none
def K_RW_rise : Nat → Bool := fun i => false
def F_RW_rise_0 : Nat → List mV → List mV → mS → Option (Int × mS) := fun i L st σ => match i, L, st with
  | _, _, _ => none
def M_RW_rise (l0 l1 l2 : Int) (σ : mS) : Option (Int × mS) :=
  (M_RW_isPlace l1 σ).bind fun p1 =>
  if p1.1 = 0 then 
    (gk 10 l0 p1.2).bind fun _ => (M_RW_refuse l0 (-1) p1.2).bind fun p2 =>
    some (p2.1, p2.2)
  else
    (M_RW_isWithin l2 0 31 p1.2).bind fun p3 =>
    if p3.1 = 0 then 
      (gk 10 l0 p3.2).bind fun _ => (M_RW_refuse l0 (-1) p3.2).bind fun p4 =>
      some (p4.1, p4.2)
    else
      (gf 10 0 l0 p3.2).bind fun v5 =>
      (gf 7 0 v5 p3.2).bind fun v6 =>
      (ld 100 v6 l1 p3.2).bind fun v7 =>
      (gf 10 0 l0 p3.2).bind fun v8 =>
      (gf 7 0 v8 p3.2).bind fun v9 =>
      (sd 100 v9 l1 l2 p3.2).bind fun σ =>
      (gf 10 5 l0 σ).bind fun v10 =>
      (gk 1 v10 σ).bind fun _ => (M_Air_forgetPlace v10 l1 σ).bind fun p11 =>
      (gk 10 l0 p11.2).bind fun _ => (M_RW_accept l0 v7 p11.2).bind fun p12 =>
      some (p12.1, p12.2)
set_option maxRecDepth 100000 in
theorem E_RW_rise_0 (l0 l1 l2 : Int) (σ : mS) : mblk c_RW_rise K_RW_rise (C_RW_rise) (F_RW_rise_0) (fun v σ => some (v, σ)) 33 0 (mInit 4 [(3, l0), (1, l1), (1, l2)]) [] σ = M_RW_rise l0 l1 l2 σ := rfl
def C_RW_ground : Nat → List mV → mS → Option (Int × mS) := fun k as σ => match k, as with
  | 45, [(3, a0), (1, a1)] => M_RW_refuse a0 a1 σ
  | 46, [(3, a0), (1, a1)] => M_RW_accept a0 a1 σ
  | 47, [(1, a0), (1, a1), (1, a2)] => M_RW_isWithin a0 a1 a2 σ
  | 48, [(1, a0)] => M_RW_isPlace a0 σ
  | 156, [(3, a0), (1, a1)] => M_Air_forgetPlace a0 a1 σ
  | _, _ => none
def K_RW_ground : Nat → Bool := fun i => i.beq 22
def F_RW_ground_22 : Nat → List mV → List mV → mS → Option (((Int × Int × mS) ⊕ (Int × mS))) := fun i L st σ => match i, L, st with
  | 22, [(3, l0), _, (1, l2), (1, l3), (1, l4), (1, l5)], [] => some (.inl (l4, l5, σ))
  | _, _, _ => none
def B_RW_ground_22 (l0 l2 l3 l4 l5 : Int) (σ : mS) : Option (((Int × Int × mS) ⊕ (Int × mS))) :=
  if l2 < l5 then 
    (gk 10 l0 σ).bind fun _ => (M_RW_accept l0 l4 σ).bind fun p1 =>
    some (.inr (p1.1, p1.2))
  else
    (gf 10 0 l0 σ).bind fun v2 =>
    (gf 7 1 v2 σ).bind fun v3 =>
    (ld 100 v3 l5 σ).bind fun v4 =>
    if v4 = l3 then 
      some (.inl (l4, w32 (l5 + 1), σ))
    else
      (gf 10 0 l0 σ).bind fun v5 =>
      (gf 7 1 v5 σ).bind fun v6 =>
      (sd 100 v6 l5 l3 σ).bind fun σ =>
      (gf 10 5 l0 σ).bind fun v7 =>
      (gk 1 v7 σ).bind fun _ => (M_Air_forgetPlace v7 l5 σ).bind fun p8 =>
      some (.inl (w32 (l4 + 1), w32 (l5 + 1), p8.2))
set_option maxRecDepth 100000 in
theorem E_RW_ground_22 (l0 l2 l3 l4 l5 : Int) (σ : mS) : mblk c_RW_ground K_RW_ground (C_RW_ground) (F_RW_ground_22) (fun v σ => some (.inr (v, σ))) 50 22 ([(3, l0), (0, 0), (1, l2), (1, l3), (1, l4), (1, l5)]) [] σ = B_RW_ground_22 l0 l2 l3 l4 l5 σ := rfl
def M_RW_ground_22 (l0 l2 l3 l4 l5 : Int) (σ : mS) : Option (Int × mS) := miter (fun s : Int × Int × mS => B_RW_ground_22 l0 l2 l3 s.1 s.2.1 s.2.2) mN (l4, l5, σ)
def F_RW_ground_0 : Nat → List mV → List mV → mS → Option (Int × mS) := fun i L st σ => match i, L, st with
  | 22, [(3, l0), _, (1, l2), (1, l3), (1, l4), (1, l5)], [] => M_RW_ground_22 l0 l2 l3 l4 l5 σ
  | _, _, _ => none
def M_RW_ground (l0 l1 l2 l3 : Int) (σ : mS) : Option (Int × mS) :=
  (M_RW_isPlace l1 σ).bind fun p1 =>
  if p1.1 = 0 then 
    (gk 10 l0 p1.2).bind fun _ => (M_RW_refuse l0 (-1) p1.2).bind fun p2 =>
    some (p2.1, p2.2)
  else
    (M_RW_isPlace l2 p1.2).bind fun p3 =>
    if p3.1 = 0 then 
      (gk 10 l0 p3.2).bind fun _ => (M_RW_refuse l0 (-1) p3.2).bind fun p4 =>
      some (p4.1, p4.2)
    else
      if l2 < l1 then 
        (gk 10 l0 p3.2).bind fun _ => (M_RW_refuse l0 (-1) p3.2).bind fun p5 =>
        some (p5.1, p5.2)
      else
        (M_RW_isWithin l3 0 9 p3.2).bind fun p6 =>
        if p6.1 = 0 then 
          (gk 10 l0 p6.2).bind fun _ => (M_RW_refuse l0 (-1) p6.2).bind fun p7 =>
          some (p7.1, p7.2)
        else
          M_RW_ground_22 l0 l2 l3 0 l1 p6.2
set_option maxRecDepth 100000 in
theorem E_RW_ground_0 (l0 l1 l2 l3 : Int) (σ : mS) : mblk c_RW_ground K_RW_ground (C_RW_ground) (F_RW_ground_0) (fun v σ => some (v, σ)) 50 0 (mInit 6 [(3, l0), (1, l1), (1, l2), (1, l3)]) [] σ = M_RW_ground l0 l1 l2 l3 σ := rfl
def C_RW_isTall : Nat → List mV → mS → Option (Int × mS) := fun k as σ => match k, as with
  | 47, [(1, a0), (1, a1), (1, a2)] => M_RW_isWithin a0 a1 a2 σ
  | _, _ => none
def K_RW_isTall : Nat → Bool := fun i => false
def F_RW_isTall_0 : Nat → List mV → List mV → mS → Option (Int × mS) := fun i L st σ => match i, L, st with
  | _, _, _ => none
def M_RW_isTall (l0 : Int) (σ : mS) : Option (Int × mS) :=
  (M_RW_isWithin l0 1 31 σ).bind fun p1 =>
  if p1.1 = 0 ∨ p1.1 = 1 then some (p1.1, p1.2) else none
set_option maxRecDepth 100000 in
theorem E_RW_isTall_0 (l0 : Int) (σ : mS) : mblk c_RW_isTall K_RW_isTall (C_RW_isTall) (F_RW_isTall_0) (fun v σ => some (v, σ)) 6 0 (mInit 1 [(1, l0)]) [] σ = M_RW_isTall l0 σ := rfl
def C_RW_thing : Nat → List mV → mS → Option (Int × mS) := fun k as σ => match k, as with
  | 45, [(3, a0), (1, a1)] => M_RW_refuse a0 a1 σ
  | 46, [(3, a0), (1, a1)] => M_RW_accept a0 a1 σ
  | 48, [(1, a0)] => M_RW_isPlace a0 σ
  | 50, [(1, a0)] => M_RW_isTall a0 σ
  | _, _ => none
def K_RW_thing : Nat → Bool := fun i => false
def F_RW_thing_0 : Nat → List mV → List mV → mS → Option (Int × mS) := fun i L st σ => match i, L, st with
  | _, _, _ => none
def M_RW_thing (l0 l1 l2 : Int) (σ : mS) : Option (Int × mS) :=
  (M_RW_isPlace l1 σ).bind fun p1 =>
  if p1.1 = 0 then 
    (gk 10 l0 p1.2).bind fun _ => (M_RW_refuse l0 (-1) p1.2).bind fun p2 =>
    some (p2.1, p2.2)
  else
    (M_RW_isTall l2 p1.2).bind fun p3 =>
    if p3.1 = 0 then 
      (gk 10 l0 p3.2).bind fun _ => (M_RW_refuse l0 (-1) p3.2).bind fun p4 =>
      some (p4.1, p4.2)
    else
      (gf 10 0 l0 p3.2).bind fun v5 =>
      (gf 7 2 v5 p3.2).bind fun v6 =>
      (ld 100 v6 l1 p3.2).bind fun v7 =>
      if v7 = (-1) then 
        (gf 10 0 l0 p3.2).bind fun v8 =>
        (gf 7 5 v8 p3.2).bind fun v9 =>
        if v9 < 8 then 
          (gf 10 0 l0 p3.2).bind fun v10 =>
          (gf 7 3 v10 p3.2).bind fun v11 =>
          (sd 100 v11 v9 l1 p3.2).bind fun σ =>
          (gf 10 0 l0 σ).bind fun v12 =>
          (gf 7 4 v12 σ).bind fun v13 =>
          (sd 100 v13 v9 l2 σ).bind fun σ =>
          (gf 10 0 l0 σ).bind fun v14 =>
          (gf 7 2 v14 σ).bind fun v15 =>
          (sd 100 v15 l1 v9 σ).bind fun σ =>
          (gf 10 0 l0 σ).bind fun v16 =>
          (gf 7 5 v16 σ).bind fun v17 =>
          (pf 7 5 v16 (w32 (v17 + 1)) σ).bind fun σ =>
          (gk 10 l0 σ).bind fun _ => (M_RW_accept l0 v9 σ).bind fun p18 =>
          some (p18.1, p18.2)
        else
          (gk 10 l0 p3.2).bind fun _ => (M_RW_refuse l0 (-5) p3.2).bind fun p19 =>
          some (p19.1, p19.2)
      else
        (gk 10 l0 p3.2).bind fun _ => (M_RW_refuse l0 (-3) p3.2).bind fun p20 =>
        some (p20.1, p20.2)
set_option maxRecDepth 100000 in
theorem E_RW_thing_0 (l0 l1 l2 : Int) (σ : mS) : mblk c_RW_thing K_RW_thing (C_RW_thing) (F_RW_thing_0) (fun v σ => some (v, σ)) 62 0 (mInit 4 [(3, l0), (1, l1), (1, l2)]) [] σ = M_RW_thing l0 l1 l2 σ := rfl
def C_Road_hasThing : Nat → List mV → mS → Option (Int × mS) := fun k as σ => match k, as with
  | _, _ => none
def K_Road_hasThing : Nat → Bool := fun i => false
def F_Road_hasThing_0 : Nat → List mV → List mV → mS → Option (Int × mS) := fun i L st σ => match i, L, st with
  | _, _, _ => none
def M_Road_hasThing (l0 l1 : Int) (σ : mS) : Option (Int × mS) :=
  if l1 < 0 then 
    if 0 = 0 ∨ 0 = 1 then some (0, σ) else none
  else
    (gf 7 5 l0 σ).bind fun v1 =>
    if l1 < v1 then 
      if 1 = 0 ∨ 1 = 1 then some (1, σ) else none
    else
      if 0 = 0 ∨ 0 = 1 then some (0, σ) else none
set_option maxRecDepth 100000 in
theorem E_Road_hasThing_0 (l0 l1 : Int) (σ : mS) : mblk c_Road_hasThing K_Road_hasThing (C_Road_hasThing) (F_Road_hasThing_0) (fun v σ => some (v, σ)) 11 0 (mInit 2 [(3, l0), (1, l1)]) [] σ = M_Road_hasThing l0 l1 σ := rfl
def C_RW_move : Nat → List mV → mS → Option (Int × mS) := fun k as σ => match k, as with
  | 45, [(3, a0), (1, a1)] => M_RW_refuse a0 a1 σ
  | 46, [(3, a0), (1, a1)] => M_RW_accept a0 a1 σ
  | 48, [(1, a0)] => M_RW_isPlace a0 σ
  | 222, [(3, a0), (1, a1)] => M_Road_hasThing a0 a1 σ
  | _, _ => none
def K_RW_move : Nat → Bool := fun i => i.beq 32
def F_RW_move_32 : Nat → List mV → List mV → mS → Option (Int × mS) := fun i L st σ => match i, L, st with
  | _, _, _ => none
def M_RW_move_32 (l0 l1 l2 : Int) (σ : mS) : Option (Int × mS) :=
  (gf 10 0 l0 σ).bind fun v1 =>
  (gf 7 3 v1 σ).bind fun v2 =>
  (ld 100 v2 l1 σ).bind fun v3 =>
  (gf 10 0 l0 σ).bind fun v4 =>
  (gf 7 2 v4 σ).bind fun v5 =>
  (sd 100 v5 v3 (-1) σ).bind fun σ =>
  (gf 10 0 l0 σ).bind fun v6 =>
  (gf 7 2 v6 σ).bind fun v7 =>
  (sd 100 v7 l2 l1 σ).bind fun σ =>
  (gf 10 0 l0 σ).bind fun v8 =>
  (gf 7 3 v8 σ).bind fun v9 =>
  (sd 100 v9 l1 l2 σ).bind fun σ =>
  (gk 10 l0 σ).bind fun _ => (M_RW_accept l0 v3 σ).bind fun p10 =>
  some (p10.1, p10.2)
set_option maxRecDepth 100000 in
theorem E_RW_move_32 (l0 l1 l2 : Int) (σ : mS) : mblk c_RW_move K_RW_move (C_RW_move) (F_RW_move_32) (fun v σ => some (v, σ)) 61 32 ([(3, l0), (1, l1), (1, l2), (0, 0), (0, 0)]) [] σ = M_RW_move_32 l0 l1 l2 σ := rfl
def F_RW_move_0 : Nat → List mV → List mV → mS → Option (Int × mS) := fun i L st σ => match i, L, st with
  | 32, [(3, l0), (1, l1), (1, l2), _, _], [] => M_RW_move_32 l0 l1 l2 σ
  | _, _, _ => none
def M_RW_move (l0 l1 l2 : Int) (σ : mS) : Option (Int × mS) :=
  (M_RW_isPlace l2 σ).bind fun p1 =>
  if p1.1 = 0 then 
    (gk 10 l0 p1.2).bind fun _ => (M_RW_refuse l0 (-1) p1.2).bind fun p2 =>
    some (p2.1, p2.2)
  else
    (gf 10 0 l0 p1.2).bind fun v3 =>
    (gk 7 v3 p1.2).bind fun _ => (M_Road_hasThing v3 l1 p1.2).bind fun p4 =>
    if p4.1 = 0 then 
      (gk 10 l0 p4.2).bind fun _ => (M_RW_refuse l0 (-2) p4.2).bind fun p5 =>
      some (p5.1, p5.2)
    else
      (gf 10 0 l0 p4.2).bind fun v6 =>
      (gf 7 2 v6 p4.2).bind fun v7 =>
      (ld 100 v7 l2 p4.2).bind fun v8 =>
      if v8 = (-1) then 
        M_RW_move_32 l0 l1 l2 p4.2
      else
        if v8 = l1 then 
          M_RW_move_32 l0 l1 l2 p4.2
        else
          (gk 10 l0 p4.2).bind fun _ => (M_RW_refuse l0 (-3) p4.2).bind fun p9 =>
          some (p9.1, p9.2)
set_option maxRecDepth 100000 in
theorem E_RW_move_0 (l0 l1 l2 : Int) (σ : mS) : mblk c_RW_move K_RW_move (C_RW_move) (F_RW_move_0) (fun v σ => some (v, σ)) 61 0 (mInit 5 [(3, l0), (1, l1), (1, l2)]) [] σ = M_RW_move l0 l1 l2 σ := rfl
def C_Road_inchesThere : Nat → List mV → mS → Option (Int × mS) := fun k as σ => match k, as with
  | _, _ => none
def K_Road_inchesThere : Nat → Bool := fun i => false
def F_Road_inchesThere_0 : Nat → List mV → List mV → mS → Option (Int × mS) := fun i L st σ => match i, L, st with
  | _, _, _ => none
def M_Road_inchesThere (l0 l1 : Int) (σ : mS) : Option (Int × mS) :=
  (gf 7 4 l0 σ).bind fun v1 =>
  (ld 100 v1 l1 σ).bind fun v2 =>
  (gf 7 0 l0 σ).bind fun v3 =>
  (gf 7 3 l0 σ).bind fun v4 =>
  (ld 100 v4 l1 σ).bind fun v5 =>
  (ld 100 v3 v5 σ).bind fun v6 =>
  some (jmin v2 (w32 (32 - v6)), σ)
set_option maxRecDepth 100000 in
theorem E_Road_inchesThere_0 (l0 l1 : Int) (σ : mS) : mblk c_Road_inchesThere K_Road_inchesThere (C_Road_inchesThere) (F_Road_inchesThere_0) (fun v σ => some (v, σ)) 16 0 (mInit 2 [(3, l0), (1, l1)]) [] σ = M_Road_inchesThere l0 l1 σ := rfl
def C_RW_of : Nat → List mV → mS → Option (Int × mS) := fun k as σ => match k, as with
  | 222, [(3, a0), (1, a1)] => M_Road_hasThing a0 a1 σ
  | 223, [(3, a0), (1, a1)] => M_Road_inchesThere a0 a1 σ
  | _, _ => none
def K_RW_of : Nat → Bool := fun i => false
def F_RW_of_0 : Nat → List mV → List mV → mS → Option (Int × mS) := fun i L st σ => match i, L, st with
  | _, _, _ => none
def M_RW_of (l0 l1 l2 : Int) (σ : mS) : Option (Int × mS) :=
  (gf 10 0 l0 σ).bind fun v1 =>
  (gk 7 v1 σ).bind fun _ => (M_Road_hasThing v1 l1 σ).bind fun p2 =>
  if p2.1 = 0 then 
    some ((-1), p2.2)
  else
    if l2 = 0 then
      (gf 10 0 l0 p2.2).bind fun v3 =>
      (gf 7 3 v3 p2.2).bind fun v4 =>
      (ld 100 v4 l1 p2.2).bind fun v5 =>
      some (v5, p2.2)
    else if l2 = 1 then
      (gf 10 0 l0 p2.2).bind fun v6 =>
      (gf 7 4 v6 p2.2).bind fun v7 =>
      (ld 100 v7 l1 p2.2).bind fun v8 =>
      some (v8, p2.2)
    else if l2 = 2 then
      (gf 10 0 l0 p2.2).bind fun v9 =>
      (gk 7 v9 p2.2).bind fun _ => (M_Road_inchesThere v9 l1 p2.2).bind fun p10 =>
      some (p10.1, p10.2)
    else 
      some ((-1), p2.2)
set_option maxRecDepth 100000 in
theorem E_RW_of_0 (l0 l1 l2 : Int) (σ : mS) : mblk c_RW_of K_RW_of (C_RW_of) (F_RW_of_0) (fun v σ => some (v, σ)) 29 0 (mInit 3 [(3, l0), (1, l1), (1, l2)]) [] σ = M_RW_of l0 l1 l2 σ := rfl
def C_RW_terms : Nat → List mV → mS → Option (Int × mS) := fun k as σ => match k, as with
  | 45, [(3, a0), (1, a1)] => M_RW_refuse a0 a1 σ
  | 46, [(3, a0), (1, a1)] => M_RW_accept a0 a1 σ
  | 47, [(1, a0), (1, a1), (1, a2)] => M_RW_isWithin a0 a1 a2 σ
  | _, _ => none
def K_RW_terms : Nat → Bool := fun i => false
def F_RW_terms_0 : Nat → List mV → List mV → mS → Option (Int × mS) := fun i L st σ => match i, L, st with
  | _, _, _ => none
def M_RW_terms (l0 l1 l2 : Int) (σ : mS) : Option (Int × mS) :=
  (M_RW_isWithin l1 0 3 σ).bind fun p1 =>
  if p1.1 = 0 then 
    (gk 10 l0 p1.2).bind fun _ => (M_RW_refuse l0 (-1) p1.2).bind fun p2 =>
    some (p2.1, p2.2)
  else
    (ld 100 (-3) l1 p1.2).bind fun v3 =>
    (M_RW_isWithin l2 0 v3 p1.2).bind fun p4 =>
    if p4.1 = 0 then 
      (gk 10 l0 p4.2).bind fun _ => (M_RW_refuse l0 (-1) p4.2).bind fun p5 =>
      some (p5.1, p5.2)
    else
      (gf 10 0 l0 p4.2).bind fun v6 =>
      (gf 7 6 v6 p4.2).bind fun v7 =>
      (ld 100 v7 l1 p4.2).bind fun v8 =>
      (gf 10 0 l0 p4.2).bind fun v9 =>
      (gf 7 6 v9 p4.2).bind fun v10 =>
      (sd 100 v10 l1 l2 p4.2).bind fun σ =>
      (gk 10 l0 σ).bind fun _ => (M_RW_accept l0 v8 σ).bind fun p11 =>
      some (p11.1, p11.2)
set_option maxRecDepth 100000 in
theorem E_RW_terms_0 (l0 l1 l2 : Int) (σ : mS) : mblk c_RW_terms K_RW_terms (C_RW_terms) (F_RW_terms_0) (fun v σ => some (v, σ)) 33 0 (mInit 4 [(3, l0), (1, l1), (1, l2)]) [] σ = M_RW_terms l0 l1 l2 σ := rfl
def C_Tape_append : Nat → List mV → mS → Option (Int × mS) := fun k as σ => match k, as with
  | _, _ => none
def K_Tape_append : Nat → Bool := fun i => i.beq 2
def F_Tape_append_2 : Nat → List mV → List mV → mS → Option (((Int × mS) ⊕ (Int × mS))) := fun i L st σ => match i, L, st with
  | 2, [(3, l0), (1, l1), (1, l2)], [] => some (.inl (l2, σ))
  | _, _, _ => none
def B_Tape_append_2 (l0 l1 l2 : Int) (σ : mS) : Option (((Int × mS) ⊕ (Int × mS))) :=
  if l2 < 0 then 
    some (.inr (0, σ))
  else
    (gf 9 1 l0 σ).bind fun v1 =>
    if v1 < 400 then 
      (gf 9 0 l0 σ).bind fun v2 =>
      (gf 9 1 l0 σ).bind fun v3 =>
      (sd 100 v2 v3 (iand (ishr l1 l2) 255) σ).bind fun σ =>
      (gf 9 1 l0 σ).bind fun v4 =>
      (pf 9 1 l0 (w32 (v4 + 1)) σ).bind fun σ =>
      some (.inl (w32 (l2 + (-8)), σ))
    else
      some (.inr (0, σ))
set_option maxRecDepth 100000 in
theorem E_Tape_append_2 (l0 l1 l2 : Int) (σ : mS) : mblk c_Tape_append K_Tape_append (C_Tape_append) (F_Tape_append_2) (fun v σ => some (.inr (v, σ))) 28 2 ([(3, l0), (1, l1), (1, l2)]) [] σ = B_Tape_append_2 l0 l1 l2 σ := rfl
def M_Tape_append_2 (l0 l1 l2 : Int) (σ : mS) : Option (Int × mS) := miter (fun s : Int × mS => B_Tape_append_2 l0 l1 s.1 s.2) mN (l2, σ)
def F_Tape_append_0 : Nat → List mV → List mV → mS → Option (Int × mS) := fun i L st σ => match i, L, st with
  | 2, [(3, l0), (1, l1), (1, l2)], [] => M_Tape_append_2 l0 l1 l2 σ
  | _, _, _ => none
def M_Tape_append (l0 l1 : Int) (σ : mS) : Option (Int × mS) :=
  M_Tape_append_2 l0 l1 24 σ
set_option maxRecDepth 100000 in
theorem E_Tape_append_0 (l0 l1 : Int) (σ : mS) : mblk c_Tape_append K_Tape_append (C_Tape_append) (F_Tape_append_0) (fun v σ => some (v, σ)) 28 0 (mInit 3 [(3, l0), (1, l1)]) [] σ = M_Tape_append l0 l1 σ := rfl
def C_RW_feed : Nat → List mV → mS → Option (Int × mS) := fun k as σ => match k, as with
  | 236, [(3, a0), (1, a1)] => M_Tape_append a0 a1 σ
  | _, _ => none
def K_RW_feed : Nat → Bool := fun i => false
def F_RW_feed_0 : Nat → List mV → List mV → mS → Option (Int × mS) := fun i L st σ => match i, L, st with
  | _, _, _ => none
def M_RW_feed (l0 l1 l2 l3 l4 l5 : Int) (σ : mS) : Option (Int × mS) :=
  (gf 10 3 l0 σ).bind fun v1 =>
  (gf 9 1 v1 σ).bind fun v2 =>
  if 400 < (w32 (v2 + 20)) then 
    some ((-1), σ)
  else
    (gf 10 3 l0 σ).bind fun v3 =>
    (gk 9 v3 σ).bind fun _ => (M_Tape_append v3 l1 σ).bind fun p4 =>
    (gf 10 3 l0 p4.2).bind fun v5 =>
    (gk 9 v5 p4.2).bind fun _ => (M_Tape_append v5 l2 p4.2).bind fun p6 =>
    (gf 10 3 l0 p6.2).bind fun v7 =>
    (gk 9 v7 p6.2).bind fun _ => (M_Tape_append v7 l3 p6.2).bind fun p8 =>
    (gf 10 3 l0 p8.2).bind fun v9 =>
    (gk 9 v9 p8.2).bind fun _ => (M_Tape_append v9 l4 p8.2).bind fun p10 =>
    (gf 10 3 l0 p10.2).bind fun v11 =>
    (gk 9 v11 p10.2).bind fun _ => (M_Tape_append v11 l5 p10.2).bind fun p12 =>
    (gf 10 3 l0 p12.2).bind fun v13 =>
    (gf 9 1 v13 p12.2).bind fun v14 =>
    some (v14, p12.2)
set_option maxRecDepth 100000 in
theorem E_RW_feed_0 (l0 l1 l2 l3 l4 l5 : Int) (σ : mS) : mblk c_RW_feed K_RW_feed (C_RW_feed) (F_RW_feed_0) (fun v σ => some (v, σ)) 34 0 (mInit 6 [(3, l0), (1, l1), (1, l2), (1, l3), (1, l4), (1, l5)]) [] σ = M_RW_feed l0 l1 l2 l3 l4 l5 σ := rfl
def C_RW_end : Nat → List mV → mS → Option (Int × mS) := fun k as σ => match k, as with
  | _, _ => none
def K_RW_end : Nat → Bool := fun i => false
def F_RW_end_0 : Nat → List mV → List mV → mS → Option (Int × mS) := fun i L st σ => match i, L, st with
  | _, _, _ => none
def M_RW_end (l0 l1 : Int) (σ : mS) : Option (Int × mS) :=
  if l1 < 0 then 
    some ((-1), σ)
  else
    (gf 10 3 l0 σ).bind fun v1 =>
    (gf 9 1 v1 σ).bind fun v2 =>
    if v2 < l1 then 
      some ((-1), σ)
    else
      (gf 10 3 l0 σ).bind fun v3 =>
      (pf 9 1 v3 l1 σ).bind fun σ =>
      some (l1, σ)
set_option maxRecDepth 100000 in
theorem E_RW_end_0 (l0 l1 : Int) (σ : mS) : mblk c_RW_end K_RW_end (C_RW_end) (F_RW_end_0) (fun v σ => some (v, σ)) 16 0 (mInit 2 [(3, l0), (1, l1)]) [] σ = M_RW_end l0 l1 σ := rfl
def C_RW_row : Nat → List mV → mS → Option (Int × mS) := fun k as σ => match k, as with
  | 45, [(3, a0), (1, a1)] => M_RW_refuse a0 a1 σ
  | 46, [(3, a0), (1, a1)] => M_RW_accept a0 a1 σ
  | 47, [(1, a0), (1, a1), (1, a2)] => M_RW_isWithin a0 a1 a2 σ
  | 156, [(3, a0), (1, a1)] => M_Air_forgetPlace a0 a1 σ
  | _, _ => none
def K_RW_row : Nat → Bool := fun i => i.beq 14 || i.beq 46
def F_RW_row_46 : Nat → List mV → List mV → mS → Option (Int × mS) := fun i L st σ => match i, L, st with
  | _, _, _ => none
def M_RW_row_46 (l0 l1 l2 : Int) (σ : mS) : Option (Int × mS) :=
  (pf 10 12 l0 (w32 (l1 - l2)) σ).bind fun σ =>
  (gf 10 3 l0 σ).bind fun v1 =>
  (pf 9 1 v1 0 σ).bind fun σ =>
  (gk 10 l0 σ).bind fun _ => (M_RW_accept l0 l2 σ).bind fun p2 =>
  some (p2.1, p2.2)
set_option maxRecDepth 100000 in
theorem E_RW_row_46 (l0 l1 l2 : Int) (σ : mS) : mblk c_RW_row K_RW_row (C_RW_row) (F_RW_row_46) (fun v σ => some (v, σ)) 60 46 ([(3, l0), (1, l1), (1, l2), (0, 0)]) [] σ = M_RW_row_46 l0 l1 l2 σ := rfl
def F_RW_row_14 : Nat → List mV → List mV → mS → Option (((Int × Int × mS) ⊕ (Int × mS))) := fun i L st σ => match i, L, st with
  | 14, [(3, l0), (1, l1), (1, l2), (1, l3)], [] => some (.inl (l2, l3, σ))
  | 46, [(3, l0), (1, l1), (1, l2), _], [] => (M_RW_row_46 l0 l1 l2 σ).bind fun z => some (.inr z)
  | _, _, _ => none
def B_RW_row_14 (l0 l1 l2 l3 : Int) (σ : mS) : Option (((Int × Int × mS) ⊕ (Int × mS))) :=
  if l3 < l1 then 
    if l3 < 64 then 
      (gf 10 3 l0 σ).bind fun v1 =>
      (gf 9 0 v1 σ).bind fun v2 =>
      (ld 100 v2 l3 σ).bind fun v3 =>
      (M_RW_isWithin v3 0 31 σ).bind fun p4 =>
      if p4.1 = 0 then 
        some (.inl (l2, w32 (l3 + 1), p4.2))
      else
        (gf 10 0 l0 p4.2).bind fun v5 =>
        (gf 7 0 v5 p4.2).bind fun v6 =>
        (gf 10 3 l0 p4.2).bind fun v7 =>
        (gf 9 0 v7 p4.2).bind fun v8 =>
        (ld 100 v8 l3 p4.2).bind fun v9 =>
        (sd 100 v6 l3 v9 p4.2).bind fun σ =>
        (gf 10 5 l0 σ).bind fun v10 =>
        (gk 1 v10 σ).bind fun _ => (M_Air_forgetPlace v10 l3 σ).bind fun p11 =>
        some (.inl (w32 (l2 + 1), w32 (l3 + 1), p11.2))
    else
      (M_RW_row_46 l0 l1 l2 σ).bind fun z => some (.inr z)
  else
    (M_RW_row_46 l0 l1 l2 σ).bind fun z => some (.inr z)
set_option maxRecDepth 100000 in
theorem E_RW_row_14 (l0 l1 l2 l3 : Int) (σ : mS) : mblk c_RW_row K_RW_row (C_RW_row) (F_RW_row_14) (fun v σ => some (.inr (v, σ))) 60 14 ([(3, l0), (1, l1), (1, l2), (1, l3)]) [] σ = B_RW_row_14 l0 l1 l2 l3 σ := rfl
def M_RW_row_14 (l0 l1 l2 l3 : Int) (σ : mS) : Option (Int × mS) := miter (fun s : Int × Int × mS => B_RW_row_14 l0 l1 s.1 s.2.1 s.2.2) mN (l2, l3, σ)
def F_RW_row_0 : Nat → List mV → List mV → mS → Option (Int × mS) := fun i L st σ => match i, L, st with
  | 14, [(3, l0), (1, l1), (1, l2), (1, l3)], [] => M_RW_row_14 l0 l1 l2 l3 σ
  | _, _, _ => none
def M_RW_row (l0 : Int) (σ : mS) : Option (Int × mS) :=
  (gf 10 3 l0 σ).bind fun v1 =>
  (gf 9 1 v1 σ).bind fun v2 =>
  if v2 = 0 then 
    (gk 10 l0 σ).bind fun _ => (M_RW_refuse l0 (-6) σ).bind fun p3 =>
    some (p3.1, p3.2)
  else
    M_RW_row_14 l0 v2 0 0 σ
set_option maxRecDepth 100000 in
theorem E_RW_row_0 (l0 : Int) (σ : mS) : mblk c_RW_row K_RW_row (C_RW_row) (F_RW_row_0) (fun v σ => some (v, σ)) 60 0 (mInit 4 [(3, l0)]) [] σ = M_RW_row l0 σ := rfl
def C_RW_worn : Nat → List mV → mS → Option (Int × mS) := fun k as σ => match k, as with
  | _, _ => none
def K_RW_worn : Nat → Bool := fun i => false
def F_RW_worn_0 : Nat → List mV → List mV → mS → Option (Int × mS) := fun i L st σ => match i, L, st with
  | _, _, _ => none
def M_RW_worn (l0 : Int) (σ : mS) : Option (Int × mS) :=
  (gf 10 12 l0 σ).bind fun v1 =>
  some (v1, σ)
set_option maxRecDepth 100000 in
theorem E_RW_worn_0 (l0 : Int) (σ : mS) : mblk c_RW_worn K_RW_worn (C_RW_worn) (F_RW_worn_0) (fun v σ => some (v, σ)) 4 0 (mInit 1 [(3, l0)]) [] σ = M_RW_worn l0 σ := rfl
def C_Reader_sortOf : Nat → List mV → mS → Option (Int × mS) := fun k as σ => match k, as with
  | _, _ => none
def K_Reader_sortOf : Nat → Bool := fun i => i.beq 8
def F_Reader_sortOf_8 : Nat → List mV → List mV → mS → Option (Int × mS) := fun i L st σ => match i, L, st with
  | _, _, _ => none
def M_Reader_sortOf_8 (l0 : Int) (σ : mS) : Option (Int × mS) :=
  if l0 < 48 then 
    some (l0, σ)
  else
    if 57 < l0 then 
      some (l0, σ)
    else
      some (257, σ)
set_option maxRecDepth 100000 in
theorem E_Reader_sortOf_8 (l0 : Int) (σ : mS) : mblk c_Reader_sortOf K_Reader_sortOf (C_Reader_sortOf) (F_Reader_sortOf_8) (fun v σ => some (v, σ)) 19 8 ([(1, l0)]) [] σ = M_Reader_sortOf_8 l0 σ := rfl
def F_Reader_sortOf_0 : Nat → List mV → List mV → mS → Option (Int × mS) := fun i L st σ => match i, L, st with
  | 8, [(1, l0)], [] => M_Reader_sortOf_8 l0 σ
  | _, _, _ => none
def M_Reader_sortOf (l0 : Int) (σ : mS) : Option (Int × mS) :=
  if l0 < 97 then 
    M_Reader_sortOf_8 l0 σ
  else
    if 122 < l0 then 
      M_Reader_sortOf_8 l0 σ
    else
      some (258, σ)
set_option maxRecDepth 100000 in
theorem E_Reader_sortOf_0 (l0 : Int) (σ : mS) : mblk c_Reader_sortOf K_Reader_sortOf (C_Reader_sortOf) (F_Reader_sortOf_0) (fun v σ => some (v, σ)) 19 0 (mInit 1 [(1, l0)]) [] σ = M_Reader_sortOf l0 σ := rfl
def C_Reader_addToken : Nat → List mV → mS → Option (Int × mS) := fun k as σ => match k, as with
  | _, _ => none
def K_Reader_addToken : Nat → Bool := fun i => false
def F_Reader_addToken_0 : Nat → List mV → List mV → mS → Option (Int × mS) := fun i L st σ => match i, L, st with
  | _, _, _ => none
def M_Reader_addToken (l0 l1 l2 l3 : Int) (σ : mS) : Option (Int × mS) :=
  (gf 6 3 l0 σ).bind fun v1 =>
  (gf 6 0 l0 σ).bind fun v2 =>
  (ln v2 σ).bind fun v3 =>
  if v1 < v3 then 
    (gf 6 0 l0 σ).bind fun v4 =>
    (gf 6 3 l0 σ).bind fun v5 =>
    (sd 100 v4 v5 l1 σ).bind fun σ =>
    (gf 6 1 l0 σ).bind fun v6 =>
    (gf 6 3 l0 σ).bind fun v7 =>
    (sd 100 v6 v7 l2 σ).bind fun σ =>
    (gf 6 2 l0 σ).bind fun v8 =>
    (gf 6 3 l0 σ).bind fun v9 =>
    (sd 100 v8 v9 l3 σ).bind fun σ =>
    (gf 6 3 l0 σ).bind fun v10 =>
    (pf 6 3 l0 (w32 (v10 + 1)) σ).bind fun σ =>
    some (0, σ)
  else
    some (0, σ)
set_option maxRecDepth 100000 in
theorem E_Reader_addToken_0 (l0 l1 l2 l3 : Int) (σ : mS) : mblk c_Reader_addToken K_Reader_addToken (C_Reader_addToken) (F_Reader_addToken_0) (fun v σ => some (v, σ)) 32 0 (mInit 4 [(3, l0), (1, l1), (1, l2), (1, l3)]) [] σ = M_Reader_addToken l0 l1 l2 l3 σ := rfl
def C_Reader_addDigit : Nat → List mV → mS → Option (Int × mS) := fun k as σ => match k, as with
  | _, _ => none
def K_Reader_addDigit : Nat → Bool := fun i => false
def F_Reader_addDigit_0 : Nat → List mV → List mV → mS → Option (Int × mS) := fun i L st σ => match i, L, st with
  | _, _, _ => none
def M_Reader_addDigit (l0 l1 : Int) (σ : mS) : Option (Int × mS) :=
  (gf 6 3 l0 σ).bind fun v1 =>
  if 0 < v1 then 
    (gf 6 2 l0 σ).bind fun v2 =>
    (gf 6 3 l0 σ).bind fun v3 =>
    (ld 100 v2 (w32 (v3 - 1)) σ).bind fun v4 =>
    if 1000 < v4 then 
      some (0, σ)
    else
      (gf 6 2 l0 σ).bind fun v5 =>
      (gf 6 3 l0 σ).bind fun v6 =>
      (gf 6 2 l0 σ).bind fun v7 =>
      (gf 6 3 l0 σ).bind fun v8 =>
      (ld 100 v7 (w32 (v8 - 1)) σ).bind fun v9 =>
      (sd 100 v5 (w32 (v6 - 1)) (w32 ((w32 ((w32 (v9 * 10)) + l1)) - 48)) σ).bind fun σ =>
      some (0, σ)
  else
    some (0, σ)
set_option maxRecDepth 100000 in
theorem E_Reader_addDigit_0 (l0 l1 : Int) (σ : mS) : mblk c_Reader_addDigit K_Reader_addDigit (C_Reader_addDigit) (F_Reader_addDigit_0) (fun v σ => some (v, σ)) 34 0 (mInit 2 [(3, l0), (1, l1)]) [] σ = M_Reader_addDigit l0 l1 σ := rfl
def C_Reader_spells : Nat → List mV → mS → Option (Int × mS) := fun k as σ => match k, as with
  | _, _ => none
def K_Reader_spells : Nat → Bool := fun i => i.beq 10
def F_Reader_spells_10 : Nat → List mV → List mV → mS → Option (((Int × mS) ⊕ (Int × mS))) := fun i L st σ => match i, L, st with
  | 10, [(3, l0), (1, l1), _, (3, l3), (1, l4)], [] => some (.inl (l4, σ))
  | _, _, _ => none
def B_Reader_spells_10 (l0 l1 l3 l4 : Int) (σ : mS) : Option (((Int × mS) ⊕ (Int × mS))) :=
  (tln l3 σ).bind fun v1 =>
  if l4 < v1 then 
    (ld 100 l0 (w32 (l1 + l4)) σ).bind fun v2 =>
    (tch l3 l4 σ).bind fun v3 =>
    if v2 = v3 then 
      some (.inl (w32 (l4 + 1), σ))
    else
      if 0 = 0 ∨ 0 = 1 then some (.inr (0, σ)) else none
  else
    if 1 = 0 ∨ 1 = 1 then some (.inr (1, σ)) else none
set_option maxRecDepth 100000 in
theorem E_Reader_spells_10 (l0 l1 l3 l4 : Int) (σ : mS) : mblk c_Reader_spells K_Reader_spells (C_Reader_spells) (F_Reader_spells_10) (fun v σ => some (.inr (v, σ))) 30 10 ([(3, l0), (1, l1), (0, 0), (3, l3), (1, l4)]) [] σ = B_Reader_spells_10 l0 l1 l3 l4 σ := rfl
def M_Reader_spells_10 (l0 l1 l3 l4 : Int) (σ : mS) : Option (Int × mS) := miter (fun s : Int × mS => B_Reader_spells_10 l0 l1 l3 s.1 s.2) mN (l4, σ)
def F_Reader_spells_0 : Nat → List mV → List mV → mS → Option (Int × mS) := fun i L st σ => match i, L, st with
  | 10, [(3, l0), (1, l1), _, (3, l3), (1, l4)], [] => M_Reader_spells_10 l0 l1 l3 l4 σ
  | _, _, _ => none
def M_Reader_spells (l0 l1 l2 l3 : Int) (σ : mS) : Option (Int × mS) :=
  (tln l3 σ).bind fun v1 =>
  if (w32 (l2 - l1)) = v1 then 
    M_Reader_spells_10 l0 l1 l3 0 σ
  else
    if 0 = 0 ∨ 0 = 1 then some (0, σ) else none
set_option maxRecDepth 100000 in
theorem E_Reader_spells_0 (l0 l1 l2 l3 : Int) (σ : mS) : mblk c_Reader_spells K_Reader_spells (C_Reader_spells) (F_Reader_spells_0) (fun v σ => some (v, σ)) 30 0 (mInit 5 [(3, l0), (1, l1), (1, l2), (3, l3)]) [] σ = M_Reader_spells l0 l1 l2 l3 σ := rfl
def C_Reader_askedWord : Nat → List mV → mS → Option (Int × mS) := fun k as σ => match k, as with
  | 206, [(3, a0), (1, a1), (1, a2), (3, a3)] => M_Reader_spells a0 a1 a2 a3 σ
  | _, _ => none
def K_Reader_askedWord : Nat → Bool := fun i => false
def F_Reader_askedWord_0 : Nat → List mV → List mV → mS → Option (Int × mS) := fun i L st σ => match i, L, st with
  | _, _, _ => none
def M_Reader_askedWord (l0 l1 l2 : Int) (σ : mS) : Option (Int × mS) :=
  (M_Reader_spells l0 l1 l2 (-15) σ).bind fun p1 =>
  if p1.1 = 0 then 
    (M_Reader_spells l0 l1 l2 (-16) p1.2).bind fun p2 =>
    if p2.1 = 0 then 
      (M_Reader_spells l0 l1 l2 (-17) p2.2).bind fun p3 =>
      if p3.1 = 0 then 
        (M_Reader_spells l0 l1 l2 (-18) p3.2).bind fun p4 =>
        if p4.1 = 0 then 
          (M_Reader_spells l0 l1 l2 (-19) p4.2).bind fun p5 =>
          if p5.1 = 0 then 
            (M_Reader_spells l0 l1 l2 (-20) p5.2).bind fun p6 =>
            if p6.1 = 0 then 
              some ((-1), p6.2)
            else
              some (5, p6.2)
          else
            some (4, p5.2)
        else
          some (3, p4.2)
      else
        some (2, p3.2)
    else
      some (1, p2.2)
  else
    some (0, p1.2)
set_option maxRecDepth 100000 in
theorem E_Reader_askedWord_0 (l0 l1 l2 : Int) (σ : mS) : mblk c_Reader_askedWord K_Reader_askedWord (C_Reader_askedWord) (F_Reader_askedWord_0) (fun v σ => some (v, σ)) 51 0 (mInit 3 [(3, l0), (1, l1), (1, l2)]) [] σ = M_Reader_askedWord l0 l1 l2 σ := rfl
def C_Reader_wordKind : Nat → List mV → mS → Option (Int × mS) := fun k as σ => match k, as with
  | 201, [(1, a0)] => M_Reader_sortOf a0 σ
  | 205, [(3, a0), (1, a1), (1, a2)] => M_Reader_askedWord a0 a1 a2 σ
  | 206, [(3, a0), (1, a1), (1, a2), (3, a3)] => M_Reader_spells a0 a1 a2 a3 σ
  | _, _ => none
def K_Reader_wordKind : Nat → Bool := fun i => i.beq 2 || i.beq 13
def F_Reader_wordKind_13 : Nat → List mV → List mV → mS → Option (Int × mS) := fun i L st σ => match i, L, st with
  | _, _, _ => none
def M_Reader_wordKind_13 (l0 l1 l3 : Int) (σ : mS) : Option (Int × mS) :=
  (M_Reader_spells l0 l1 l3 (-10) σ).bind fun p1 =>
  if p1.1 = 0 then 
    (M_Reader_spells l0 l1 l3 (-11) p1.2).bind fun p2 =>
    if p2.1 = 0 then 
      (M_Reader_spells l0 l1 l3 (-12) p2.2).bind fun p3 =>
      if p3.1 = 0 then 
        (M_Reader_spells l0 l1 l3 (-13) p3.2).bind fun p4 =>
        if p4.1 = 0 then 
          (M_Reader_spells l0 l1 l3 (-14) p4.2).bind fun p5 =>
          if p5.1 = 0 then 
            (M_Reader_askedWord l0 l1 l3 p5.2).bind fun p6 =>
            if p6.1 = (-1) then 
              some (258, p6.2)
            else
              some (w32 (264 + p6.1), p6.2)
          else
            some (263, p5.2)
        else
          some (262, p4.2)
      else
        some (261, p3.2)
    else
      some (260, p2.2)
  else
    some (259, p1.2)
set_option maxRecDepth 100000 in
theorem E_Reader_wordKind_13 (l0 l1 l3 : Int) (σ : mS) : mblk c_Reader_wordKind K_Reader_wordKind (C_Reader_wordKind) (F_Reader_wordKind_13) (fun v σ => some (v, σ)) 68 13 ([(3, l0), (1, l1), (0, 0), (1, l3), (0, 0)]) [] σ = M_Reader_wordKind_13 l0 l1 l3 σ := rfl
def F_Reader_wordKind_2 : Nat → List mV → List mV → mS → Option (((Int × mS) ⊕ (Int × mS))) := fun i L st σ => match i, L, st with
  | 2, [(3, l0), (1, l1), (1, l2), (1, l3), _], [] => some (.inl (l3, σ))
  | 13, [(3, l0), (1, l1), _, (1, l3), _], [] => (M_Reader_wordKind_13 l0 l1 l3 σ).bind fun z => some (.inr z)
  | _, _, _ => none
def B_Reader_wordKind_2 (l0 l1 l2 l3 : Int) (σ : mS) : Option (((Int × mS) ⊕ (Int × mS))) :=
  if l3 < l2 then 
    (ld 100 l0 l3 σ).bind fun v1 =>
    (M_Reader_sortOf v1 σ).bind fun p2 =>
    if p2.1 = 258 then 
      some (.inl (w32 (l3 + 1), p2.2))
    else
      (M_Reader_wordKind_13 l0 l1 l3 p2.2).bind fun z => some (.inr z)
  else
    (M_Reader_wordKind_13 l0 l1 l3 σ).bind fun z => some (.inr z)
set_option maxRecDepth 100000 in
theorem E_Reader_wordKind_2 (l0 l1 l2 l3 : Int) (σ : mS) : mblk c_Reader_wordKind K_Reader_wordKind (C_Reader_wordKind) (F_Reader_wordKind_2) (fun v σ => some (.inr (v, σ))) 68 2 ([(3, l0), (1, l1), (1, l2), (1, l3), (0, 0)]) [] σ = B_Reader_wordKind_2 l0 l1 l2 l3 σ := rfl
def M_Reader_wordKind_2 (l0 l1 l2 l3 : Int) (σ : mS) : Option (Int × mS) := miter (fun s : Int × mS => B_Reader_wordKind_2 l0 l1 l2 s.1 s.2) mN (l3, σ)
def F_Reader_wordKind_0 : Nat → List mV → List mV → mS → Option (Int × mS) := fun i L st σ => match i, L, st with
  | 2, [(3, l0), (1, l1), (1, l2), (1, l3), _], [] => M_Reader_wordKind_2 l0 l1 l2 l3 σ
  | _, _, _ => none
def M_Reader_wordKind (l0 l1 l2 : Int) (σ : mS) : Option (Int × mS) :=
  M_Reader_wordKind_2 l0 l1 l2 l1 σ
set_option maxRecDepth 100000 in
theorem E_Reader_wordKind_0 (l0 l1 l2 : Int) (σ : mS) : mblk c_Reader_wordKind K_Reader_wordKind (C_Reader_wordKind) (F_Reader_wordKind_0) (fun v σ => some (v, σ)) 68 0 (mInit 5 [(3, l0), (1, l1), (1, l2)]) [] σ = M_Reader_wordKind l0 l1 l2 σ := rfl
def C_Reader_split : Nat → List mV → mS → Option (Int × mS) := fun k as σ => match k, as with
  | 201, [(1, a0)] => M_Reader_sortOf a0 σ
  | 202, [(3, a0), (1, a1), (1, a2), (1, a3)] => M_Reader_addToken a0 a1 a2 a3 σ
  | 203, [(3, a0), (1, a1)] => M_Reader_addDigit a0 a1 σ
  | 204, [(3, a0), (1, a1), (1, a2)] => M_Reader_wordKind a0 a1 a2 σ
  | _, _ => none
def K_Reader_split : Nat → Bool := fun i => i.beq 7 || i.beq 27 || i.beq 55
def F_Reader_split_55 : Nat → List mV → List mV → mS → Option (((Int × Int × mS) ⊕ (Int × mS))) := fun i L st σ => match i, L, st with
  | 7, [(3, l0), (3, l1), (1, l2), (1, l3), (1, l4), _], [] => some (.inl (l3, l4, σ))
  | _, _, _ => none
def M_Reader_split_55 (l0 l1 l2 l4 l5 : Int) (σ : mS) : Option (((Int × Int × mS) ⊕ (Int × mS))) :=
  if l5 = 258 then 
    some (.inl (l5, w32 (l4 + 1), σ))
  else
    if l5 = 32 then 
      some (.inl (l5, w32 (l4 + 1), σ))
    else
      (gk 6 l0 σ).bind fun _ => (M_Reader_addToken l0 l5 l4 0 σ).bind fun p1 =>
      some (.inl (l5, w32 (l4 + 1), p1.2))
set_option maxRecDepth 100000 in
theorem E_Reader_split_55 (l0 l1 l2 l4 l5 : Int) (σ : mS) : mblk c_Reader_split K_Reader_split (C_Reader_split) (F_Reader_split_55) (fun v σ => some (.inr (v, σ))) 77 55 ([(3, l0), (3, l1), (1, l2), (0, 0), (1, l4), (1, l5)]) [] σ = M_Reader_split_55 l0 l1 l2 l4 l5 σ := rfl
def F_Reader_split_27 : Nat → List mV → List mV → mS → Option (((Int × Int × mS) ⊕ (Int × mS))) := fun i L st σ => match i, L, st with
  | 7, [(3, l0), (3, l1), (1, l2), (1, l3), (1, l4), _], [] => some (.inl (l3, l4, σ))
  | 55, [(3, l0), (3, l1), (1, l2), _, (1, l4), (1, l5)], [] => M_Reader_split_55 l0 l1 l2 l4 l5 σ
  | _, _, _ => none
def M_Reader_split_27 (l0 l1 l2 l3 l4 l5 : Int) (σ : mS) : Option (((Int × Int × mS) ⊕ (Int × mS))) :=
  if l5 = 257 then 
    (ld 100 l1 l4 σ).bind fun v1 =>
    (gk 6 l0 σ).bind fun _ => (M_Reader_addToken l0 257 l4 (w32 (v1 - 48)) σ).bind fun p2 =>
    some (.inl (l5, w32 (l4 + 1), p2.2))
  else
    if l5 = 258 then 
      if l3 = 258 then 
        M_Reader_split_55 l0 l1 l2 l4 l5 σ
      else
        (M_Reader_wordKind l1 l4 l2 σ).bind fun p3 =>
        (gk 6 l0 p3.2).bind fun _ => (M_Reader_addToken l0 p3.1 l4 0 p3.2).bind fun p4 =>
        some (.inl (l5, w32 (l4 + 1), p4.2))
    else
      M_Reader_split_55 l0 l1 l2 l4 l5 σ
set_option maxRecDepth 100000 in
theorem E_Reader_split_27 (l0 l1 l2 l3 l4 l5 : Int) (σ : mS) : mblk c_Reader_split K_Reader_split (C_Reader_split) (F_Reader_split_27) (fun v σ => some (.inr (v, σ))) 77 27 ([(3, l0), (3, l1), (1, l2), (1, l3), (1, l4), (1, l5)]) [] σ = M_Reader_split_27 l0 l1 l2 l3 l4 l5 σ := rfl
def F_Reader_split_7 : Nat → List mV → List mV → mS → Option (((Int × Int × mS) ⊕ (Int × mS))) := fun i L st σ => match i, L, st with
  | 7, [(3, l0), (3, l1), (1, l2), (1, l3), (1, l4), _], [] => some (.inl (l3, l4, σ))
  | 27, [(3, l0), (3, l1), (1, l2), (1, l3), (1, l4), (1, l5)], [] => M_Reader_split_27 l0 l1 l2 l3 l4 l5 σ
  | _, _, _ => none
def B_Reader_split_7 (l0 l1 l2 l3 l4 : Int) (σ : mS) : Option (((Int × Int × mS) ⊕ (Int × mS))) :=
  if l4 < l2 then 
    (ld 100 l1 l4 σ).bind fun v1 =>
    (M_Reader_sortOf v1 σ).bind fun p2 =>
    if p2.1 = 257 then 
      if l3 = 257 then 
        (ld 100 l1 l4 p2.2).bind fun v3 =>
        (gk 6 l0 p2.2).bind fun _ => (M_Reader_addDigit l0 v3 p2.2).bind fun p4 =>
        some (.inl (p2.1, w32 (l4 + 1), p4.2))
      else
        M_Reader_split_27 l0 l1 l2 l3 l4 p2.1 p2.2
    else
      M_Reader_split_27 l0 l1 l2 l3 l4 p2.1 p2.2
  else
    (gk 6 l0 σ).bind fun _ => (M_Reader_addToken l0 256 l2 0 σ).bind fun p5 =>
    some (.inr (0, p5.2))
set_option maxRecDepth 100000 in
theorem E_Reader_split_7 (l0 l1 l2 l3 l4 : Int) (σ : mS) : mblk c_Reader_split K_Reader_split (C_Reader_split) (F_Reader_split_7) (fun v σ => some (.inr (v, σ))) 77 7 ([(3, l0), (3, l1), (1, l2), (1, l3), (1, l4), (0, 0)]) [] σ = B_Reader_split_7 l0 l1 l2 l3 l4 σ := rfl
def M_Reader_split_7 (l0 l1 l2 l3 l4 : Int) (σ : mS) : Option (Int × mS) := miter (fun s : Int × Int × mS => B_Reader_split_7 l0 l1 l2 s.1 s.2.1 s.2.2) mN (l3, l4, σ)
def F_Reader_split_0 : Nat → List mV → List mV → mS → Option (Int × mS) := fun i L st σ => match i, L, st with
  | 7, [(3, l0), (3, l1), (1, l2), (1, l3), (1, l4), _], [] => M_Reader_split_7 l0 l1 l2 l3 l4 σ
  | _, _, _ => none
def M_Reader_split (l0 l1 l2 : Int) (σ : mS) : Option (Int × mS) :=
  (pf 6 3 l0 0 σ).bind fun σ =>
  M_Reader_split_7 l0 l1 l2 32 0 σ
set_option maxRecDepth 100000 in
theorem E_Reader_split_0 (l0 l1 l2 : Int) (σ : mS) : mblk c_Reader_split K_Reader_split (C_Reader_split) (F_Reader_split_0) (fun v σ => some (v, σ)) 77 0 (mInit 6 [(3, l0), (3, l1), (1, l2)]) [] σ = M_Reader_split l0 l1 l2 σ := rfl
def C_Reader_kindHere : Nat → List mV → mS → Option (Int × mS) := fun k as σ => match k, as with
  | _, _ => none
def K_Reader_kindHere : Nat → Bool := fun i => false
def F_Reader_kindHere_0 : Nat → List mV → List mV → mS → Option (Int × mS) := fun i L st σ => match i, L, st with
  | _, _, _ => none
def M_Reader_kindHere (l0 : Int) (σ : mS) : Option (Int × mS) :=
  (gf 6 4 l0 σ).bind fun v1 =>
  (gf 6 3 l0 σ).bind fun v2 =>
  if v1 < v2 then 
    (gf 6 0 l0 σ).bind fun v3 =>
    (gf 6 4 l0 σ).bind fun v4 =>
    (ld 100 v3 v4 σ).bind fun v5 =>
    some (v5, σ)
  else
    some (256, σ)
set_option maxRecDepth 100000 in
theorem E_Reader_kindHere_0 (l0 : Int) (σ : mS) : mblk c_Reader_kindHere K_Reader_kindHere (C_Reader_kindHere) (F_Reader_kindHere_0) (fun v σ => some (v, σ)) 14 0 (mInit 1 [(3, l0)]) [] σ = M_Reader_kindHere l0 σ := rfl
def C_Reader_takes : Nat → List mV → mS → Option (Int × mS) := fun k as σ => match k, as with
  | _, _ => none
def K_Reader_takes : Nat → Bool := fun i => false
def F_Reader_takes_0 : Nat → List mV → List mV → mS → Option (Int × mS) := fun i L st σ => match i, L, st with
  | _, _, _ => none
def M_Reader_takes (l0 l1 : Int) (σ : mS) : Option (Int × mS) :=
  (gf 6 4 l0 σ).bind fun v1 =>
  (gf 6 3 l0 σ).bind fun v2 =>
  if v1 < v2 then 
    (gf 6 0 l0 σ).bind fun v3 =>
    (gf 6 4 l0 σ).bind fun v4 =>
    (ld 100 v3 v4 σ).bind fun v5 =>
    if v5 = l1 then 
      (gf 6 4 l0 σ).bind fun v6 =>
      (pf 6 4 l0 (w32 (v6 + 1)) σ).bind fun σ =>
      if 1 = 0 ∨ 1 = 1 then some (1, σ) else none
    else
      if 0 = 0 ∨ 0 = 1 then some (0, σ) else none
  else
    if 0 = 0 ∨ 0 = 1 then some (0, σ) else none
set_option maxRecDepth 100000 in
theorem E_Reader_takes_0 (l0 l1 : Int) (σ : mS) : mblk c_Reader_takes K_Reader_takes (C_Reader_takes) (F_Reader_takes_0) (fun v σ => some (v, σ)) 23 0 (mInit 2 [(3, l0), (1, l1)]) [] σ = M_Reader_takes l0 l1 σ := rfl
def C_Reader_emit : Nat → List mV → mS → Option (Int × mS) := fun k as σ => match k, as with
  | _, _ => none
def K_Reader_emit : Nat → Bool := fun i => false
def F_Reader_emit_0 : Nat → List mV → List mV → mS → Option (Int × mS) := fun i L st σ => match i, L, st with
  | _, _, _ => none
def M_Reader_emit (l0 l1 l2 : Int) (σ : mS) : Option (Int × mS) :=
  (gf 6 6 l0 σ).bind fun v1 =>
  (gf 6 6 l0 σ).bind fun v2 =>
  (gf 6 5 l0 σ).bind fun v3 =>
  (ln v3 σ).bind fun v4 =>
  if v2 < v4 then 
    (gf 6 5 l0 σ).bind fun v5 =>
    (gf 6 6 l0 σ).bind fun v6 =>
    (sd 100 v5 v6 (ior (ishl l2 4) l1) σ).bind fun σ =>
    (gf 6 6 l0 σ).bind fun v7 =>
    (pf 6 6 l0 (w32 (v7 + 1)) σ).bind fun σ =>
    some (v1, σ)
  else
    some (v1, σ)
set_option maxRecDepth 100000 in
theorem E_Reader_emit_0 (l0 l1 l2 : Int) (σ : mS) : mblk c_Reader_emit K_Reader_emit (C_Reader_emit) (F_Reader_emit_0) (fun v σ => some (v, σ)) 28 0 (mInit 4 [(3, l0), (1, l1), (1, l2)]) [] σ = M_Reader_emit l0 l1 l2 σ := rfl
def C_Reader_aimBehind : Nat → List mV → mS → Option (Int × mS) := fun k as σ => match k, as with
  | _, _ => none
def K_Reader_aimBehind : Nat → Bool := fun i => false
def F_Reader_aimBehind_0 : Nat → List mV → List mV → mS → Option (Int × mS) := fun i L st σ => match i, L, st with
  | _, _, _ => none
def M_Reader_aimBehind (l0 l1 : Int) (σ : mS) : Option (Int × mS) :=
  (gf 6 5 l0 σ).bind fun v1 =>
  (ln v1 σ).bind fun v2 =>
  if l1 < v2 then 
    (gf 6 5 l0 σ).bind fun v3 =>
    (ld 100 v3 l1 σ).bind fun v4 =>
    (gf 6 6 l0 σ).bind fun v5 =>
    (sd 100 v3 l1 (ior v4 (ishl v5 4)) σ).bind fun σ =>
    some (0, σ)
  else
    some (0, σ)
set_option maxRecDepth 100000 in
theorem E_Reader_aimBehind_0 (l0 l1 : Int) (σ : mS) : mblk c_Reader_aimBehind K_Reader_aimBehind (C_Reader_aimBehind) (F_Reader_aimBehind_0) (fun v σ => some (v, σ)) 18 0 (mInit 2 [(3, l0), (1, l1)]) [] σ = M_Reader_aimBehind l0 l1 σ := rfl
def C_Reader_readSum (G : Nat → List mV → mS → Option (Int × mS)) : Nat → List mV → mS → Option (Int × mS) := fun k as σ => match k, as with
  | 207, [(3, a0)] => M_Reader_kindHere a0 σ
  | 209, [(3, a0), (1, a1), (1, a2)] => M_Reader_emit a0 a1 a2 σ
  | 218, [(3, a0), (1, a1)] => G 218 [(3, a0), (1, a1)] σ
  | _, _ => none
def K_Reader_readSum : Nat → Bool := fun i => i.beq 8 || i.beq 19 || i.beq 26
def F_Reader_readSum_26 (G : Nat → List mV → mS → Option (Int × mS)) : Nat → List mV → List mV → mS → Option (((Int × mS) ⊕ (Int × mS))) := fun i L st σ => match i, L, st with
  | 8, [(3, l0), (1, l1), (1, l2), _], [] => some (.inl (l2, σ))
  | _, _, _ => none
def M_Reader_readSum_26 (G : Nat → List mV → mS → Option (Int × mS)) (l0 l1 l2 s0 : Int) (σ : mS) : Option (((Int × mS) ⊕ (Int × mS))) :=
  (gf 6 4 l0 σ).bind fun v1 =>
  (pf 6 4 l0 (w32 (v1 + 1)) σ).bind fun σ =>
  (gk 6 l0 σ).bind fun _ => (G 218 [(3, l0), (1, l1)] σ).bind fun p2 =>
  if p2.1 = 0 then 
    if 0 = 0 ∨ 0 = 1 then some (.inr (0, p2.2)) else none
  else
    (gk 6 l0 p2.2).bind fun _ => (M_Reader_emit l0 s0 0 p2.2).bind fun p3 =>
    some (.inl (w32 (l2 + 1), p3.2))
set_option maxRecDepth 100000 in
theorem E_Reader_readSum_26 (G : Nat → List mV → mS → Option (Int × mS)) (l0 l1 l2 s0 : Int) (σ : mS) : mblk c_Reader_readSum K_Reader_readSum (C_Reader_readSum G) (F_Reader_readSum_26 G) (fun v σ => some (.inr (v, σ))) 49 26 ([(3, l0), (1, l1), (1, l2), (0, 0)]) [(1, s0)] σ = M_Reader_readSum_26 G l0 l1 l2 s0 σ := rfl
def F_Reader_readSum_19 (G : Nat → List mV → mS → Option (Int × mS)) : Nat → List mV → List mV → mS → Option (((Int × mS) ⊕ (Int × mS))) := fun i L st σ => match i, L, st with
  | 26, [(3, l0), (1, l1), (1, l2), _], [(1, s0)] => M_Reader_readSum_26 G l0 l1 l2 s0 σ
  | _, _, _ => none
def M_Reader_readSum_19 (G : Nat → List mV → mS → Option (Int × mS)) (l0 l1 l2 : Int) (σ : mS) : Option (((Int × mS) ⊕ (Int × mS))) :=
  (gk 6 l0 σ).bind fun _ => (M_Reader_kindHere l0 σ).bind fun p1 =>
  if p1.1 = 43 then 
    M_Reader_readSum_26 G l0 l1 l2 5 p1.2
  else
    M_Reader_readSum_26 G l0 l1 l2 6 p1.2
set_option maxRecDepth 100000 in
theorem E_Reader_readSum_19 (G : Nat → List mV → mS → Option (Int × mS)) (l0 l1 l2 : Int) (σ : mS) : mblk c_Reader_readSum K_Reader_readSum (C_Reader_readSum G) (F_Reader_readSum_19 G) (fun v σ => some (.inr (v, σ))) 49 19 ([(3, l0), (1, l1), (1, l2), (0, 0)]) [] σ = M_Reader_readSum_19 G l0 l1 l2 σ := rfl
def F_Reader_readSum_8 (G : Nat → List mV → mS → Option (Int × mS)) : Nat → List mV → List mV → mS → Option (((Int × mS) ⊕ (Int × mS))) := fun i L st σ => match i, L, st with
  | 19, [(3, l0), (1, l1), (1, l2), _], [] => M_Reader_readSum_19 G l0 l1 l2 σ
  | _, _, _ => none
def B_Reader_readSum_8 (G : Nat → List mV → mS → Option (Int × mS)) (l0 l1 l2 : Int) (σ : mS) : Option (((Int × mS) ⊕ (Int × mS))) :=
  if l2 < 400 then 
    (gk 6 l0 σ).bind fun _ => (M_Reader_kindHere l0 σ).bind fun p1 =>
    if p1.1 = 43 then 
      M_Reader_readSum_19 G l0 l1 l2 p1.2
    else
      (gk 6 l0 p1.2).bind fun _ => (M_Reader_kindHere l0 p1.2).bind fun p2 =>
      if p2.1 = 45 then 
        M_Reader_readSum_19 G l0 l1 l2 p2.2
      else
        if 1 = 0 ∨ 1 = 1 then some (.inr (1, p2.2)) else none
  else
    if 1 = 0 ∨ 1 = 1 then some (.inr (1, σ)) else none
set_option maxRecDepth 100000 in
theorem E_Reader_readSum_8 (G : Nat → List mV → mS → Option (Int × mS)) (l0 l1 l2 : Int) (σ : mS) : mblk c_Reader_readSum K_Reader_readSum (C_Reader_readSum G) (F_Reader_readSum_8 G) (fun v σ => some (.inr (v, σ))) 49 8 ([(3, l0), (1, l1), (1, l2), (0, 0)]) [] σ = B_Reader_readSum_8 G l0 l1 l2 σ := rfl
def M_Reader_readSum_8 (G : Nat → List mV → mS → Option (Int × mS)) (l0 l1 l2 : Int) (σ : mS) : Option (Int × mS) := miter (fun s : Int × mS => B_Reader_readSum_8 G l0 l1 s.1 s.2) mN (l2, σ)
def F_Reader_readSum_0 (G : Nat → List mV → mS → Option (Int × mS)) : Nat → List mV → List mV → mS → Option (Int × mS) := fun i L st σ => match i, L, st with
  | 8, [(3, l0), (1, l1), (1, l2), _], [] => M_Reader_readSum_8 G l0 l1 l2 σ
  | _, _, _ => none
def B_Reader_readSum (G : Nat → List mV → mS → Option (Int × mS)) (l0 l1 : Int) (σ : mS) : Option (Int × mS) :=
  (gk 6 l0 σ).bind fun _ => (G 218 [(3, l0), (1, l1)] σ).bind fun p1 =>
  if p1.1 = 0 then 
    if 0 = 0 ∨ 0 = 1 then some (0, p1.2) else none
  else
    M_Reader_readSum_8 G l0 l1 0 p1.2
set_option maxRecDepth 100000 in
theorem E_Reader_readSum_0 (G : Nat → List mV → mS → Option (Int × mS)) (l0 l1 : Int) (σ : mS) : mblk c_Reader_readSum K_Reader_readSum (C_Reader_readSum G) (F_Reader_readSum_0 G) (fun v σ => some (v, σ)) 49 0 (mInit 4 [(3, l0), (1, l1)]) [] σ = B_Reader_readSum G l0 l1 σ := rfl
def C_Reader_readTerm (G : Nat → List mV → mS → Option (Int × mS)) : Nat → List mV → mS → Option (Int × mS) := fun k as σ => match k, as with
  | 207, [(3, a0)] => M_Reader_kindHere a0 σ
  | 209, [(3, a0), (1, a1), (1, a2)] => M_Reader_emit a0 a1 a2 σ
  | 219, [(3, a0), (1, a1)] => G 219 [(3, a0), (1, a1)] σ
  | _, _ => none
def K_Reader_readTerm : Nat → Bool := fun i => i.beq 8 || i.beq 19 || i.beq 26
def F_Reader_readTerm_26 (G : Nat → List mV → mS → Option (Int × mS)) : Nat → List mV → List mV → mS → Option (((Int × mS) ⊕ (Int × mS))) := fun i L st σ => match i, L, st with
  | 8, [(3, l0), (1, l1), (1, l2), _], [] => some (.inl (l2, σ))
  | _, _, _ => none
def M_Reader_readTerm_26 (G : Nat → List mV → mS → Option (Int × mS)) (l0 l1 l2 s0 : Int) (σ : mS) : Option (((Int × mS) ⊕ (Int × mS))) :=
  (gf 6 4 l0 σ).bind fun v1 =>
  (pf 6 4 l0 (w32 (v1 + 1)) σ).bind fun σ =>
  (gk 6 l0 σ).bind fun _ => (G 219 [(3, l0), (1, l1)] σ).bind fun p2 =>
  if p2.1 = 0 then 
    if 0 = 0 ∨ 0 = 1 then some (.inr (0, p2.2)) else none
  else
    (gk 6 l0 p2.2).bind fun _ => (M_Reader_emit l0 s0 0 p2.2).bind fun p3 =>
    some (.inl (w32 (l2 + 1), p3.2))
set_option maxRecDepth 100000 in
theorem E_Reader_readTerm_26 (G : Nat → List mV → mS → Option (Int × mS)) (l0 l1 l2 s0 : Int) (σ : mS) : mblk c_Reader_readTerm K_Reader_readTerm (C_Reader_readTerm G) (F_Reader_readTerm_26 G) (fun v σ => some (.inr (v, σ))) 49 26 ([(3, l0), (1, l1), (1, l2), (0, 0)]) [(1, s0)] σ = M_Reader_readTerm_26 G l0 l1 l2 s0 σ := rfl
def F_Reader_readTerm_19 (G : Nat → List mV → mS → Option (Int × mS)) : Nat → List mV → List mV → mS → Option (((Int × mS) ⊕ (Int × mS))) := fun i L st σ => match i, L, st with
  | 26, [(3, l0), (1, l1), (1, l2), _], [(1, s0)] => M_Reader_readTerm_26 G l0 l1 l2 s0 σ
  | _, _, _ => none
def M_Reader_readTerm_19 (G : Nat → List mV → mS → Option (Int × mS)) (l0 l1 l2 : Int) (σ : mS) : Option (((Int × mS) ⊕ (Int × mS))) :=
  (gk 6 l0 σ).bind fun _ => (M_Reader_kindHere l0 σ).bind fun p1 =>
  if p1.1 = 42 then 
    M_Reader_readTerm_26 G l0 l1 l2 7 p1.2
  else
    M_Reader_readTerm_26 G l0 l1 l2 8 p1.2
set_option maxRecDepth 100000 in
theorem E_Reader_readTerm_19 (G : Nat → List mV → mS → Option (Int × mS)) (l0 l1 l2 : Int) (σ : mS) : mblk c_Reader_readTerm K_Reader_readTerm (C_Reader_readTerm G) (F_Reader_readTerm_19 G) (fun v σ => some (.inr (v, σ))) 49 19 ([(3, l0), (1, l1), (1, l2), (0, 0)]) [] σ = M_Reader_readTerm_19 G l0 l1 l2 σ := rfl
def F_Reader_readTerm_8 (G : Nat → List mV → mS → Option (Int × mS)) : Nat → List mV → List mV → mS → Option (((Int × mS) ⊕ (Int × mS))) := fun i L st σ => match i, L, st with
  | 19, [(3, l0), (1, l1), (1, l2), _], [] => M_Reader_readTerm_19 G l0 l1 l2 σ
  | _, _, _ => none
def B_Reader_readTerm_8 (G : Nat → List mV → mS → Option (Int × mS)) (l0 l1 l2 : Int) (σ : mS) : Option (((Int × mS) ⊕ (Int × mS))) :=
  if l2 < 400 then 
    (gk 6 l0 σ).bind fun _ => (M_Reader_kindHere l0 σ).bind fun p1 =>
    if p1.1 = 42 then 
      M_Reader_readTerm_19 G l0 l1 l2 p1.2
    else
      (gk 6 l0 p1.2).bind fun _ => (M_Reader_kindHere l0 p1.2).bind fun p2 =>
      if p2.1 = 47 then 
        M_Reader_readTerm_19 G l0 l1 l2 p2.2
      else
        if 1 = 0 ∨ 1 = 1 then some (.inr (1, p2.2)) else none
  else
    if 1 = 0 ∨ 1 = 1 then some (.inr (1, σ)) else none
set_option maxRecDepth 100000 in
theorem E_Reader_readTerm_8 (G : Nat → List mV → mS → Option (Int × mS)) (l0 l1 l2 : Int) (σ : mS) : mblk c_Reader_readTerm K_Reader_readTerm (C_Reader_readTerm G) (F_Reader_readTerm_8 G) (fun v σ => some (.inr (v, σ))) 49 8 ([(3, l0), (1, l1), (1, l2), (0, 0)]) [] σ = B_Reader_readTerm_8 G l0 l1 l2 σ := rfl
def M_Reader_readTerm_8 (G : Nat → List mV → mS → Option (Int × mS)) (l0 l1 l2 : Int) (σ : mS) : Option (Int × mS) := miter (fun s : Int × mS => B_Reader_readTerm_8 G l0 l1 s.1 s.2) mN (l2, σ)
def F_Reader_readTerm_0 (G : Nat → List mV → mS → Option (Int × mS)) : Nat → List mV → List mV → mS → Option (Int × mS) := fun i L st σ => match i, L, st with
  | 8, [(3, l0), (1, l1), (1, l2), _], [] => M_Reader_readTerm_8 G l0 l1 l2 σ
  | _, _, _ => none
def B_Reader_readTerm (G : Nat → List mV → mS → Option (Int × mS)) (l0 l1 : Int) (σ : mS) : Option (Int × mS) :=
  (gk 6 l0 σ).bind fun _ => (G 219 [(3, l0), (1, l1)] σ).bind fun p1 =>
  if p1.1 = 0 then 
    if 0 = 0 ∨ 0 = 1 then some (0, p1.2) else none
  else
    M_Reader_readTerm_8 G l0 l1 0 p1.2
set_option maxRecDepth 100000 in
theorem E_Reader_readTerm_0 (G : Nat → List mV → mS → Option (Int × mS)) (l0 l1 : Int) (σ : mS) : mblk c_Reader_readTerm K_Reader_readTerm (C_Reader_readTerm G) (F_Reader_readTerm_0 G) (fun v σ => some (v, σ)) 49 0 (mInit 4 [(3, l0), (1, l1)]) [] σ = B_Reader_readTerm G l0 l1 σ := rfl
def C_Reader_readPart (G : Nat → List mV → mS → Option (Int × mS)) : Nat → List mV → mS → Option (Int × mS) := fun k as σ => match k, as with
  | 207, [(3, a0)] => M_Reader_kindHere a0 σ
  | 208, [(3, a0), (1, a1)] => M_Reader_takes a0 a1 σ
  | 209, [(3, a0), (1, a1), (1, a2)] => M_Reader_emit a0 a1 a2 σ
  | 217, [(3, a0), (1, a1)] => G 217 [(3, a0), (1, a1)] σ
  | _, _ => none
def K_Reader_readPart : Nat → Bool := fun i => i.beq 39 || i.beq 40 || i.beq 49 || i.beq 50 || i.beq 55 || i.beq 87 || i.beq 90 || i.beq 91
def F_Reader_readPart_91 (G : Nat → List mV → mS → Option (Int × mS)) : Nat → List mV → List mV → mS → Option (Int × mS) := fun i L st σ => match i, L, st with
  | _, _, _ => none
def M_Reader_readPart_91 (G : Nat → List mV → mS → Option (Int × mS)) (l0 : Int) (σ : mS) : Option (Int × mS) :=
  (gf 6 10 l0 σ).bind fun v1 =>
  (pf 6 10 l0 (w32 (v1 + 1)) σ).bind fun σ =>
  (gf 6 4 l0 σ).bind fun v2 =>
  (pf 6 4 l0 (w32 (v2 + 1)) σ).bind fun σ =>
  if 1 = 0 ∨ 1 = 1 then some (1, σ) else none
set_option maxRecDepth 100000 in
theorem E_Reader_readPart_91 (G : Nat → List mV → mS → Option (Int × mS)) (l0 : Int) (σ : mS) : mblk c_Reader_readPart K_Reader_readPart (C_Reader_readPart G) (F_Reader_readPart_91 G) (fun v σ => some (v, σ)) 106 91 ([(3, l0), (0, 0), (0, 0), (0, 0), (0, 0)]) [] σ = M_Reader_readPart_91 G l0 σ := rfl
def F_Reader_readPart_90 (G : Nat → List mV → mS → Option (Int × mS)) : Nat → List mV → List mV → mS → Option (Int × mS) := fun i L st σ => match i, L, st with
  | 91, [(3, l0), _, _, _, _], [] => M_Reader_readPart_91 G l0 σ
  | _, _, _ => none
def M_Reader_readPart_90 (G : Nat → List mV → mS → Option (Int × mS)) (l0 s1 s0 : Int) (σ : mS) : Option (Int × mS) :=
  (pz 6 11 s0 s1 σ).bind fun σ =>
  M_Reader_readPart_91 G l0 σ
set_option maxRecDepth 100000 in
theorem E_Reader_readPart_90 (G : Nat → List mV → mS → Option (Int × mS)) (l0 s1 s0 : Int) (σ : mS) : mblk c_Reader_readPart K_Reader_readPart (C_Reader_readPart G) (F_Reader_readPart_90 G) (fun v σ => some (v, σ)) 106 90 ([(3, l0), (0, 0), (0, 0), (0, 0), (0, 0)]) [(1, s1), (3, s0)] σ = M_Reader_readPart_90 G l0 s1 s0 σ := rfl
def F_Reader_readPart_87 (G : Nat → List mV → mS → Option (Int × mS)) : Nat → List mV → List mV → mS → Option (Int × mS) := fun i L st σ => match i, L, st with
  | 90, [(3, l0), _, _, _, _], [(1, s1), (3, s0)] => M_Reader_readPart_90 G l0 s1 s0 σ
  | _, _, _ => none
def M_Reader_readPart_87 (G : Nat → List mV → mS → Option (Int × mS)) (l0 s0 : Int) (σ : mS) : Option (Int × mS) :=
  M_Reader_readPart_90 G l0 1 s0 σ
set_option maxRecDepth 100000 in
theorem E_Reader_readPart_87 (G : Nat → List mV → mS → Option (Int × mS)) (l0 s0 : Int) (σ : mS) : mblk c_Reader_readPart K_Reader_readPart (C_Reader_readPart G) (F_Reader_readPart_87 G) (fun v σ => some (v, σ)) 106 87 ([(3, l0), (0, 0), (0, 0), (0, 0), (0, 0)]) [(3, s0)] σ = M_Reader_readPart_87 G l0 s0 σ := rfl
def F_Reader_readPart_55 (G : Nat → List mV → mS → Option (Int × mS)) : Nat → List mV → List mV → mS → Option (Int × mS) := fun i L st σ => match i, L, st with
  | 87, [(3, l0), _, _, _, _], [(3, s0)] => M_Reader_readPart_87 G l0 s0 σ
  | 90, [(3, l0), _, _, _, _], [(1, s1), (3, s0)] => M_Reader_readPart_90 G l0 s1 s0 σ
  | 91, [(3, l0), _, _, _, _], [] => M_Reader_readPart_91 G l0 σ
  | _, _, _ => none
def M_Reader_readPart_55 (G : Nat → List mV → mS → Option (Int × mS)) (l0 l2 l3 : Int) (σ : mS) : Option (Int × mS) :=
  (gf 6 10 l0 σ).bind fun v1 =>
  if v1 < 50 then 
    if l3 = 0 then 
      (gk 6 l0 σ).bind fun _ => (M_Reader_emit l0 1 (w32 (l2 - 264)) σ).bind fun p2 =>
      (gf 6 11 l0 p2.2).bind fun v3 =>
      if v3 = 0 then 
        if l2 = 269 then 
          M_Reader_readPart_87 G l0 l0 p2.2
        else
          M_Reader_readPart_90 G l0 0 l0 p2.2
      else
        M_Reader_readPart_87 G l0 l0 p2.2
    else
      (gf 6 2 l0 σ).bind fun v4 =>
      (gf 6 4 l0 σ).bind fun v5 =>
      (ld 100 v4 v5 σ).bind fun v6 =>
      (gk 6 l0 σ).bind fun _ => (M_Reader_emit l0 0 v6 σ).bind fun p7 =>
      M_Reader_readPart_91 G l0 p7.2
  else
    if 0 = 0 ∨ 0 = 1 then some (0, σ) else none
set_option maxRecDepth 100000 in
theorem E_Reader_readPart_55 (G : Nat → List mV → mS → Option (Int × mS)) (l0 l2 l3 : Int) (σ : mS) : mblk c_Reader_readPart K_Reader_readPart (C_Reader_readPart G) (F_Reader_readPart_55 G) (fun v σ => some (v, σ)) 106 55 ([(3, l0), (0, 0), (1, l2), (1, l3), (0, 0)]) [] σ = M_Reader_readPart_55 G l0 l2 l3 σ := rfl
def F_Reader_readPart_50 (G : Nat → List mV → mS → Option (Int × mS)) : Nat → List mV → List mV → mS → Option (Int × mS) := fun i L st σ => match i, L, st with
  | 55, [(3, l0), _, (1, l2), (1, l3), _], [] => M_Reader_readPart_55 G l0 l2 l3 σ
  | _, _, _ => none
def M_Reader_readPart_50 (G : Nat → List mV → mS → Option (Int × mS)) (l0 l2 l3 s0 : Int) (σ : mS) : Option (Int × mS) :=
  if l3 = 0 then 
    if s0 = 0 then 
      if 0 = 0 ∨ 0 = 1 then some (0, σ) else none
    else
      M_Reader_readPart_55 G l0 l2 l3 σ
  else
    M_Reader_readPart_55 G l0 l2 l3 σ
set_option maxRecDepth 100000 in
theorem E_Reader_readPart_50 (G : Nat → List mV → mS → Option (Int × mS)) (l0 l2 l3 s0 : Int) (σ : mS) : mblk c_Reader_readPart K_Reader_readPart (C_Reader_readPart G) (F_Reader_readPart_50 G) (fun v σ => some (v, σ)) 106 50 ([(3, l0), (0, 0), (1, l2), (1, l3), (0, 0)]) [(1, s0)] σ = M_Reader_readPart_50 G l0 l2 l3 s0 σ := rfl
def F_Reader_readPart_49 (G : Nat → List mV → mS → Option (Int × mS)) : Nat → List mV → List mV → mS → Option (Int × mS) := fun i L st σ => match i, L, st with
  | 50, [(3, l0), _, (1, l2), (1, l3), _], [(1, s0)] => M_Reader_readPart_50 G l0 l2 l3 s0 σ
  | _, _, _ => none
def M_Reader_readPart_49 (G : Nat → List mV → mS → Option (Int × mS)) (l0 l2 l3 : Int) (σ : mS) : Option (Int × mS) :=
  M_Reader_readPart_50 G l0 l2 l3 0 σ
set_option maxRecDepth 100000 in
theorem E_Reader_readPart_49 (G : Nat → List mV → mS → Option (Int × mS)) (l0 l2 l3 : Int) (σ : mS) : mblk c_Reader_readPart K_Reader_readPart (C_Reader_readPart G) (F_Reader_readPart_49 G) (fun v σ => some (v, σ)) 106 49 ([(3, l0), (0, 0), (1, l2), (1, l3), (0, 0)]) [] σ = M_Reader_readPart_49 G l0 l2 l3 σ := rfl
def F_Reader_readPart_40 (G : Nat → List mV → mS → Option (Int × mS)) : Nat → List mV → List mV → mS → Option (Int × mS) := fun i L st σ => match i, L, st with
  | 49, [(3, l0), _, (1, l2), (1, l3), _], [] => M_Reader_readPart_49 G l0 l2 l3 σ
  | 50, [(3, l0), _, (1, l2), (1, l3), _], [(1, s0)] => M_Reader_readPart_50 G l0 l2 l3 s0 σ
  | _, _, _ => none
def M_Reader_readPart_40 (G : Nat → List mV → mS → Option (Int × mS)) (l0 l2 s0 : Int) (σ : mS) : Option (Int × mS) :=
  if l2 < 264 then 
    M_Reader_readPart_49 G l0 l2 s0 σ
  else
    if l2 < 270 then 
      M_Reader_readPart_50 G l0 l2 s0 1 σ
    else
      M_Reader_readPart_49 G l0 l2 s0 σ
set_option maxRecDepth 100000 in
theorem E_Reader_readPart_40 (G : Nat → List mV → mS → Option (Int × mS)) (l0 l2 s0 : Int) (σ : mS) : mblk c_Reader_readPart K_Reader_readPart (C_Reader_readPart G) (F_Reader_readPart_40 G) (fun v σ => some (v, σ)) 106 40 ([(3, l0), (0, 0), (1, l2), (0, 0), (0, 0)]) [(1, s0)] σ = M_Reader_readPart_40 G l0 l2 s0 σ := rfl
def F_Reader_readPart_39 (G : Nat → List mV → mS → Option (Int × mS)) : Nat → List mV → List mV → mS → Option (Int × mS) := fun i L st σ => match i, L, st with
  | 40, [(3, l0), _, (1, l2), _, _], [(1, s0)] => M_Reader_readPart_40 G l0 l2 s0 σ
  | _, _, _ => none
def M_Reader_readPart_39 (G : Nat → List mV → mS → Option (Int × mS)) (l0 l2 : Int) (σ : mS) : Option (Int × mS) :=
  M_Reader_readPart_40 G l0 l2 0 σ
set_option maxRecDepth 100000 in
theorem E_Reader_readPart_39 (G : Nat → List mV → mS → Option (Int × mS)) (l0 l2 : Int) (σ : mS) : mblk c_Reader_readPart K_Reader_readPart (C_Reader_readPart G) (F_Reader_readPart_39 G) (fun v σ => some (v, σ)) 106 39 ([(3, l0), (0, 0), (1, l2), (0, 0), (0, 0)]) [] σ = M_Reader_readPart_39 G l0 l2 σ := rfl
def F_Reader_readPart_0 (G : Nat → List mV → mS → Option (Int × mS)) : Nat → List mV → List mV → mS → Option (Int × mS) := fun i L st σ => match i, L, st with
  | 39, [(3, l0), _, (1, l2), _, _], [] => M_Reader_readPart_39 G l0 l2 σ
  | 40, [(3, l0), _, (1, l2), _, _], [(1, s0)] => M_Reader_readPart_40 G l0 l2 s0 σ
  | _, _, _ => none
def B_Reader_readPart (G : Nat → List mV → mS → Option (Int × mS)) (l0 l1 : Int) (σ : mS) : Option (Int × mS) :=
  (gk 6 l0 σ).bind fun _ => (M_Reader_kindHere l0 σ).bind fun p1 =>
  if p1.1 = 91 then 
    if l1 < 8 then 
      (gk 6 l0 p1.2).bind fun _ => (M_Reader_takes l0 91 p1.2).bind fun p2 =>
      if p2.1 = 0 then 
        if 0 = 0 ∨ 0 = 1 then some (0, p2.2) else none
      else
        (gk 6 l0 p2.2).bind fun _ => (G 217 [(3, l0), (1, w32 (l1 + 1))] p2.2).bind fun p3 =>
        if p3.1 = 0 then 
          if 0 = 0 ∨ 0 = 1 then some (0, p3.2) else none
        else
          (gk 6 l0 p3.2).bind fun _ => (M_Reader_takes l0 93 p3.2).bind fun p4 =>
          if p4.1 = 0 then 
            if 0 = 0 ∨ 0 = 1 then some (0, p4.2) else none
          else
            if 1 = 0 ∨ 1 = 1 then some (1, p4.2) else none
    else
      if 0 = 0 ∨ 0 = 1 then some (0, p1.2) else none
  else
    if p1.1 = 257 then 
      (gf 6 2 l0 p1.2).bind fun v5 =>
      (gf 6 4 l0 p1.2).bind fun v6 =>
      (ld 100 v5 v6 p1.2).bind fun v7 =>
      if 1000 < v7 then 
        M_Reader_readPart_39 G l0 p1.1 p1.2
      else
        M_Reader_readPart_40 G l0 p1.1 1 p1.2
    else
      M_Reader_readPart_39 G l0 p1.1 p1.2
set_option maxRecDepth 100000 in
theorem E_Reader_readPart_0 (G : Nat → List mV → mS → Option (Int × mS)) (l0 l1 : Int) (σ : mS) : mblk c_Reader_readPart K_Reader_readPart (C_Reader_readPart G) (F_Reader_readPart_0 G) (fun v σ => some (v, σ)) 106 0 (mInit 5 [(3, l0), (1, l1)]) [] σ = B_Reader_readPart G l0 l1 σ := rfl
def R_Reader_readSum : Nat → Nat → List mV → mS → Option (Int × mS)
  | 0, _, _, _ => none
  | n + 1, k, as, σ => match k, as with
    | 217, [(3, a0), (1, a1)] => B_Reader_readSum (R_Reader_readSum n) a0 a1 σ
    | 218, [(3, a0), (1, a1)] => B_Reader_readTerm (R_Reader_readSum n) a0 a1 σ
    | 219, [(3, a0), (1, a1)] => B_Reader_readPart (R_Reader_readSum n) a0 a1 σ
    | _, _ => none
def C_Reader_readComparison : Nat → List mV → mS → Option (Int × mS) := fun k as σ => match k, as with
  | 207, [(3, a0)] => M_Reader_kindHere a0 σ
  | 209, [(3, a0), (1, a1), (1, a2)] => M_Reader_emit a0 a1 a2 σ
  | 217, [(3, a0), (1, a1)] => R_Reader_readSum mD 217 [(3, a0), (1, a1)] σ
  | _, _ => none
def K_Reader_readComparison : Nat → Bool := fun i => i.beq 20
def F_Reader_readComparison_20 : Nat → List mV → List mV → mS → Option (Int × mS) := fun i L st σ => match i, L, st with
  | _, _, _ => none
def M_Reader_readComparison_20 (l0 l1 l2 : Int) (σ : mS) : Option (Int × mS) :=
  (gf 6 4 l0 σ).bind fun v1 =>
  (pf 6 4 l0 (w32 (v1 + 1)) σ).bind fun σ =>
  (gk 6 l0 σ).bind fun _ => (R_Reader_readSum mD 217 [(3, l0), (1, l1)] σ).bind fun p2 =>
  if p2.1 = 0 then 
    if 0 = 0 ∨ 0 = 1 then some (0, p2.2) else none
  else
    if l2 = 60 then 
      (gk 6 l0 p2.2).bind fun _ => (M_Reader_emit l0 9 0 p2.2).bind fun p3 =>
      if 1 = 0 ∨ 1 = 1 then some (1, p3.2) else none
    else
      if l2 = 62 then 
        (gk 6 l0 p2.2).bind fun _ => (M_Reader_emit l0 10 0 p2.2).bind fun p4 =>
        if 1 = 0 ∨ 1 = 1 then some (1, p4.2) else none
      else
        (gk 6 l0 p2.2).bind fun _ => (M_Reader_emit l0 11 0 p2.2).bind fun p5 =>
        if 1 = 0 ∨ 1 = 1 then some (1, p5.2) else none
set_option maxRecDepth 100000 in
theorem E_Reader_readComparison_20 (l0 l1 l2 : Int) (σ : mS) : mblk c_Reader_readComparison K_Reader_readComparison (C_Reader_readComparison) (F_Reader_readComparison_20) (fun v σ => some (v, σ)) 50 20 ([(3, l0), (1, l1), (1, l2)]) [] σ = M_Reader_readComparison_20 l0 l1 l2 σ := rfl
def F_Reader_readComparison_0 : Nat → List mV → List mV → mS → Option (Int × mS) := fun i L st σ => match i, L, st with
  | 20, [(3, l0), (1, l1), (1, l2)], [] => M_Reader_readComparison_20 l0 l1 l2 σ
  | _, _, _ => none
def M_Reader_readComparison (l0 l1 : Int) (σ : mS) : Option (Int × mS) :=
  (gk 6 l0 σ).bind fun _ => (R_Reader_readSum mD 217 [(3, l0), (1, l1)] σ).bind fun p1 =>
  if p1.1 = 0 then 
    if 0 = 0 ∨ 0 = 1 then some (0, p1.2) else none
  else
    (gk 6 l0 p1.2).bind fun _ => (M_Reader_kindHere l0 p1.2).bind fun p2 =>
    if p2.1 = 60 then 
      M_Reader_readComparison_20 l0 l1 p2.1 p2.2
    else
      if p2.1 = 62 then 
        M_Reader_readComparison_20 l0 l1 p2.1 p2.2
      else
        if p2.1 = 61 then 
          M_Reader_readComparison_20 l0 l1 p2.1 p2.2
        else
          if 0 = 0 ∨ 0 = 1 then some (0, p2.2) else none
set_option maxRecDepth 100000 in
theorem E_Reader_readComparison_0 (l0 l1 : Int) (σ : mS) : mblk c_Reader_readComparison K_Reader_readComparison (C_Reader_readComparison) (F_Reader_readComparison_0) (fun v σ => some (v, σ)) 50 0 (mInit 3 [(3, l0), (1, l1)]) [] σ = M_Reader_readComparison l0 l1 σ := rfl
def C_Reader_readTest (G : Nat → List mV → mS → Option (Int × mS)) : Nat → List mV → mS → Option (Int × mS) := fun k as σ => match k, as with
  | 208, [(3, a0), (1, a1)] => M_Reader_takes a0 a1 σ
  | 209, [(3, a0), (1, a1), (1, a2)] => M_Reader_emit a0 a1 a2 σ
  | 210, [(3, a0), (1, a1)] => M_Reader_aimBehind a0 a1 σ
  | 213, [(3, a0), (1, a1)] => G 213 [(3, a0), (1, a1)] σ
  | _, _ => none
def K_Reader_readTest : Nat → Bool := fun i => i.beq 8
def F_Reader_readTest_8 (G : Nat → List mV → mS → Option (Int × mS)) : Nat → List mV → List mV → mS → Option (((Int × mS) ⊕ (Int × mS))) := fun i L st σ => match i, L, st with
  | 8, [(3, l0), (1, l1), (1, l2), _], [] => some (.inl (l2, σ))
  | _, _, _ => none
def B_Reader_readTest_8 (G : Nat → List mV → mS → Option (Int × mS)) (l0 l1 l2 : Int) (σ : mS) : Option (((Int × mS) ⊕ (Int × mS))) :=
  if l2 < 400 then 
    (gk 6 l0 σ).bind fun _ => (M_Reader_takes l0 261 σ).bind fun p1 =>
    if p1.1 = 0 then 
      if 1 = 0 ∨ 1 = 1 then some (.inr (1, p1.2)) else none
    else
      (gk 6 l0 p1.2).bind fun _ => (M_Reader_emit l0 4 0 p1.2).bind fun p2 =>
      (gk 6 l0 p2.2).bind fun _ => (G 213 [(3, l0), (1, l1)] p2.2).bind fun p3 =>
      if p3.1 = 0 then 
        if 0 = 0 ∨ 0 = 1 then some (.inr (0, p3.2)) else none
      else
        (gk 6 l0 p3.2).bind fun _ => (M_Reader_aimBehind l0 p2.1 p3.2).bind fun p4 =>
        some (.inl (w32 (l2 + 1), p4.2))
  else
    if 1 = 0 ∨ 1 = 1 then some (.inr (1, σ)) else none
set_option maxRecDepth 100000 in
theorem E_Reader_readTest_8 (G : Nat → List mV → mS → Option (Int × mS)) (l0 l1 l2 : Int) (σ : mS) : mblk c_Reader_readTest K_Reader_readTest (C_Reader_readTest G) (F_Reader_readTest_8 G) (fun v σ => some (.inr (v, σ))) 34 8 ([(3, l0), (1, l1), (1, l2), (0, 0)]) [] σ = B_Reader_readTest_8 G l0 l1 l2 σ := rfl
def M_Reader_readTest_8 (G : Nat → List mV → mS → Option (Int × mS)) (l0 l1 l2 : Int) (σ : mS) : Option (Int × mS) := miter (fun s : Int × mS => B_Reader_readTest_8 G l0 l1 s.1 s.2) mN (l2, σ)
def F_Reader_readTest_0 (G : Nat → List mV → mS → Option (Int × mS)) : Nat → List mV → List mV → mS → Option (Int × mS) := fun i L st σ => match i, L, st with
  | 8, [(3, l0), (1, l1), (1, l2), _], [] => M_Reader_readTest_8 G l0 l1 l2 σ
  | _, _, _ => none
def B_Reader_readTest (G : Nat → List mV → mS → Option (Int × mS)) (l0 l1 : Int) (σ : mS) : Option (Int × mS) :=
  (gk 6 l0 σ).bind fun _ => (G 213 [(3, l0), (1, l1)] σ).bind fun p1 =>
  if p1.1 = 0 then 
    if 0 = 0 ∨ 0 = 1 then some (0, p1.2) else none
  else
    M_Reader_readTest_8 G l0 l1 0 p1.2
set_option maxRecDepth 100000 in
theorem E_Reader_readTest_0 (G : Nat → List mV → mS → Option (Int × mS)) (l0 l1 : Int) (σ : mS) : mblk c_Reader_readTest K_Reader_readTest (C_Reader_readTest G) (F_Reader_readTest_0 G) (fun v σ => some (v, σ)) 34 0 (mInit 4 [(3, l0), (1, l1)]) [] σ = B_Reader_readTest G l0 l1 σ := rfl
def C_Reader_readBoth (G : Nat → List mV → mS → Option (Int × mS)) : Nat → List mV → mS → Option (Int × mS) := fun k as σ => match k, as with
  | 208, [(3, a0), (1, a1)] => M_Reader_takes a0 a1 σ
  | 209, [(3, a0), (1, a1), (1, a2)] => M_Reader_emit a0 a1 a2 σ
  | 210, [(3, a0), (1, a1)] => M_Reader_aimBehind a0 a1 σ
  | 214, [(3, a0), (1, a1)] => G 214 [(3, a0), (1, a1)] σ
  | _, _ => none
def K_Reader_readBoth : Nat → Bool := fun i => i.beq 8
def F_Reader_readBoth_8 (G : Nat → List mV → mS → Option (Int × mS)) : Nat → List mV → List mV → mS → Option (((Int × mS) ⊕ (Int × mS))) := fun i L st σ => match i, L, st with
  | 8, [(3, l0), (1, l1), (1, l2), _], [] => some (.inl (l2, σ))
  | _, _, _ => none
def B_Reader_readBoth_8 (G : Nat → List mV → mS → Option (Int × mS)) (l0 l1 l2 : Int) (σ : mS) : Option (((Int × mS) ⊕ (Int × mS))) :=
  if l2 < 400 then 
    (gk 6 l0 σ).bind fun _ => (M_Reader_takes l0 262 σ).bind fun p1 =>
    if p1.1 = 0 then 
      if 1 = 0 ∨ 1 = 1 then some (.inr (1, p1.2)) else none
    else
      (gk 6 l0 p1.2).bind fun _ => (M_Reader_emit l0 3 0 p1.2).bind fun p2 =>
      (gk 6 l0 p2.2).bind fun _ => (G 214 [(3, l0), (1, l1)] p2.2).bind fun p3 =>
      if p3.1 = 0 then 
        if 0 = 0 ∨ 0 = 1 then some (.inr (0, p3.2)) else none
      else
        (gk 6 l0 p3.2).bind fun _ => (M_Reader_aimBehind l0 p2.1 p3.2).bind fun p4 =>
        some (.inl (w32 (l2 + 1), p4.2))
  else
    if 1 = 0 ∨ 1 = 1 then some (.inr (1, σ)) else none
set_option maxRecDepth 100000 in
theorem E_Reader_readBoth_8 (G : Nat → List mV → mS → Option (Int × mS)) (l0 l1 l2 : Int) (σ : mS) : mblk c_Reader_readBoth K_Reader_readBoth (C_Reader_readBoth G) (F_Reader_readBoth_8 G) (fun v σ => some (.inr (v, σ))) 34 8 ([(3, l0), (1, l1), (1, l2), (0, 0)]) [] σ = B_Reader_readBoth_8 G l0 l1 l2 σ := rfl
def M_Reader_readBoth_8 (G : Nat → List mV → mS → Option (Int × mS)) (l0 l1 l2 : Int) (σ : mS) : Option (Int × mS) := miter (fun s : Int × mS => B_Reader_readBoth_8 G l0 l1 s.1 s.2) mN (l2, σ)
def F_Reader_readBoth_0 (G : Nat → List mV → mS → Option (Int × mS)) : Nat → List mV → List mV → mS → Option (Int × mS) := fun i L st σ => match i, L, st with
  | 8, [(3, l0), (1, l1), (1, l2), _], [] => M_Reader_readBoth_8 G l0 l1 l2 σ
  | _, _, _ => none
def B_Reader_readBoth (G : Nat → List mV → mS → Option (Int × mS)) (l0 l1 : Int) (σ : mS) : Option (Int × mS) :=
  (gk 6 l0 σ).bind fun _ => (G 214 [(3, l0), (1, l1)] σ).bind fun p1 =>
  if p1.1 = 0 then 
    if 0 = 0 ∨ 0 = 1 then some (0, p1.2) else none
  else
    M_Reader_readBoth_8 G l0 l1 0 p1.2
set_option maxRecDepth 100000 in
theorem E_Reader_readBoth_0 (G : Nat → List mV → mS → Option (Int × mS)) (l0 l1 : Int) (σ : mS) : mblk c_Reader_readBoth K_Reader_readBoth (C_Reader_readBoth G) (F_Reader_readBoth_0 G) (fun v σ => some (v, σ)) 34 0 (mInit 4 [(3, l0), (1, l1)]) [] σ = B_Reader_readBoth G l0 l1 σ := rfl
def C_Reader_readPlain (G : Nat → List mV → mS → Option (Int × mS)) : Nat → List mV → mS → Option (Int × mS) := fun k as σ => match k, as with
  | 207, [(3, a0)] => M_Reader_kindHere a0 σ
  | 208, [(3, a0), (1, a1)] => M_Reader_takes a0 a1 σ
  | 209, [(3, a0), (1, a1), (1, a2)] => M_Reader_emit a0 a1 a2 σ
  | 215, [(3, a0), (1, a1)] => G 215 [(3, a0), (1, a1)] σ
  | 216, [(3, a0), (1, a1)] => M_Reader_readComparison a0 a1 σ
  | _, _ => none
def K_Reader_readPlain : Nat → Bool := fun i => i.beq 4 || i.beq 19 || i.beq 30
def F_Reader_readPlain_30 (G : Nat → List mV → mS → Option (Int × mS)) : Nat → List mV → List mV → mS → Option (Int × mS) := fun i L st σ => match i, L, st with
  | _, _, _ => none
def M_Reader_readPlain_30 (G : Nat → List mV → mS → Option (Int × mS)) (l0 l2 s0 : Int) (σ : mS) : Option (Int × mS) :=
  if s0 = 0 then 
    if s0 = 0 ∨ s0 = 1 then some (s0, σ) else none
  else
    if l2 = 0 then 
      if s0 = 0 ∨ s0 = 1 then some (s0, σ) else none
    else
      (gk 6 l0 σ).bind fun _ => (M_Reader_emit l0 2 0 σ).bind fun p1 =>
      if s0 = 0 ∨ s0 = 1 then some (s0, p1.2) else none
set_option maxRecDepth 100000 in
theorem E_Reader_readPlain_30 (G : Nat → List mV → mS → Option (Int × mS)) (l0 l2 s0 : Int) (σ : mS) : mblk c_Reader_readPlain K_Reader_readPlain (C_Reader_readPlain G) (F_Reader_readPlain_30 G) (fun v σ => some (v, σ)) 43 30 ([(3, l0), (0, 0), (1, l2), (0, 0)]) [(1, s0)] σ = M_Reader_readPlain_30 G l0 l2 s0 σ := rfl
def F_Reader_readPlain_19 (G : Nat → List mV → mS → Option (Int × mS)) : Nat → List mV → List mV → mS → Option (Int × mS) := fun i L st σ => match i, L, st with
  | 30, [(3, l0), _, (1, l2), _], [(1, s0)] => M_Reader_readPlain_30 G l0 l2 s0 σ
  | _, _, _ => none
def M_Reader_readPlain_19 (G : Nat → List mV → mS → Option (Int × mS)) (l0 l1 l2 : Int) (σ : mS) : Option (Int × mS) :=
  (gk 6 l0 σ).bind fun _ => (M_Reader_kindHere l0 σ).bind fun p1 =>
  if p1.1 = 40 then 
    (gk 6 l0 p1.2).bind fun _ => (G 215 [(3, l0), (1, l1)] p1.2).bind fun p2 =>
    M_Reader_readPlain_30 G l0 l2 p2.1 p2.2
  else
    (gk 6 l0 p1.2).bind fun _ => (M_Reader_readComparison l0 l1 p1.2).bind fun p3 =>
    M_Reader_readPlain_30 G l0 l2 p3.1 p3.2
set_option maxRecDepth 100000 in
theorem E_Reader_readPlain_19 (G : Nat → List mV → mS → Option (Int × mS)) (l0 l1 l2 : Int) (σ : mS) : mblk c_Reader_readPlain K_Reader_readPlain (C_Reader_readPlain G) (F_Reader_readPlain_19 G) (fun v σ => some (v, σ)) 43 19 ([(3, l0), (1, l1), (1, l2), (0, 0)]) [] σ = M_Reader_readPlain_19 G l0 l1 l2 σ := rfl
def F_Reader_readPlain_4 (G : Nat → List mV → mS → Option (Int × mS)) : Nat → List mV → List mV → mS → Option (((Int × Int × mS) ⊕ (Int × mS))) := fun i L st σ => match i, L, st with
  | 4, [(3, l0), (1, l1), (1, l2), (1, l3)], [] => some (.inl (l2, l3, σ))
  | 19, [(3, l0), (1, l1), (1, l2), _], [] => (M_Reader_readPlain_19 G l0 l1 l2 σ).bind fun z => some (.inr z)
  | _, _, _ => none
def B_Reader_readPlain_4 (G : Nat → List mV → mS → Option (Int × mS)) (l0 l1 l2 l3 : Int) (σ : mS) : Option (((Int × Int × mS) ⊕ (Int × mS))) :=
  if l3 < 400 then 
    (gk 6 l0 σ).bind fun _ => (M_Reader_takes l0 263 σ).bind fun p1 =>
    if p1.1 = 0 then 
      (M_Reader_readPlain_19 G l0 l1 l2 p1.2).bind fun z => some (.inr z)
    else
      if l2 = 0 then 
        some (.inl (1, w32 (l3 + 1), p1.2))
      else
        some (.inl (0, w32 (l3 + 1), p1.2))
  else
    (M_Reader_readPlain_19 G l0 l1 l2 σ).bind fun z => some (.inr z)
set_option maxRecDepth 100000 in
theorem E_Reader_readPlain_4 (G : Nat → List mV → mS → Option (Int × mS)) (l0 l1 l2 l3 : Int) (σ : mS) : mblk c_Reader_readPlain K_Reader_readPlain (C_Reader_readPlain G) (F_Reader_readPlain_4 G) (fun v σ => some (.inr (v, σ))) 43 4 ([(3, l0), (1, l1), (1, l2), (1, l3)]) [] σ = B_Reader_readPlain_4 G l0 l1 l2 l3 σ := rfl
def M_Reader_readPlain_4 (G : Nat → List mV → mS → Option (Int × mS)) (l0 l1 l2 l3 : Int) (σ : mS) : Option (Int × mS) := miter (fun s : Int × Int × mS => B_Reader_readPlain_4 G l0 l1 s.1 s.2.1 s.2.2) mN (l2, l3, σ)
def F_Reader_readPlain_0 (G : Nat → List mV → mS → Option (Int × mS)) : Nat → List mV → List mV → mS → Option (Int × mS) := fun i L st σ => match i, L, st with
  | 4, [(3, l0), (1, l1), (1, l2), (1, l3)], [] => M_Reader_readPlain_4 G l0 l1 l2 l3 σ
  | _, _, _ => none
def B_Reader_readPlain (G : Nat → List mV → mS → Option (Int × mS)) (l0 l1 : Int) (σ : mS) : Option (Int × mS) :=
  M_Reader_readPlain_4 G l0 l1 0 0 σ
set_option maxRecDepth 100000 in
theorem E_Reader_readPlain_0 (G : Nat → List mV → mS → Option (Int × mS)) (l0 l1 : Int) (σ : mS) : mblk c_Reader_readPlain K_Reader_readPlain (C_Reader_readPlain G) (F_Reader_readPlain_0 G) (fun v σ => some (v, σ)) 43 0 (mInit 4 [(3, l0), (1, l1)]) [] σ = B_Reader_readPlain G l0 l1 σ := rfl
def C_Reader_readInBrackets (G : Nat → List mV → mS → Option (Int × mS)) : Nat → List mV → mS → Option (Int × mS) := fun k as σ => match k, as with
  | 208, [(3, a0), (1, a1)] => M_Reader_takes a0 a1 σ
  | 212, [(3, a0), (1, a1)] => G 212 [(3, a0), (1, a1)] σ
  | _, _ => none
def K_Reader_readInBrackets : Nat → Bool := fun i => false
def F_Reader_readInBrackets_0 (G : Nat → List mV → mS → Option (Int × mS)) : Nat → List mV → List mV → mS → Option (Int × mS) := fun i L st σ => match i, L, st with
  | _, _, _ => none
def B_Reader_readInBrackets (G : Nat → List mV → mS → Option (Int × mS)) (l0 l1 : Int) (σ : mS) : Option (Int × mS) :=
  if l1 < 8 then 
    (gk 6 l0 σ).bind fun _ => (M_Reader_takes l0 40 σ).bind fun p1 =>
    if p1.1 = 0 then 
      if 0 = 0 ∨ 0 = 1 then some (0, p1.2) else none
    else
      (gk 6 l0 p1.2).bind fun _ => (G 212 [(3, l0), (1, w32 (l1 + 1))] p1.2).bind fun p2 =>
      if p2.1 = 0 then 
        if 0 = 0 ∨ 0 = 1 then some (0, p2.2) else none
      else
        (gk 6 l0 p2.2).bind fun _ => (M_Reader_takes l0 41 p2.2).bind fun p3 =>
        if p3.1 = 0 then 
          if 0 = 0 ∨ 0 = 1 then some (0, p3.2) else none
        else
          if 1 = 0 ∨ 1 = 1 then some (1, p3.2) else none
  else
    if 0 = 0 ∨ 0 = 1 then some (0, σ) else none
set_option maxRecDepth 100000 in
theorem E_Reader_readInBrackets_0 (G : Nat → List mV → mS → Option (Int × mS)) (l0 l1 : Int) (σ : mS) : mblk c_Reader_readInBrackets K_Reader_readInBrackets (C_Reader_readInBrackets G) (F_Reader_readInBrackets_0 G) (fun v σ => some (v, σ)) 22 0 (mInit 2 [(3, l0), (1, l1)]) [] σ = B_Reader_readInBrackets G l0 l1 σ := rfl
def R_Reader_readTest : Nat → Nat → List mV → mS → Option (Int × mS)
  | 0, _, _, _ => none
  | n + 1, k, as, σ => match k, as with
    | 212, [(3, a0), (1, a1)] => B_Reader_readTest (R_Reader_readTest n) a0 a1 σ
    | 213, [(3, a0), (1, a1)] => B_Reader_readBoth (R_Reader_readTest n) a0 a1 σ
    | 214, [(3, a0), (1, a1)] => B_Reader_readPlain (R_Reader_readTest n) a0 a1 σ
    | 215, [(3, a0), (1, a1)] => B_Reader_readInBrackets (R_Reader_readTest n) a0 a1 σ
    | _, _ => none
def C_Reader_readClause : Nat → List mV → mS → Option (Int × mS) := fun k as σ => match k, as with
  | 208, [(3, a0), (1, a1)] => M_Reader_takes a0 a1 σ
  | 212, [(3, a0), (1, a1)] => R_Reader_readTest mD 212 [(3, a0), (1, a1)] σ
  | 217, [(3, a0), (1, a1)] => R_Reader_readSum mD 217 [(3, a0), (1, a1)] σ
  | _, _ => none
def K_Reader_readClause : Nat → Bool := fun i => i.beq 31
def F_Reader_readClause_31 : Nat → List mV → List mV → mS → Option (Int × mS) := fun i L st σ => match i, L, st with
  | _, _, _ => none
def M_Reader_readClause_31 (l0 : Int) (σ : mS) : Option (Int × mS) :=
  (gf 6 8 l0 σ).bind fun v1 =>
  (gf 6 9 l0 σ).bind fun v2 =>
  (gf 6 6 l0 σ).bind fun v3 =>
  (sd 100 v1 v2 v3 σ).bind fun σ =>
  (gf 6 9 l0 σ).bind fun v4 =>
  (pf 6 9 l0 (w32 (v4 + 1)) σ).bind fun σ =>
  if 1 = 0 ∨ 1 = 1 then some (1, σ) else none
set_option maxRecDepth 100000 in
theorem E_Reader_readClause_31 (l0 : Int) (σ : mS) : mblk c_Reader_readClause K_Reader_readClause (C_Reader_readClause) (F_Reader_readClause_31) (fun v σ => some (v, σ)) 47 31 ([(3, l0)]) [] σ = M_Reader_readClause_31 l0 σ := rfl
def F_Reader_readClause_0 : Nat → List mV → List mV → mS → Option (Int × mS) := fun i L st σ => match i, L, st with
  | 31, [(3, l0)], [] => M_Reader_readClause_31 l0 σ
  | _, _, _ => none
def M_Reader_readClause (l0 : Int) (σ : mS) : Option (Int × mS) :=
  (gf 6 9 l0 σ).bind fun v1 =>
  if v1 < 12 then 
    (gk 6 l0 σ).bind fun _ => (M_Reader_takes l0 259 σ).bind fun p2 =>
    if p2.1 = 0 then 
      if 0 = 0 ∨ 0 = 1 then some (0, p2.2) else none
    else
      (gk 6 l0 p2.2).bind fun _ => (R_Reader_readSum mD 217 [(3, l0), (1, 0)] p2.2).bind fun p3 =>
      if p3.1 = 0 then 
        if 0 = 0 ∨ 0 = 1 then some (0, p3.2) else none
      else
        (gf 6 7 l0 p3.2).bind fun v4 =>
        (gf 6 9 l0 p3.2).bind fun v5 =>
        (gf 6 6 l0 p3.2).bind fun v6 =>
        (sd 100 v4 v5 v6 p3.2).bind fun σ =>
        (gk 6 l0 σ).bind fun _ => (M_Reader_takes l0 260 σ).bind fun p7 =>
        if p7.1 = 0 then 
          M_Reader_readClause_31 l0 p7.2
        else
          (gk 6 l0 p7.2).bind fun _ => (R_Reader_readTest mD 212 [(3, l0), (1, 0)] p7.2).bind fun p8 =>
          if p8.1 = 0 then 
            if 0 = 0 ∨ 0 = 1 then some (0, p8.2) else none
          else
            M_Reader_readClause_31 l0 p8.2
  else
    if 0 = 0 ∨ 0 = 1 then some (0, σ) else none
set_option maxRecDepth 100000 in
theorem E_Reader_readClause_0 (l0 : Int) (σ : mS) : mblk c_Reader_readClause K_Reader_readClause (C_Reader_readClause) (F_Reader_readClause_0) (fun v σ => some (v, σ)) 47 0 (mInit 1 [(3, l0)]) [] σ = M_Reader_readClause l0 σ := rfl
end
