/-! the methods as functions: written by gen/emit.py -/
noncomputable section
def C_Mo_wrong : Nat → List mV → mS → Option (Int × mS) := fun k as σ => match k, as with
  | 62, [(1, a0)] => M_Mo_isHour a0 σ
  | 147, [(3, a0), (1, a1)] => M_Mo_wrongIn a0 a1 σ
  | _, _ => none
def K_Mo_wrong : Nat → Bool := fun i => false
def F_Mo_wrong_0 : Nat → List mV → List mV → mS → Option (Int × mS) := fun i L st σ => match i, L, st with
  | _, _, _ => none
def M_Mo_wrong (l0 l1 : Int) (σ : mS) : Option (Int × mS) :=
  (M_Mo_isHour l1 σ).bind fun p1 =>
  if p1.1 = 0 then 
    some ((-1), p1.2)
  else
    (gk 11 l0 p1.2).bind fun _ => (M_Mo_wrongIn l0 l1 p1.2).bind fun p2 =>
    some (p2.1, p2.2)
set_option maxRecDepth 100000 in
theorem E_Mo_wrong_0 (l0 l1 : Int) (σ : mS) : mblk c_Mo_wrong K_Mo_wrong (C_Mo_wrong) (F_Mo_wrong_0) (fun v σ => some (v, σ)) 10 0 (mInit 2 [(3, l0), (1, l1)]) [] σ = M_Mo_wrong l0 l1 σ := rfl
def C_Mo_fits : Nat → List mV → mS → Option (Int × mS) := fun k as σ => match k, as with
  | 147, [(3, a0), (1, a1)] => M_Mo_wrongIn a0 a1 σ
  | _, _ => none
def K_Mo_fits : Nat → Bool := fun i => i.beq 4
def F_Mo_fits_4 : Nat → List mV → List mV → mS → Option (((Int × Int × mS) ⊕ (Int × mS))) := fun i L st σ => match i, L, st with
  | 4, [(3, l0), (1, l1), (1, l2)], [] => some (.inl (l1, l2, σ))
  | _, _, _ => none
def B_Mo_fits_4 (l0 l1 l2 : Int) (σ : mS) : Option (((Int × Int × mS) ⊕ (Int × mS))) :=
  if l2 < 24 then 
    (gk 11 l0 σ).bind fun _ => (M_Mo_wrongIn l0 l2 σ).bind fun p1 =>
    if p1.1 = 0 then 
      some (.inl (ior l1 (ishl 1 l2), w32 (l2 + 1), p1.2))
    else
      some (.inl (ior l1 0, w32 (l2 + 1), p1.2))
  else
    some (.inr (l1, σ))
set_option maxRecDepth 100000 in
theorem E_Mo_fits_4 (l0 l1 l2 : Int) (σ : mS) : mblk c_Mo_fits K_Mo_fits (C_Mo_fits) (F_Mo_fits_4) (fun v σ => some (.inr (v, σ))) 24 4 ([(3, l0), (1, l1), (1, l2)]) [] σ = B_Mo_fits_4 l0 l1 l2 σ := rfl
def M_Mo_fits_4 (l0 l1 l2 : Int) (σ : mS) : Option (Int × mS) := miter (fun s : Int × Int × mS => B_Mo_fits_4 l0 s.1 s.2.1 s.2.2) mN (l1, l2, σ)
def F_Mo_fits_0 : Nat → List mV → List mV → mS → Option (Int × mS) := fun i L st σ => match i, L, st with
  | 4, [(3, l0), (1, l1), (1, l2)], [] => M_Mo_fits_4 l0 l1 l2 σ
  | _, _, _ => none
def M_Mo_fits (l0 : Int) (σ : mS) : Option (Int × mS) :=
  M_Mo_fits_4 l0 0 0 σ
set_option maxRecDepth 100000 in
theorem E_Mo_fits_0 (l0 : Int) (σ : mS) : mblk c_Mo_fits K_Mo_fits (C_Mo_fits) (F_Mo_fits_0) (fun v σ => some (v, σ)) 24 0 (mInit 3 [(3, l0)]) [] σ = M_Mo_fits l0 σ := rfl
def C_Mo_likely : Nat → List mV → mS → Option (Int × mS) := fun k as σ => match k, as with
  | 147, [(3, a0), (1, a1)] => M_Mo_wrongIn a0 a1 σ
  | _, _ => none
def K_Mo_likely : Nat → Bool := fun i => i.beq 6
def F_Mo_likely_6 : Nat → List mV → List mV → mS → Option (((Int × Int × Int × mS) ⊕ (Int × mS))) := fun i L st σ => match i, L, st with
  | 6, [(3, l0), (1, l1), (1, l2), (1, l3), _], [] => some (.inl (l1, l2, l3, σ))
  | _, _, _ => none
def B_Mo_likely_6 (l0 l1 l2 l3 : Int) (σ : mS) : Option (((Int × Int × Int × mS) ⊕ (Int × mS))) :=
  if l3 < 24 then 
    (gk 11 l0 σ).bind fun _ => (M_Mo_wrongIn l0 l3 σ).bind fun p1 =>
    if p1.1 < l2 then 
      some (.inl (l3, p1.1, w32 (l3 + 1), p1.2))
    else
      some (.inl (l1, l2, w32 (l3 + 1), p1.2))
  else
    some (.inr (l1, σ))
set_option maxRecDepth 100000 in
theorem E_Mo_likely_6 (l0 l1 l2 l3 : Int) (σ : mS) : mblk c_Mo_likely K_Mo_likely (C_Mo_likely) (F_Mo_likely_6) (fun v σ => some (.inr (v, σ))) 26 6 ([(3, l0), (1, l1), (1, l2), (1, l3), (0, 0)]) [] σ = B_Mo_likely_6 l0 l1 l2 l3 σ := rfl
def M_Mo_likely_6 (l0 l1 l2 l3 : Int) (σ : mS) : Option (Int × mS) := miter (fun s : Int × Int × Int × mS => B_Mo_likely_6 l0 s.1 s.2.1 s.2.2.1 s.2.2.2) mN (l1, l2, l3, σ)
def F_Mo_likely_0 : Nat → List mV → List mV → mS → Option (Int × mS) := fun i L st σ => match i, L, st with
  | 6, [(3, l0), (1, l1), (1, l2), (1, l3), _], [] => M_Mo_likely_6 l0 l1 l2 l3 σ
  | _, _, _ => none
def M_Mo_likely (l0 : Int) (σ : mS) : Option (Int × mS) :=
  M_Mo_likely_6 l0 0 13 0 σ
set_option maxRecDepth 100000 in
theorem E_Mo_likely_0 (l0 : Int) (σ : mS) : mblk c_Mo_likely K_Mo_likely (C_Mo_likely) (F_Mo_likely_0) (fun v σ => some (v, σ)) 26 0 (mInit 5 [(3, l0)]) [] σ = M_Mo_likely l0 σ := rfl
def C_Mo_tremble : Nat → List mV → mS → Option (Int × mS) := fun k as σ => match k, as with
  | 52, [(1, a0), (1, a1), (1, a2)] => M_Mo_lies a0 a1 a2 σ
  | 53, [(3, a0), (1, a1)] => M_Mo_refuses a0 a1 σ
  | 54, [(3, a0), (1, a1)] => M_Mo_good a0 a1 σ
  | 63, [(1, a0)] => M_Mo_isAngle a0 σ
  | 116, [(3, a0), (1, a1), (1, a2), (1, a3), (1, a4), (1, a5), (1, a6)] => M_Mo_goes a0 a1 a2 a3 a4 a5 a6 σ
  | 117, [(3, a0), (1, a1)] => M_Mo_goesNow a0 a1 σ
  | _, _ => none
def K_Mo_tremble : Nat → Bool := fun i => i.beq 41
def F_Mo_tremble_41 : Nat → List mV → List mV → mS → Option (((Int × Int × mS) ⊕ (Int × mS))) := fun i L st σ => match i, L, st with
  | 41, [(3, l0), _, (1, l2), (1, l3), (1, l4), (1, l5), (1, l6), (1, l7), (1, l8)], [] => some (.inl (l7, l8, σ))
  | _, _, _ => none
def B_Mo_tremble_41 (l0 l2 l3 l4 l5 l6 l7 l8 : Int) (σ : mS) : Option (((Int × Int × mS) ⊕ (Int × mS))) :=
  if l8 < l4 then 
    (gf 11 3 l0 σ).bind fun v1 =>
    (ld 100 v1 180 σ).bind fun v2 =>
    (gf 11 3 l0 σ).bind fun v3 =>
    (ld 100 v3 181 σ).bind fun v4 =>
    (gf 11 3 l0 σ).bind fun v5 =>
    (ld 100 v5 183 σ).bind fun v6 =>
    (gk 11 l0 σ).bind fun _ => (M_Mo_goes l0 l2 v2 v4 v6 1 l3 σ).bind fun p7 =>
    (gf 11 41 l0 p7.2).bind fun v8 =>
    (gf 11 27 l0 p7.2).bind fun v9 =>
    (sd 100 v8 l8 v9 p7.2).bind fun σ =>
    (gf 11 42 l0 σ).bind fun v10 =>
    (gf 11 28 l0 σ).bind fun v11 =>
    (sd 100 v10 l8 v11 σ).bind fun σ =>
    (gf 11 27 l0 σ).bind fun v12 =>
    if v12 = l5 then 
      (gf 11 29 l0 σ).bind fun v13 =>
      if v13 = l6 then 
        some (.inl (w32 (l7 + 1), w32 (l8 + 1), σ))
      else
        some (.inl (w32 (l7 + 0), w32 (l8 + 1), σ))
    else
      some (.inl (w32 (l7 + 0), w32 (l8 + 1), σ))
  else
    (gk 11 l0 σ).bind fun _ => (M_Mo_good l0 l7 σ).bind fun p14 =>
    some (.inr (p14.1, p14.2))
set_option maxRecDepth 100000 in
theorem E_Mo_tremble_41 (l0 l2 l3 l4 l5 l6 l7 l8 : Int) (σ : mS) : mblk c_Mo_tremble K_Mo_tremble (C_Mo_tremble) (F_Mo_tremble_41) (fun v σ => some (.inr (v, σ))) 94 41 ([(3, l0), (0, 0), (1, l2), (1, l3), (1, l4), (1, l5), (1, l6), (1, l7), (1, l8)]) [] σ = B_Mo_tremble_41 l0 l2 l3 l4 l5 l6 l7 l8 σ := rfl
def M_Mo_tremble_41 (l0 l2 l3 l4 l5 l6 l7 l8 : Int) (σ : mS) : Option (Int × mS) := miter (fun s : Int × Int × mS => B_Mo_tremble_41 l0 l2 l3 l4 l5 l6 s.1 s.2.1 s.2.2) mN (l7, l8, σ)
def F_Mo_tremble_0 : Nat → List mV → List mV → mS → Option (Int × mS) := fun i L st σ => match i, L, st with
  | 41, [(3, l0), _, (1, l2), (1, l3), (1, l4), (1, l5), (1, l6), (1, l7), (1, l8)], [] => M_Mo_tremble_41 l0 l2 l3 l4 l5 l6 l7 l8 σ
  | _, _, _ => none
def M_Mo_tremble (l0 l1 l2 l3 l4 : Int) (σ : mS) : Option (Int × mS) :=
  (M_Mo_lies l1 0 1000000 σ).bind fun p1 =>
  if p1.1 = 0 then 
    (gk 11 l0 p1.2).bind fun _ => (M_Mo_refuses l0 (-1) p1.2).bind fun p2 =>
    some (p2.1, p2.2)
  else
    (M_Mo_isAngle l2 p1.2).bind fun p3 =>
    if p3.1 = 0 then 
      (gk 11 l0 p3.2).bind fun _ => (M_Mo_refuses l0 (-1) p3.2).bind fun p4 =>
      some (p4.1, p4.2)
    else
      (M_Mo_lies l3 0 50 p3.2).bind fun p5 =>
      if p5.1 = 0 then 
        (gk 11 l0 p5.2).bind fun _ => (M_Mo_refuses l0 (-1) p5.2).bind fun p6 =>
        some (p6.1, p6.2)
      else
        (M_Mo_lies l4 1 40 p5.2).bind fun p7 =>
        if p7.1 = 0 then 
          (gk 11 l0 p7.2).bind fun _ => (M_Mo_refuses l0 (-1) p7.2).bind fun p8 =>
          some (p8.1, p8.2)
        else
          (gk 11 l0 p7.2).bind fun _ => (M_Mo_goesNow l0 l2 p7.2).bind fun p9 =>
          (gf 11 27 l0 p9.2).bind fun v10 =>
          (gf 11 29 l0 p9.2).bind fun v11 =>
          (pf 11 34 l0 l1 p9.2).bind fun σ =>
          (pf 11 43 l0 l4 σ).bind fun σ =>
          M_Mo_tremble_41 l0 l2 l3 l4 v10 v11 0 0 σ
set_option maxRecDepth 100000 in
theorem E_Mo_tremble_0 (l0 l1 l2 l3 l4 : Int) (σ : mS) : mblk c_Mo_tremble K_Mo_tremble (C_Mo_tremble) (F_Mo_tremble_0) (fun v σ => some (v, σ)) 94 0 (mInit 9 [(3, l0), (1, l1), (1, l2), (1, l3), (1, l4)]) [] σ = M_Mo_tremble l0 l1 l2 l3 l4 σ := rfl
def C_Mo_trembled : Nat → List mV → mS → Option (Int × mS) := fun k as σ => match k, as with
  | 52, [(1, a0), (1, a1), (1, a2)] => M_Mo_lies a0 a1 a2 σ
  | _, _ => none
def K_Mo_trembled : Nat → Bool := fun i => false
def F_Mo_trembled_0 : Nat → List mV → List mV → mS → Option (Int × mS) := fun i L st σ => match i, L, st with
  | _, _, _ => none
def M_Mo_trembled (l0 l1 l2 : Int) (σ : mS) : Option (Int × mS) :=
  (gf 11 43 l0 σ).bind fun v1 =>
  (M_Mo_lies l1 0 (w32 (v1 - 1)) σ).bind fun p2 =>
  if p2.1 = 0 then 
    some ((-1), p2.2)
  else
    (M_Mo_lies l2 0 1 p2.2).bind fun p3 =>
    if p3.1 = 0 then 
      some ((-1), p3.2)
    else
      if l2 = 0 then 
        (gf 11 41 l0 p3.2).bind fun v4 =>
        (ld 100 v4 l1 p3.2).bind fun v5 =>
        some (v5, p3.2)
      else
        (gf 11 42 l0 p3.2).bind fun v6 =>
        (ld 100 v6 l1 p3.2).bind fun v7 =>
        some (v7, p3.2)
set_option maxRecDepth 100000 in
theorem E_Mo_trembled_0 (l0 l1 l2 : Int) (σ : mS) : mblk c_Mo_trembled K_Mo_trembled (C_Mo_trembled) (F_Mo_trembled_0) (fun v σ => some (v, σ)) 28 0 (mInit 3 [(3, l0), (1, l1), (1, l2)]) [] σ = M_Mo_trembled l0 l1 l2 σ := rfl
def C_Mo_count : Nat → List mV → mS → Option (Int × mS) := fun k as σ => match k, as with
  | 65, [(3, a0), (1, a1)] => M_Mo_riseOf a0 a1 σ
  | _, _ => none
def K_Mo_count : Nat → Bool := fun i => i.beq 4
def F_Mo_count_4 : Nat → List mV → List mV → mS → Option (((Int × Int × mS) ⊕ (Int × mS))) := fun i L st σ => match i, L, st with
  | 4, [(3, l0), (1, l1), (1, l2), (1, l3)], [] => some (.inl (l2, l3, σ))
  | _, _, _ => none
def B_Mo_count_4 (l0 l1 l2 l3 : Int) (σ : mS) : Option (((Int × Int × mS) ⊕ (Int × mS))) :=
  if l3 < 64 then 
    (gk 11 l0 σ).bind fun _ => (M_Mo_riseOf l0 l3 σ).bind fun p1 =>
    if 0 < p1.1 then 
      some (.inl (w32 (l2 + 1), w32 (l3 + 1), p1.2))
    else
      some (.inl (w32 (l2 + 0), w32 (l3 + 1), p1.2))
  else
    if l1 = 0 then
      (gf 11 3 l0 σ).bind fun v2 =>
      (ld 100 v2 184 σ).bind fun v3 =>
      some (.inr (v3, σ))
    else if l1 = 1 then
      (gf 11 3 l0 σ).bind fun v4 =>
      (ld 100 v4 186 σ).bind fun v5 =>
      some (.inr (v5, σ))
    else if l1 = 2 then
      (gf 11 3 l0 σ).bind fun v6 =>
      (ld 100 v6 185 σ).bind fun v7 =>
      some (.inr (v7, σ))
    else if l1 = 3 then
      some (.inr (l2, σ))
    else if l1 = 4 then
      (gf 11 10 l0 σ).bind fun v8 =>
      some (.inr (v8, σ))
    else if l1 = 5 then
      (gf 11 2 l0 σ).bind fun v9 =>
      (ld 100 v9 (w32 (l1 - 4)) σ).bind fun v10 =>
      some (.inr (v10, σ))
    else if l1 = 6 then
      (gf 11 2 l0 σ).bind fun v11 =>
      (ld 100 v11 (w32 (l1 - 4)) σ).bind fun v12 =>
      some (.inr (v12, σ))
    else if l1 = 7 then
      (gf 11 2 l0 σ).bind fun v13 =>
      (ld 100 v13 (w32 (l1 - 4)) σ).bind fun v14 =>
      some (.inr (v14, σ))
    else if l1 = 8 then
      (gf 11 2 l0 σ).bind fun v15 =>
      (ld 100 v15 5 σ).bind fun v16 =>
      some (.inr (v16, σ))
    else if l1 = 9 then
      (gf 11 2 l0 σ).bind fun v17 =>
      (ld 100 v17 6 σ).bind fun v18 =>
      some (.inr (v18, σ))
    else if l1 = 10 then
      (gf 11 3 l0 σ).bind fun v19 =>
      (ld 100 v19 187 σ).bind fun v20 =>
      some (.inr (v20, σ))
    else if l1 = 11 then
      (gf 11 3 l0 σ).bind fun v21 =>
      (ld 100 v21 (w32 ((w32 (180 + l1)) - 11)) σ).bind fun v22 =>
      some (.inr (v22, σ))
    else if l1 = 12 then
      (gf 11 3 l0 σ).bind fun v23 =>
      (ld 100 v23 (w32 ((w32 (180 + l1)) - 11)) σ).bind fun v24 =>
      some (.inr (v24, σ))
    else if l1 = 13 then
      (gf 11 3 l0 σ).bind fun v25 =>
      (ld 100 v25 (w32 ((w32 (180 + l1)) - 11)) σ).bind fun v26 =>
      some (.inr (v26, σ))
    else if l1 = 14 then
      (gf 11 3 l0 σ).bind fun v27 =>
      (ld 100 v27 (w32 ((w32 (180 + l1)) - 11)) σ).bind fun v28 =>
      some (.inr (v28, σ))
    else 
      some (.inr ((-1), σ))
set_option maxRecDepth 100000 in
theorem E_Mo_count_4 (l0 l1 l2 l3 : Int) (σ : mS) : mblk c_Mo_count K_Mo_count (C_Mo_count) (F_Mo_count_4) (fun v σ => some (.inr (v, σ))) 75 4 ([(3, l0), (1, l1), (1, l2), (1, l3)]) [] σ = B_Mo_count_4 l0 l1 l2 l3 σ := rfl
def M_Mo_count_4 (l0 l1 l2 l3 : Int) (σ : mS) : Option (Int × mS) := miter (fun s : Int × Int × mS => B_Mo_count_4 l0 l1 s.1 s.2.1 s.2.2) mN (l2, l3, σ)
def F_Mo_count_0 : Nat → List mV → List mV → mS → Option (Int × mS) := fun i L st σ => match i, L, st with
  | 4, [(3, l0), (1, l1), (1, l2), (1, l3)], [] => M_Mo_count_4 l0 l1 l2 l3 σ
  | _, _, _ => none
def M_Mo_count (l0 l1 : Int) (σ : mS) : Option (Int × mS) :=
  M_Mo_count_4 l0 l1 0 0 σ
set_option maxRecDepth 100000 in
theorem E_Mo_count_0 (l0 l1 : Int) (σ : mS) : mblk c_Mo_count K_Mo_count (C_Mo_count) (F_Mo_count_0) (fun v σ => some (v, σ)) 75 0 (mInit 4 [(3, l0), (1, l1)]) [] σ = M_Mo_count l0 l1 σ := rfl
def C_Mo_status : Nat → List mV → mS → Option (Int × mS) := fun k as σ => match k, as with
  | _, _ => none
def K_Mo_status : Nat → Bool := fun i => false
def F_Mo_status_0 : Nat → List mV → List mV → mS → Option (Int × mS) := fun i L st σ => match i, L, st with
  | _, _, _ => none
def M_Mo_status (l0 : Int) (σ : mS) : Option (Int × mS) :=
  (gf 11 0 l0 σ).bind fun v1 =>
  some (v1, σ)
set_option maxRecDepth 100000 in
theorem E_Mo_status_0 (l0 : Int) (σ : mS) : mblk c_Mo_status K_Mo_status (C_Mo_status) (F_Mo_status_0) (fun v σ => some (v, σ)) 4 0 (mInit 1 [(3, l0)]) [] σ = M_Mo_status l0 σ := rfl
def C_LAW_law : Nat → List mV → mS → Option (Int × mS) := fun k as σ => match k, as with
  | 0, [(3, a0)] => M_RW_init a0 σ
  | 1, [(3, a0), (1, a1), (1, a2)] => M_RW_rise a0 a1 a2 σ
  | 2, [(3, a0), (1, a1), (1, a2), (1, a3)] => M_RW_ground a0 a1 a2 a3 σ
  | 3, [(3, a0), (1, a1), (1, a2)] => M_RW_thing a0 a1 a2 σ
  | 4, [(3, a0), (1, a1), (1, a2)] => M_RW_move a0 a1 a2 σ
  | 5, [(3, a0), (1, a1), (1, a2)] => M_RW_of a0 a1 a2 σ
  | 6, [(3, a0), (1, a1), (1, a2)] => M_RW_terms a0 a1 a2 σ
  | 7, [(3, a0), (1, a1), (1, a2), (1, a3), (1, a4), (1, a5)] => M_RW_feed a0 a1 a2 a3 a4 a5 σ
  | 8, [(3, a0), (1, a1)] => M_RW_end a0 a1 σ
  | 9, [(3, a0)] => M_RW_row a0 σ
  | 10, [(3, a0)] => M_RW_worn a0 σ
  | 11, [(3, a0)] => M_RW_law a0 σ
  | 12, [(3, a0)] => M_RW_fault a0 σ
  | 13, [(3, a0), (1, a1)] => M_RW_force a0 a1 σ
  | 14, [(3, a0), (1, a1), (1, a2), (1, a3)] => M_RW_warm a0 a1 a2 a3 σ
  | 15, [(3, a0), (1, a1), (1, a2)] => M_RW_ray a0 a1 a2 σ
  | 16, [(3, a0), (1, a1), (1, a2)] => M_RW_at a0 a1 a2 σ
  | 17, [(3, a0), (1, a1)] => M_RW_seen a0 a1 σ
  | 18, [(3, a0), (1, a1)] => M_RW_pictures a0 a1 σ
  | 19, [(3, a0), (1, a1), (1, a2), (1, a3)] => M_RW_picture a0 a1 a2 a3 σ
  | 20, [(3, a0), (1, a1)] => M_RW_hidden a0 a1 σ
  | 21, [(3, a0), (1, a1)] => M_RW_water a0 a1 σ
  | 22, [(3, a0)] => M_RW_horizon a0 σ
  | 23, [(3, a0), (1, a1), (1, a2)] => M_RW_aim a0 a1 a2 σ
  | 24, [(3, a0), (1, a1), (1, a2)] => M_RW_loom a0 a1 a2 σ
  | 25, [(3, a0), (1, a1)] => M_RW_shade a0 a1 σ
  | 26, [(3, a0), (1, a1), (1, a2)] => M_RW_cross a0 a1 a2 σ
  | 27, [(3, a0), (1, a1)] => M_RW_hours a0 a1 σ
  | 28, [(3, a0), (1, a1), (1, a2)] => M_RW_mark a0 a1 a2 σ
  | 29, [(3, a0), (1, a1)] => M_RW_level a0 a1 σ
  | 30, [(3, a0), (1, a1)] => M_RW_best a0 a1 σ
  | 31, [(3, a0), (1, a1), (1, a2)] => M_RW_eyes a0 a1 a2 σ
  | 32, [(3, a0), (1, a1), (1, a2)] => M_RW_where a0 a1 a2 σ
  | 33, [(3, a0), (1, a1), (1, a2), (1, a3)] => M_RW_sight a0 a1 a2 a3 σ
  | 34, [(3, a0), (1, a1)] => M_RW_drop a0 a1 σ
  | 35, [(3, a0), (1, a1)] => M_RW_wrong a0 a1 σ
  | 36, [(3, a0)] => M_RW_fits a0 σ
  | 37, [(3, a0)] => M_RW_likely a0 σ
  | 38, [(3, a0), (1, a1), (1, a2), (1, a3), (1, a4)] => M_RW_tremble a0 a1 a2 a3 a4 σ
  | 39, [(3, a0), (1, a1), (1, a2)] => M_RW_trembled a0 a1 a2 σ
  | 40, [(3, a0), (1, a1)] => M_RW_image a0 a1 σ
  | 41, [(3, a0), (1, a1)] => M_RW_back a0 a1 σ
  | 42, [(3, a0), (1, a1)] => M_RW_count a0 a1 σ
  | 43, [(3, a0)] => M_RW_status a0 σ
  | 57, [(3, a0)] => M_Mo_init a0 σ
  | 58, [(3, a0), (1, a1)] => M_Mo_image a0 a1 σ
  | 59, [(3, a0), (1, a1)] => M_Mo_back a0 a1 σ
  | 67, [(3, a0), (1, a1), (1, a2)] => M_Mo_rise a0 a1 a2 σ
  | 68, [(3, a0), (1, a1), (1, a2), (1, a3)] => M_Mo_ground a0 a1 a2 a3 σ
  | 69, [(3, a0), (1, a1), (1, a2)] => M_Mo_thing a0 a1 a2 σ
  | 70, [(3, a0), (1, a1), (1, a2)] => M_Mo_move a0 a1 a2 σ
  | 72, [(3, a0), (1, a1), (1, a2)] => M_Mo_of a0 a1 a2 σ
  | 73, [(3, a0), (1, a1), (1, a2)] => M_Mo_terms a0 a1 a2 σ
  | 74, [(3, a0)] => M_Mo_row a0 σ
  | 75, [(3, a0)] => M_Mo_worn a0 σ
  | 76, [(3, a0), (1, a1), (1, a2), (1, a3), (1, a4), (1, a5)] => M_Mo_feed a0 a1 a2 a3 a4 a5 σ
  | 77, [(3, a0), (1, a1)] => M_Mo_end a0 a1 σ
  | 96, [(3, a0)] => M_Mo_law a0 σ
  | 97, [(3, a0)] => M_Mo_fault a0 σ
  | 98, [(3, a0), (1, a1)] => M_Mo_force a0 a1 σ
  | 111, [(3, a0), (1, a1), (1, a2), (1, a3)] => M_Mo_warm a0 a1 a2 a3 σ
  | 118, [(3, a0), (1, a1), (1, a2)] => M_Mo_ray a0 a1 a2 σ
  | 119, [(3, a0), (1, a1), (1, a2)] => M_Mo_at a0 a1 a2 σ
  | 125, [(3, a0), (1, a1)] => M_Mo_seen a0 a1 σ
  | 126, [(3, a0), (1, a1)] => M_Mo_pictures a0 a1 σ
  | 127, [(3, a0), (1, a1), (1, a2), (1, a3)] => M_Mo_picture a0 a1 a2 a3 σ
  | 128, [(3, a0), (1, a1)] => M_Mo_hidden a0 a1 σ
  | 129, [(3, a0), (1, a1)] => M_Mo_water a0 a1 σ
  | 130, [(3, a0)] => M_Mo_horizon a0 σ
  | 132, [(3, a0), (1, a1), (1, a2)] => M_Mo_aim a0 a1 a2 σ
  | 133, [(3, a0), (1, a1), (1, a2)] => M_Mo_loom a0 a1 a2 σ
  | 134, [(3, a0), (1, a1)] => M_Mo_shade a0 a1 σ
  | 135, [(3, a0), (1, a1), (1, a2)] => M_Mo_cross a0 a1 a2 σ
  | 136, [(3, a0), (1, a1)] => M_Mo_hours a0 a1 σ
  | 138, [(3, a0), (1, a1), (1, a2)] => M_Mo_mark a0 a1 a2 σ
  | 141, [(3, a0), (1, a1)] => M_Mo_level a0 a1 σ
  | 142, [(3, a0), (1, a1)] => M_Mo_best a0 a1 σ
  | 143, [(3, a0), (1, a1), (1, a2)] => M_Mo_eyes a0 a1 a2 σ
  | 144, [(3, a0), (1, a1), (1, a2)] => M_Mo_where a0 a1 a2 σ
  | 145, [(3, a0), (1, a1), (1, a2), (1, a3)] => M_Mo_sight a0 a1 a2 a3 σ
  | 146, [(3, a0), (1, a1)] => M_Mo_drop a0 a1 σ
  | 148, [(3, a0), (1, a1)] => M_Mo_wrong a0 a1 σ
  | 149, [(3, a0)] => M_Mo_fits a0 σ
  | 150, [(3, a0)] => M_Mo_likely a0 σ
  | 151, [(3, a0), (1, a1), (1, a2), (1, a3), (1, a4)] => M_Mo_tremble a0 a1 a2 a3 a4 σ
  | 152, [(3, a0), (1, a1), (1, a2)] => M_Mo_trembled a0 a1 a2 σ
  | 153, [(3, a0), (1, a1)] => M_Mo_count a0 a1 σ
  | 154, [(3, a0)] => M_Mo_status a0 σ
  | _, _ => none
def K_LAW_law : Nat → Bool := fun i => i.beq 10
def F_LAW_law_10 : Nat → List mV → List mV → mS → Option (((Int × mS) ⊕ (Int × mS))) := fun i L st σ => match i, L, st with
  | 10, [(3, l0), (3, l1), (3, l2), (1, l3)], [] => some (.inl (l3, σ))
  | _, _, _ => none
def B_LAW_law_10 (l0 l1 l2 l3 : Int) (σ : mS) : Option (((Int × mS) ⊕ (Int × mS))) :=
  (ln l0 σ).bind fun v1 =>
  if (w32 (v1 - 6)) < l3 then 
    if 1 = 0 ∨ 1 = 1 then some (.inr (1, σ)) else none
  else
    (ld 100 l0 l3 σ).bind fun v2 =>
    if (iand v2 63) = 0 then
      (ld 100 l0 (w32 (l3 + 1)) σ).bind fun v3 =>
      (ld 100 l0 (w32 (l3 + 2)) σ).bind fun v4 =>
      (gk 10 l1 σ).bind fun _ => (M_RW_rise l1 v3 v4 σ).bind fun p5 =>
      (ld 100 l0 (w32 (l3 + 1)) p5.2).bind fun v6 =>
      (ld 100 l0 (w32 (l3 + 2)) p5.2).bind fun v7 =>
      (gk 11 l2 p5.2).bind fun _ => (M_Mo_rise l2 v6 v7 p5.2).bind fun p8 =>
      if p5.1 = p8.1 then 
        some (.inl (w32 (l3 + 6), p8.2))
      else
        if 0 = 0 ∨ 0 = 1 then some (.inr (0, p8.2)) else none
    else if (iand v2 63) = 1 then
      (ld 100 l0 (w32 (l3 + 1)) σ).bind fun v9 =>
      (ld 100 l0 (w32 (l3 + 2)) σ).bind fun v10 =>
      (ld 100 l0 (w32 (l3 + 3)) σ).bind fun v11 =>
      (gk 10 l1 σ).bind fun _ => (M_RW_ground l1 v9 v10 v11 σ).bind fun p12 =>
      (ld 100 l0 (w32 (l3 + 1)) p12.2).bind fun v13 =>
      (ld 100 l0 (w32 (l3 + 2)) p12.2).bind fun v14 =>
      (ld 100 l0 (w32 (l3 + 3)) p12.2).bind fun v15 =>
      (gk 11 l2 p12.2).bind fun _ => (M_Mo_ground l2 v13 v14 v15 p12.2).bind fun p16 =>
      if p12.1 = p16.1 then 
        some (.inl (w32 (l3 + 6), p16.2))
      else
        if 0 = 0 ∨ 0 = 1 then some (.inr (0, p16.2)) else none
    else if (iand v2 63) = 2 then
      (ld 100 l0 (w32 (l3 + 1)) σ).bind fun v17 =>
      (ld 100 l0 (w32 (l3 + 2)) σ).bind fun v18 =>
      (gk 10 l1 σ).bind fun _ => (M_RW_thing l1 v17 v18 σ).bind fun p19 =>
      (ld 100 l0 (w32 (l3 + 1)) p19.2).bind fun v20 =>
      (ld 100 l0 (w32 (l3 + 2)) p19.2).bind fun v21 =>
      (gk 11 l2 p19.2).bind fun _ => (M_Mo_thing l2 v20 v21 p19.2).bind fun p22 =>
      if p19.1 = p22.1 then 
        some (.inl (w32 (l3 + 6), p22.2))
      else
        if 0 = 0 ∨ 0 = 1 then some (.inr (0, p22.2)) else none
    else if (iand v2 63) = 3 then
      (ld 100 l0 (w32 (l3 + 1)) σ).bind fun v23 =>
      (ld 100 l0 (w32 (l3 + 2)) σ).bind fun v24 =>
      (gk 10 l1 σ).bind fun _ => (M_RW_move l1 v23 v24 σ).bind fun p25 =>
      (ld 100 l0 (w32 (l3 + 1)) p25.2).bind fun v26 =>
      (ld 100 l0 (w32 (l3 + 2)) p25.2).bind fun v27 =>
      (gk 11 l2 p25.2).bind fun _ => (M_Mo_move l2 v26 v27 p25.2).bind fun p28 =>
      if p25.1 = p28.1 then 
        some (.inl (w32 (l3 + 6), p28.2))
      else
        if 0 = 0 ∨ 0 = 1 then some (.inr (0, p28.2)) else none
    else if (iand v2 63) = 4 then
      (ld 100 l0 (w32 (l3 + 1)) σ).bind fun v29 =>
      (ld 100 l0 (w32 (l3 + 2)) σ).bind fun v30 =>
      (gk 10 l1 σ).bind fun _ => (M_RW_of l1 v29 v30 σ).bind fun p31 =>
      (ld 100 l0 (w32 (l3 + 1)) p31.2).bind fun v32 =>
      (ld 100 l0 (w32 (l3 + 2)) p31.2).bind fun v33 =>
      (gk 11 l2 p31.2).bind fun _ => (M_Mo_of l2 v32 v33 p31.2).bind fun p34 =>
      if p31.1 = p34.1 then 
        some (.inl (w32 (l3 + 6), p34.2))
      else
        if 0 = 0 ∨ 0 = 1 then some (.inr (0, p34.2)) else none
    else if (iand v2 63) = 5 then
      (ld 100 l0 (w32 (l3 + 1)) σ).bind fun v35 =>
      (ld 100 l0 (w32 (l3 + 2)) σ).bind fun v36 =>
      (gk 10 l1 σ).bind fun _ => (M_RW_terms l1 v35 v36 σ).bind fun p37 =>
      (ld 100 l0 (w32 (l3 + 1)) p37.2).bind fun v38 =>
      (ld 100 l0 (w32 (l3 + 2)) p37.2).bind fun v39 =>
      (gk 11 l2 p37.2).bind fun _ => (M_Mo_terms l2 v38 v39 p37.2).bind fun p40 =>
      if p37.1 = p40.1 then 
        some (.inl (w32 (l3 + 6), p40.2))
      else
        if 0 = 0 ∨ 0 = 1 then some (.inr (0, p40.2)) else none
    else if (iand v2 63) = 6 then
      (ld 100 l0 (w32 (l3 + 1)) σ).bind fun v41 =>
      (ld 100 l0 (w32 (l3 + 2)) σ).bind fun v42 =>
      (ld 100 l0 (w32 (l3 + 3)) σ).bind fun v43 =>
      (ld 100 l0 (w32 (l3 + 4)) σ).bind fun v44 =>
      (ld 100 l0 (w32 (l3 + 5)) σ).bind fun v45 =>
      (gk 10 l1 σ).bind fun _ => (M_RW_feed l1 v41 v42 v43 v44 v45 σ).bind fun p46 =>
      (ld 100 l0 (w32 (l3 + 1)) p46.2).bind fun v47 =>
      (ld 100 l0 (w32 (l3 + 2)) p46.2).bind fun v48 =>
      (ld 100 l0 (w32 (l3 + 3)) p46.2).bind fun v49 =>
      (ld 100 l0 (w32 (l3 + 4)) p46.2).bind fun v50 =>
      (ld 100 l0 (w32 (l3 + 5)) p46.2).bind fun v51 =>
      (gk 11 l2 p46.2).bind fun _ => (M_Mo_feed l2 v47 v48 v49 v50 v51 p46.2).bind fun p52 =>
      if p46.1 = p52.1 then 
        some (.inl (w32 (l3 + 6), p52.2))
      else
        if 0 = 0 ∨ 0 = 1 then some (.inr (0, p52.2)) else none
    else if (iand v2 63) = 7 then
      (ld 100 l0 (w32 (l3 + 1)) σ).bind fun v53 =>
      (gk 10 l1 σ).bind fun _ => (M_RW_end l1 v53 σ).bind fun p54 =>
      (ld 100 l0 (w32 (l3 + 1)) p54.2).bind fun v55 =>
      (gk 11 l2 p54.2).bind fun _ => (M_Mo_end l2 v55 p54.2).bind fun p56 =>
      if p54.1 = p56.1 then 
        some (.inl (w32 (l3 + 6), p56.2))
      else
        if 0 = 0 ∨ 0 = 1 then some (.inr (0, p56.2)) else none
    else if (iand v2 63) = 8 then
      (gk 10 l1 σ).bind fun _ => (M_RW_row l1 σ).bind fun p57 =>
      (gk 11 l2 p57.2).bind fun _ => (M_Mo_row l2 p57.2).bind fun p58 =>
      if p57.1 = p58.1 then 
        some (.inl (w32 (l3 + 6), p58.2))
      else
        if 0 = 0 ∨ 0 = 1 then some (.inr (0, p58.2)) else none
    else if (iand v2 63) = 9 then
      (gk 10 l1 σ).bind fun _ => (M_RW_worn l1 σ).bind fun p59 =>
      (gk 11 l2 p59.2).bind fun _ => (M_Mo_worn l2 p59.2).bind fun p60 =>
      if p59.1 = p60.1 then 
        some (.inl (w32 (l3 + 6), p60.2))
      else
        if 0 = 0 ∨ 0 = 1 then some (.inr (0, p60.2)) else none
    else if (iand v2 63) = 10 then
      (gk 10 l1 σ).bind fun _ => (M_RW_law l1 σ).bind fun p61 =>
      (gk 11 l2 p61.2).bind fun _ => (M_Mo_law l2 p61.2).bind fun p62 =>
      if p61.1 = p62.1 then 
        some (.inl (w32 (l3 + 6), p62.2))
      else
        if 0 = 0 ∨ 0 = 1 then some (.inr (0, p62.2)) else none
    else if (iand v2 63) = 11 then
      (gk 10 l1 σ).bind fun _ => (M_RW_fault l1 σ).bind fun p63 =>
      (gk 11 l2 p63.2).bind fun _ => (M_Mo_fault l2 p63.2).bind fun p64 =>
      if p63.1 = p64.1 then 
        some (.inl (w32 (l3 + 6), p64.2))
      else
        if 0 = 0 ∨ 0 = 1 then some (.inr (0, p64.2)) else none
    else if (iand v2 63) = 12 then
      (ld 100 l0 (w32 (l3 + 1)) σ).bind fun v65 =>
      (gk 10 l1 σ).bind fun _ => (M_RW_force l1 v65 σ).bind fun p66 =>
      (ld 100 l0 (w32 (l3 + 1)) p66.2).bind fun v67 =>
      (gk 11 l2 p66.2).bind fun _ => (M_Mo_force l2 v67 p66.2).bind fun p68 =>
      if p66.1 = p68.1 then 
        some (.inl (w32 (l3 + 6), p68.2))
      else
        if 0 = 0 ∨ 0 = 1 then some (.inr (0, p68.2)) else none
    else if (iand v2 63) = 13 then
      (ld 100 l0 (w32 (l3 + 1)) σ).bind fun v69 =>
      (ld 100 l0 (w32 (l3 + 2)) σ).bind fun v70 =>
      (ld 100 l0 (w32 (l3 + 3)) σ).bind fun v71 =>
      (gk 10 l1 σ).bind fun _ => (M_RW_warm l1 v69 v70 v71 σ).bind fun p72 =>
      (ld 100 l0 (w32 (l3 + 1)) p72.2).bind fun v73 =>
      (ld 100 l0 (w32 (l3 + 2)) p72.2).bind fun v74 =>
      (ld 100 l0 (w32 (l3 + 3)) p72.2).bind fun v75 =>
      (gk 11 l2 p72.2).bind fun _ => (M_Mo_warm l2 v73 v74 v75 p72.2).bind fun p76 =>
      if p72.1 = p76.1 then 
        some (.inl (w32 (l3 + 6), p76.2))
      else
        if 0 = 0 ∨ 0 = 1 then some (.inr (0, p76.2)) else none
    else if (iand v2 63) = 14 then
      (ld 100 l0 (w32 (l3 + 1)) σ).bind fun v77 =>
      (ld 100 l0 (w32 (l3 + 2)) σ).bind fun v78 =>
      (gk 10 l1 σ).bind fun _ => (M_RW_ray l1 v77 v78 σ).bind fun p79 =>
      (ld 100 l0 (w32 (l3 + 1)) p79.2).bind fun v80 =>
      (ld 100 l0 (w32 (l3 + 2)) p79.2).bind fun v81 =>
      (gk 11 l2 p79.2).bind fun _ => (M_Mo_ray l2 v80 v81 p79.2).bind fun p82 =>
      if p79.1 = p82.1 then 
        some (.inl (w32 (l3 + 6), p82.2))
      else
        if 0 = 0 ∨ 0 = 1 then some (.inr (0, p82.2)) else none
    else if (iand v2 63) = 15 then
      (ld 100 l0 (w32 (l3 + 1)) σ).bind fun v83 =>
      (ld 100 l0 (w32 (l3 + 2)) σ).bind fun v84 =>
      (gk 10 l1 σ).bind fun _ => (M_RW_at l1 v83 v84 σ).bind fun p85 =>
      (ld 100 l0 (w32 (l3 + 1)) p85.2).bind fun v86 =>
      (ld 100 l0 (w32 (l3 + 2)) p85.2).bind fun v87 =>
      (gk 11 l2 p85.2).bind fun _ => (M_Mo_at l2 v86 v87 p85.2).bind fun p88 =>
      if p85.1 = p88.1 then 
        some (.inl (w32 (l3 + 6), p88.2))
      else
        if 0 = 0 ∨ 0 = 1 then some (.inr (0, p88.2)) else none
    else if (iand v2 63) = 16 then
      (ld 100 l0 (w32 (l3 + 1)) σ).bind fun v89 =>
      (gk 10 l1 σ).bind fun _ => (M_RW_seen l1 v89 σ).bind fun p90 =>
      (ld 100 l0 (w32 (l3 + 1)) p90.2).bind fun v91 =>
      (gk 11 l2 p90.2).bind fun _ => (M_Mo_seen l2 v91 p90.2).bind fun p92 =>
      if p90.1 = p92.1 then 
        some (.inl (w32 (l3 + 6), p92.2))
      else
        if 0 = 0 ∨ 0 = 1 then some (.inr (0, p92.2)) else none
    else if (iand v2 63) = 17 then
      (ld 100 l0 (w32 (l3 + 1)) σ).bind fun v93 =>
      (gk 10 l1 σ).bind fun _ => (M_RW_pictures l1 v93 σ).bind fun p94 =>
      (ld 100 l0 (w32 (l3 + 1)) p94.2).bind fun v95 =>
      (gk 11 l2 p94.2).bind fun _ => (M_Mo_pictures l2 v95 p94.2).bind fun p96 =>
      if p94.1 = p96.1 then 
        some (.inl (w32 (l3 + 6), p96.2))
      else
        if 0 = 0 ∨ 0 = 1 then some (.inr (0, p96.2)) else none
    else if (iand v2 63) = 18 then
      (ld 100 l0 (w32 (l3 + 1)) σ).bind fun v97 =>
      (ld 100 l0 (w32 (l3 + 2)) σ).bind fun v98 =>
      (ld 100 l0 (w32 (l3 + 3)) σ).bind fun v99 =>
      (gk 10 l1 σ).bind fun _ => (M_RW_picture l1 v97 v98 v99 σ).bind fun p100 =>
      (ld 100 l0 (w32 (l3 + 1)) p100.2).bind fun v101 =>
      (ld 100 l0 (w32 (l3 + 2)) p100.2).bind fun v102 =>
      (ld 100 l0 (w32 (l3 + 3)) p100.2).bind fun v103 =>
      (gk 11 l2 p100.2).bind fun _ => (M_Mo_picture l2 v101 v102 v103 p100.2).bind fun p104 =>
      if p100.1 = p104.1 then 
        some (.inl (w32 (l3 + 6), p104.2))
      else
        if 0 = 0 ∨ 0 = 1 then some (.inr (0, p104.2)) else none
    else if (iand v2 63) = 19 then
      (ld 100 l0 (w32 (l3 + 1)) σ).bind fun v105 =>
      (gk 10 l1 σ).bind fun _ => (M_RW_hidden l1 v105 σ).bind fun p106 =>
      (ld 100 l0 (w32 (l3 + 1)) p106.2).bind fun v107 =>
      (gk 11 l2 p106.2).bind fun _ => (M_Mo_hidden l2 v107 p106.2).bind fun p108 =>
      if p106.1 = p108.1 then 
        some (.inl (w32 (l3 + 6), p108.2))
      else
        if 0 = 0 ∨ 0 = 1 then some (.inr (0, p108.2)) else none
    else if (iand v2 63) = 20 then
      (ld 100 l0 (w32 (l3 + 1)) σ).bind fun v109 =>
      (gk 10 l1 σ).bind fun _ => (M_RW_water l1 v109 σ).bind fun p110 =>
      (ld 100 l0 (w32 (l3 + 1)) p110.2).bind fun v111 =>
      (gk 11 l2 p110.2).bind fun _ => (M_Mo_water l2 v111 p110.2).bind fun p112 =>
      if p110.1 = p112.1 then 
        some (.inl (w32 (l3 + 6), p112.2))
      else
        if 0 = 0 ∨ 0 = 1 then some (.inr (0, p112.2)) else none
    else if (iand v2 63) = 21 then
      (gk 10 l1 σ).bind fun _ => (M_RW_horizon l1 σ).bind fun p113 =>
      (gk 11 l2 p113.2).bind fun _ => (M_Mo_horizon l2 p113.2).bind fun p114 =>
      if p113.1 = p114.1 then 
        some (.inl (w32 (l3 + 6), p114.2))
      else
        if 0 = 0 ∨ 0 = 1 then some (.inr (0, p114.2)) else none
    else if (iand v2 63) = 22 then
      (ld 100 l0 (w32 (l3 + 1)) σ).bind fun v115 =>
      (ld 100 l0 (w32 (l3 + 2)) σ).bind fun v116 =>
      (gk 10 l1 σ).bind fun _ => (M_RW_aim l1 v115 v116 σ).bind fun p117 =>
      (ld 100 l0 (w32 (l3 + 1)) p117.2).bind fun v118 =>
      (ld 100 l0 (w32 (l3 + 2)) p117.2).bind fun v119 =>
      (gk 11 l2 p117.2).bind fun _ => (M_Mo_aim l2 v118 v119 p117.2).bind fun p120 =>
      if p117.1 = p120.1 then 
        some (.inl (w32 (l3 + 6), p120.2))
      else
        if 0 = 0 ∨ 0 = 1 then some (.inr (0, p120.2)) else none
    else if (iand v2 63) = 23 then
      (ld 100 l0 (w32 (l3 + 1)) σ).bind fun v121 =>
      (ld 100 l0 (w32 (l3 + 2)) σ).bind fun v122 =>
      (gk 10 l1 σ).bind fun _ => (M_RW_loom l1 v121 v122 σ).bind fun p123 =>
      (ld 100 l0 (w32 (l3 + 1)) p123.2).bind fun v124 =>
      (ld 100 l0 (w32 (l3 + 2)) p123.2).bind fun v125 =>
      (gk 11 l2 p123.2).bind fun _ => (M_Mo_loom l2 v124 v125 p123.2).bind fun p126 =>
      if p123.1 = p126.1 then 
        some (.inl (w32 (l3 + 6), p126.2))
      else
        if 0 = 0 ∨ 0 = 1 then some (.inr (0, p126.2)) else none
    else if (iand v2 63) = 24 then
      (ld 100 l0 (w32 (l3 + 1)) σ).bind fun v127 =>
      (gk 10 l1 σ).bind fun _ => (M_RW_shade l1 v127 σ).bind fun p128 =>
      (ld 100 l0 (w32 (l3 + 1)) p128.2).bind fun v129 =>
      (gk 11 l2 p128.2).bind fun _ => (M_Mo_shade l2 v129 p128.2).bind fun p130 =>
      if p128.1 = p130.1 then 
        some (.inl (w32 (l3 + 6), p130.2))
      else
        if 0 = 0 ∨ 0 = 1 then some (.inr (0, p130.2)) else none
    else if (iand v2 63) = 25 then
      (ld 100 l0 (w32 (l3 + 1)) σ).bind fun v131 =>
      (ld 100 l0 (w32 (l3 + 2)) σ).bind fun v132 =>
      (gk 10 l1 σ).bind fun _ => (M_RW_cross l1 v131 v132 σ).bind fun p133 =>
      (ld 100 l0 (w32 (l3 + 1)) p133.2).bind fun v134 =>
      (ld 100 l0 (w32 (l3 + 2)) p133.2).bind fun v135 =>
      (gk 11 l2 p133.2).bind fun _ => (M_Mo_cross l2 v134 v135 p133.2).bind fun p136 =>
      if p133.1 = p136.1 then 
        some (.inl (w32 (l3 + 6), p136.2))
      else
        if 0 = 0 ∨ 0 = 1 then some (.inr (0, p136.2)) else none
    else if (iand v2 63) = 26 then
      (ld 100 l0 (w32 (l3 + 1)) σ).bind fun v137 =>
      (gk 10 l1 σ).bind fun _ => (M_RW_hours l1 v137 σ).bind fun p138 =>
      (ld 100 l0 (w32 (l3 + 1)) p138.2).bind fun v139 =>
      (gk 11 l2 p138.2).bind fun _ => (M_Mo_hours l2 v139 p138.2).bind fun p140 =>
      if p138.1 = p140.1 then 
        some (.inl (w32 (l3 + 6), p140.2))
      else
        if 0 = 0 ∨ 0 = 1 then some (.inr (0, p140.2)) else none
    else if (iand v2 63) = 27 then
      (ld 100 l0 (w32 (l3 + 1)) σ).bind fun v141 =>
      (ld 100 l0 (w32 (l3 + 2)) σ).bind fun v142 =>
      (gk 10 l1 σ).bind fun _ => (M_RW_mark l1 v141 v142 σ).bind fun p143 =>
      (ld 100 l0 (w32 (l3 + 1)) p143.2).bind fun v144 =>
      (ld 100 l0 (w32 (l3 + 2)) p143.2).bind fun v145 =>
      (gk 11 l2 p143.2).bind fun _ => (M_Mo_mark l2 v144 v145 p143.2).bind fun p146 =>
      if p143.1 = p146.1 then 
        some (.inl (w32 (l3 + 6), p146.2))
      else
        if 0 = 0 ∨ 0 = 1 then some (.inr (0, p146.2)) else none
    else if (iand v2 63) = 28 then
      (ld 100 l0 (w32 (l3 + 1)) σ).bind fun v147 =>
      (gk 10 l1 σ).bind fun _ => (M_RW_level l1 v147 σ).bind fun p148 =>
      (ld 100 l0 (w32 (l3 + 1)) p148.2).bind fun v149 =>
      (gk 11 l2 p148.2).bind fun _ => (M_Mo_level l2 v149 p148.2).bind fun p150 =>
      if p148.1 = p150.1 then 
        some (.inl (w32 (l3 + 6), p150.2))
      else
        if 0 = 0 ∨ 0 = 1 then some (.inr (0, p150.2)) else none
    else if (iand v2 63) = 29 then
      (ld 100 l0 (w32 (l3 + 1)) σ).bind fun v151 =>
      (gk 10 l1 σ).bind fun _ => (M_RW_best l1 v151 σ).bind fun p152 =>
      (ld 100 l0 (w32 (l3 + 1)) p152.2).bind fun v153 =>
      (gk 11 l2 p152.2).bind fun _ => (M_Mo_best l2 v153 p152.2).bind fun p154 =>
      if p152.1 = p154.1 then 
        some (.inl (w32 (l3 + 6), p154.2))
      else
        if 0 = 0 ∨ 0 = 1 then some (.inr (0, p154.2)) else none
    else if (iand v2 63) = 30 then
      (ld 100 l0 (w32 (l3 + 1)) σ).bind fun v155 =>
      (ld 100 l0 (w32 (l3 + 2)) σ).bind fun v156 =>
      (gk 10 l1 σ).bind fun _ => (M_RW_eyes l1 v155 v156 σ).bind fun p157 =>
      (ld 100 l0 (w32 (l3 + 1)) p157.2).bind fun v158 =>
      (ld 100 l0 (w32 (l3 + 2)) p157.2).bind fun v159 =>
      (gk 11 l2 p157.2).bind fun _ => (M_Mo_eyes l2 v158 v159 p157.2).bind fun p160 =>
      if p157.1 = p160.1 then 
        some (.inl (w32 (l3 + 6), p160.2))
      else
        if 0 = 0 ∨ 0 = 1 then some (.inr (0, p160.2)) else none
    else if (iand v2 63) = 31 then
      (ld 100 l0 (w32 (l3 + 1)) σ).bind fun v161 =>
      (ld 100 l0 (w32 (l3 + 2)) σ).bind fun v162 =>
      (gk 10 l1 σ).bind fun _ => (M_RW_where l1 v161 v162 σ).bind fun p163 =>
      (ld 100 l0 (w32 (l3 + 1)) p163.2).bind fun v164 =>
      (ld 100 l0 (w32 (l3 + 2)) p163.2).bind fun v165 =>
      (gk 11 l2 p163.2).bind fun _ => (M_Mo_where l2 v164 v165 p163.2).bind fun p166 =>
      if p163.1 = p166.1 then 
        some (.inl (w32 (l3 + 6), p166.2))
      else
        if 0 = 0 ∨ 0 = 1 then some (.inr (0, p166.2)) else none
    else if (iand v2 63) = 32 then
      (ld 100 l0 (w32 (l3 + 1)) σ).bind fun v167 =>
      (ld 100 l0 (w32 (l3 + 2)) σ).bind fun v168 =>
      (ld 100 l0 (w32 (l3 + 3)) σ).bind fun v169 =>
      (gk 10 l1 σ).bind fun _ => (M_RW_sight l1 v167 v168 v169 σ).bind fun p170 =>
      (ld 100 l0 (w32 (l3 + 1)) p170.2).bind fun v171 =>
      (ld 100 l0 (w32 (l3 + 2)) p170.2).bind fun v172 =>
      (ld 100 l0 (w32 (l3 + 3)) p170.2).bind fun v173 =>
      (gk 11 l2 p170.2).bind fun _ => (M_Mo_sight l2 v171 v172 v173 p170.2).bind fun p174 =>
      if p170.1 = p174.1 then 
        some (.inl (w32 (l3 + 6), p174.2))
      else
        if 0 = 0 ∨ 0 = 1 then some (.inr (0, p174.2)) else none
    else if (iand v2 63) = 33 then
      (ld 100 l0 (w32 (l3 + 1)) σ).bind fun v175 =>
      (gk 10 l1 σ).bind fun _ => (M_RW_drop l1 v175 σ).bind fun p176 =>
      (ld 100 l0 (w32 (l3 + 1)) p176.2).bind fun v177 =>
      (gk 11 l2 p176.2).bind fun _ => (M_Mo_drop l2 v177 p176.2).bind fun p178 =>
      if p176.1 = p178.1 then 
        some (.inl (w32 (l3 + 6), p178.2))
      else
        if 0 = 0 ∨ 0 = 1 then some (.inr (0, p178.2)) else none
    else if (iand v2 63) = 34 then
      (ld 100 l0 (w32 (l3 + 1)) σ).bind fun v179 =>
      (gk 10 l1 σ).bind fun _ => (M_RW_wrong l1 v179 σ).bind fun p180 =>
      (ld 100 l0 (w32 (l3 + 1)) p180.2).bind fun v181 =>
      (gk 11 l2 p180.2).bind fun _ => (M_Mo_wrong l2 v181 p180.2).bind fun p182 =>
      if p180.1 = p182.1 then 
        some (.inl (w32 (l3 + 6), p182.2))
      else
        if 0 = 0 ∨ 0 = 1 then some (.inr (0, p182.2)) else none
    else if (iand v2 63) = 35 then
      (gk 10 l1 σ).bind fun _ => (M_RW_fits l1 σ).bind fun p183 =>
      (gk 11 l2 p183.2).bind fun _ => (M_Mo_fits l2 p183.2).bind fun p184 =>
      if p183.1 = p184.1 then 
        some (.inl (w32 (l3 + 6), p184.2))
      else
        if 0 = 0 ∨ 0 = 1 then some (.inr (0, p184.2)) else none
    else if (iand v2 63) = 36 then
      (gk 10 l1 σ).bind fun _ => (M_RW_likely l1 σ).bind fun p185 =>
      (gk 11 l2 p185.2).bind fun _ => (M_Mo_likely l2 p185.2).bind fun p186 =>
      if p185.1 = p186.1 then 
        some (.inl (w32 (l3 + 6), p186.2))
      else
        if 0 = 0 ∨ 0 = 1 then some (.inr (0, p186.2)) else none
    else if (iand v2 63) = 37 then
      (ld 100 l0 (w32 (l3 + 1)) σ).bind fun v187 =>
      (ld 100 l0 (w32 (l3 + 2)) σ).bind fun v188 =>
      (ld 100 l0 (w32 (l3 + 3)) σ).bind fun v189 =>
      (ld 100 l0 (w32 (l3 + 4)) σ).bind fun v190 =>
      (gk 10 l1 σ).bind fun _ => (M_RW_tremble l1 v187 v188 v189 v190 σ).bind fun p191 =>
      (ld 100 l0 (w32 (l3 + 1)) p191.2).bind fun v192 =>
      (ld 100 l0 (w32 (l3 + 2)) p191.2).bind fun v193 =>
      (ld 100 l0 (w32 (l3 + 3)) p191.2).bind fun v194 =>
      (ld 100 l0 (w32 (l3 + 4)) p191.2).bind fun v195 =>
      (gk 11 l2 p191.2).bind fun _ => (M_Mo_tremble l2 v192 v193 v194 v195 p191.2).bind fun p196 =>
      if p191.1 = p196.1 then 
        some (.inl (w32 (l3 + 6), p196.2))
      else
        if 0 = 0 ∨ 0 = 1 then some (.inr (0, p196.2)) else none
    else if (iand v2 63) = 38 then
      (ld 100 l0 (w32 (l3 + 1)) σ).bind fun v197 =>
      (ld 100 l0 (w32 (l3 + 2)) σ).bind fun v198 =>
      (gk 10 l1 σ).bind fun _ => (M_RW_trembled l1 v197 v198 σ).bind fun p199 =>
      (ld 100 l0 (w32 (l3 + 1)) p199.2).bind fun v200 =>
      (ld 100 l0 (w32 (l3 + 2)) p199.2).bind fun v201 =>
      (gk 11 l2 p199.2).bind fun _ => (M_Mo_trembled l2 v200 v201 p199.2).bind fun p202 =>
      if p199.1 = p202.1 then 
        some (.inl (w32 (l3 + 6), p202.2))
      else
        if 0 = 0 ∨ 0 = 1 then some (.inr (0, p202.2)) else none
    else if (iand v2 63) = 39 then
      (ld 100 l0 (w32 (l3 + 1)) σ).bind fun v203 =>
      (gk 10 l1 σ).bind fun _ => (M_RW_image l1 v203 σ).bind fun p204 =>
      (ld 100 l0 (w32 (l3 + 1)) p204.2).bind fun v205 =>
      (gk 11 l2 p204.2).bind fun _ => (M_Mo_image l2 v205 p204.2).bind fun p206 =>
      if p204.1 = p206.1 then 
        some (.inl (w32 (l3 + 6), p206.2))
      else
        if 0 = 0 ∨ 0 = 1 then some (.inr (0, p206.2)) else none
    else if (iand v2 63) = 40 then
      (ld 100 l0 (w32 (l3 + 1)) σ).bind fun v207 =>
      (gk 10 l1 σ).bind fun _ => (M_RW_back l1 v207 σ).bind fun p208 =>
      (ld 100 l0 (w32 (l3 + 1)) p208.2).bind fun v209 =>
      (gk 11 l2 p208.2).bind fun _ => (M_Mo_back l2 v209 p208.2).bind fun p210 =>
      if p208.1 = p210.1 then 
        some (.inl (w32 (l3 + 6), p210.2))
      else
        if 0 = 0 ∨ 0 = 1 then some (.inr (0, p210.2)) else none
    else if (iand v2 63) = 41 then
      (ld 100 l0 (w32 (l3 + 1)) σ).bind fun v211 =>
      (gk 10 l1 σ).bind fun _ => (M_RW_count l1 v211 σ).bind fun p212 =>
      (ld 100 l0 (w32 (l3 + 1)) p212.2).bind fun v213 =>
      (gk 11 l2 p212.2).bind fun _ => (M_Mo_count l2 v213 p212.2).bind fun p214 =>
      if p212.1 = p214.1 then 
        some (.inl (w32 (l3 + 6), p214.2))
      else
        if 0 = 0 ∨ 0 = 1 then some (.inr (0, p214.2)) else none
    else if (iand v2 63) = 42 then
      (gk 10 l1 σ).bind fun _ => (M_RW_status l1 σ).bind fun p215 =>
      (gk 11 l2 p215.2).bind fun _ => (M_Mo_status l2 p215.2).bind fun p216 =>
      if p215.1 = p216.1 then 
        some (.inl (w32 (l3 + 6), p216.2))
      else
        if 0 = 0 ∨ 0 = 1 then some (.inr (0, p216.2)) else none
    else 
      some (.inl (w32 (l3 + 6), σ))
def M_LAW_law_10 (l0 l1 l2 l3 : Int) (σ : mS) : Option (Int × mS) := miter (fun s : Int × mS => B_LAW_law_10 l0 l1 l2 s.1 s.2) mN (l3, σ)
def F_LAW_law_0 : Nat → List mV → List mV → mS → Option (Int × mS) := fun i L st σ => match i, L, st with
  | 10, [(3, l0), (3, l1), (3, l2), (1, l3)], [] => M_LAW_law_10 l0 l1 l2 l3 σ
  | _, _, _ => none
def M_LAW_law (l0 : Int) (σ : mS) : Option (Int × mS) :=
  mlet (σ.2.2.1 + 1) fun v1 => mlet (mnew 10 16 σ) fun σ =>
  (gk 10 v1 σ).bind fun _ => (M_RW_init v1 σ).bind fun p2 =>
  mlet (p2.2.2.2.1 + 1) fun v3 => mlet (mnew 11 44 p2.2) fun σ =>
  (gk 11 v3 σ).bind fun _ => (M_Mo_init v3 σ).bind fun p4 =>
  M_LAW_law_10 l0 v1 v3 0 p4.2
end
