/-! the methods as functions: written by gen/emit.py -/
noncomputable section
def C_Mo_riseOf : Nat → List mV → mS → Option (Int × mS) := fun k as σ => match k, as with
  | _, _ => none
def K_Mo_riseOf : Nat → Bool := fun i => false
def F_Mo_riseOf_0 : Nat → List mV → List mV → mS → Option (Int × mS) := fun i L st σ => match i, L, st with
  | _, _, _ => none
def M_Mo_riseOf (l0 l1 : Int) (σ : mS) : Option (Int × mS) :=
  (gf 11 3 l0 σ).bind fun v1 =>
  (ld 100 v1 (w32 (0 + l1)) σ).bind fun v2 =>
  some (v2, σ)
set_option maxRecDepth 100000 in
theorem E_Mo_riseOf_0 (l0 l1 : Int) (σ : mS) : mblk c_Mo_riseOf K_Mo_riseOf (C_Mo_riseOf) (F_Mo_riseOf_0) (fun v σ => some (v, σ)) 8 0 (mInit 2 [(3, l0), (1, l1)]) [] σ = M_Mo_riseOf l0 l1 σ := rfl
def C_Mo_thingAt : Nat → List mV → mS → Option (Int × mS) := fun k as σ => match k, as with
  | _, _ => none
def K_Mo_thingAt : Nat → Bool := fun i => i.beq 2
def F_Mo_thingAt_2 : Nat → List mV → List mV → mS → Option (((Int × mS) ⊕ (Int × mS))) := fun i L st σ => match i, L, st with
  | 2, [(3, l0), (1, l1), (1, l2)], [] => some (.inl (l2, σ))
  | _, _, _ => none
def B_Mo_thingAt_2 (l0 l1 l2 : Int) (σ : mS) : Option (((Int × mS) ⊕ (Int × mS))) :=
  (gf 11 3 l0 σ).bind fun v1 =>
  (ld 100 v1 184 σ).bind fun v2 =>
  if l2 < v2 then 
    (gf 11 3 l0 σ).bind fun v3 =>
    (ld 100 v3 (w32 (128 + l2)) σ).bind fun v4 =>
    if v4 = l1 then 
      some (.inr (l2, σ))
    else
      some (.inl (w32 (l2 + 1), σ))
  else
    some (.inr ((-1), σ))
set_option maxRecDepth 100000 in
theorem E_Mo_thingAt_2 (l0 l1 l2 : Int) (σ : mS) : mblk c_Mo_thingAt K_Mo_thingAt (C_Mo_thingAt) (F_Mo_thingAt_2) (fun v σ => some (.inr (v, σ))) 23 2 ([(3, l0), (1, l1), (1, l2)]) [] σ = B_Mo_thingAt_2 l0 l1 l2 σ := rfl
def M_Mo_thingAt_2 (l0 l1 l2 : Int) (σ : mS) : Option (Int × mS) := miter (fun s : Int × mS => B_Mo_thingAt_2 l0 l1 s.1 s.2) mN (l2, σ)
def F_Mo_thingAt_0 : Nat → List mV → List mV → mS → Option (Int × mS) := fun i L st σ => match i, L, st with
  | 2, [(3, l0), (1, l1), (1, l2)], [] => M_Mo_thingAt_2 l0 l1 l2 σ
  | _, _, _ => none
def M_Mo_thingAt (l0 l1 : Int) (σ : mS) : Option (Int × mS) :=
  M_Mo_thingAt_2 l0 l1 0 σ
set_option maxRecDepth 100000 in
theorem E_Mo_thingAt_0 (l0 l1 : Int) (σ : mS) : mblk c_Mo_thingAt K_Mo_thingAt (C_Mo_thingAt) (F_Mo_thingAt_0) (fun v σ => some (v, σ)) 23 0 (mInit 3 [(3, l0), (1, l1)]) [] σ = M_Mo_thingAt l0 l1 σ := rfl
def C_Mo_rise : Nat → List mV → mS → Option (Int × mS) := fun k as σ => match k, as with
  | 53, [(3, a0), (1, a1)] => M_Mo_refuses a0 a1 σ
  | 54, [(3, a0), (1, a1)] => M_Mo_good a0 a1 σ
  | 60, [(1, a0)] => M_Mo_isPlace a0 σ
  | 61, [(1, a0)] => M_Mo_isInch a0 σ
  | 65, [(3, a0), (1, a1)] => M_Mo_riseOf a0 a1 σ
  | _, _ => none
def K_Mo_rise : Nat → Bool := fun i => false
def F_Mo_rise_0 : Nat → List mV → List mV → mS → Option (Int × mS) := fun i L st σ => match i, L, st with
  | _, _, _ => none
def M_Mo_rise (l0 l1 l2 : Int) (σ : mS) : Option (Int × mS) :=
  (M_Mo_isPlace l1 σ).bind fun p1 =>
  if p1.1 = 0 then 
    (gk 11 l0 p1.2).bind fun _ => (M_Mo_refuses l0 (-1) p1.2).bind fun p2 =>
    some (p2.1, p2.2)
  else
    (M_Mo_isInch l2 p1.2).bind fun p3 =>
    if p3.1 = 0 then 
      (gk 11 l0 p3.2).bind fun _ => (M_Mo_refuses l0 (-1) p3.2).bind fun p4 =>
      some (p4.1, p4.2)
    else
      (gk 11 l0 p3.2).bind fun _ => (M_Mo_riseOf l0 l1 p3.2).bind fun p5 =>
      (gf 11 3 l0 p5.2).bind fun v6 =>
      (sd 100 v6 (w32 (0 + l1)) l2 p5.2).bind fun σ =>
      (gk 11 l0 σ).bind fun _ => (M_Mo_good l0 p5.1 σ).bind fun p7 =>
      some (p7.1, p7.2)
set_option maxRecDepth 100000 in
theorem E_Mo_rise_0 (l0 l1 l2 : Int) (σ : mS) : mblk c_Mo_rise K_Mo_rise (C_Mo_rise) (F_Mo_rise_0) (fun v σ => some (v, σ)) 26 0 (mInit 4 [(3, l0), (1, l1), (1, l2)]) [] σ = M_Mo_rise l0 l1 l2 σ := rfl
def C_Mo_ground : Nat → List mV → mS → Option (Int × mS) := fun k as σ => match k, as with
  | 52, [(1, a0), (1, a1), (1, a2)] => M_Mo_lies a0 a1 a2 σ
  | 53, [(3, a0), (1, a1)] => M_Mo_refuses a0 a1 σ
  | 54, [(3, a0), (1, a1)] => M_Mo_good a0 a1 σ
  | 60, [(1, a0)] => M_Mo_isPlace a0 σ
  | _, _ => none
def K_Mo_ground : Nat → Bool := fun i => i.beq 21 || i.beq 36
def F_Mo_ground_36 : Nat → List mV → List mV → mS → Option (((Int × Int × mS) ⊕ (Int × mS))) := fun i L st σ => match i, L, st with
  | 21, [(3, l0), _, (1, l2), (1, l3), (1, l4), (1, l5)], [] => some (.inl (l4, l5, σ))
  | _, _, _ => none
def M_Mo_ground_36 (l0 l2 l3 l5 s1 s0 : Int) (σ : mS) : Option (((Int × Int × mS) ⊕ (Int × mS))) :=
  (gf 11 3 l0 σ).bind fun v1 =>
  (sd 100 v1 (w32 (64 + l5)) l3 σ).bind fun σ =>
  some (.inl (w32 (s0 + s1), w32 (l5 + 1), σ))
set_option maxRecDepth 100000 in
theorem E_Mo_ground_36 (l0 l2 l3 l5 s1 s0 : Int) (σ : mS) : mblk c_Mo_ground K_Mo_ground (C_Mo_ground) (F_Mo_ground_36) (fun v σ => some (.inr (v, σ))) 52 36 ([(3, l0), (0, 0), (1, l2), (1, l3), (0, 0), (1, l5)]) [(1, s1), (1, s0)] σ = M_Mo_ground_36 l0 l2 l3 l5 s1 s0 σ := rfl
def F_Mo_ground_21 : Nat → List mV → List mV → mS → Option (((Int × Int × mS) ⊕ (Int × mS))) := fun i L st σ => match i, L, st with
  | 36, [(3, l0), _, (1, l2), (1, l3), _, (1, l5)], [(1, s1), (1, s0)] => M_Mo_ground_36 l0 l2 l3 l5 s1 s0 σ
  | _, _, _ => none
def B_Mo_ground_21 (l0 l2 l3 l4 l5 : Int) (σ : mS) : Option (((Int × Int × mS) ⊕ (Int × mS))) :=
  if l2 < l5 then 
    (gk 11 l0 σ).bind fun _ => (M_Mo_good l0 l4 σ).bind fun p1 =>
    some (.inr (p1.1, p1.2))
  else
    (gf 11 3 l0 σ).bind fun v2 =>
    (ld 100 v2 (w32 (64 + l5)) σ).bind fun v3 =>
    if v3 = l3 then 
      M_Mo_ground_36 l0 l2 l3 l5 0 l4 σ
    else
      M_Mo_ground_36 l0 l2 l3 l5 1 l4 σ
set_option maxRecDepth 100000 in
theorem E_Mo_ground_21 (l0 l2 l3 l4 l5 : Int) (σ : mS) : mblk c_Mo_ground K_Mo_ground (C_Mo_ground) (F_Mo_ground_21) (fun v σ => some (.inr (v, σ))) 52 21 ([(3, l0), (0, 0), (1, l2), (1, l3), (1, l4), (1, l5)]) [] σ = B_Mo_ground_21 l0 l2 l3 l4 l5 σ := rfl
def M_Mo_ground_21 (l0 l2 l3 l4 l5 : Int) (σ : mS) : Option (Int × mS) := miter (fun s : Int × Int × mS => B_Mo_ground_21 l0 l2 l3 s.1 s.2.1 s.2.2) mN (l4, l5, σ)
def F_Mo_ground_0 : Nat → List mV → List mV → mS → Option (Int × mS) := fun i L st σ => match i, L, st with
  | 21, [(3, l0), _, (1, l2), (1, l3), (1, l4), (1, l5)], [] => M_Mo_ground_21 l0 l2 l3 l4 l5 σ
  | _, _, _ => none
def M_Mo_ground (l0 l1 l2 l3 : Int) (σ : mS) : Option (Int × mS) :=
  (M_Mo_isPlace l1 σ).bind fun p1 =>
  if p1.1 = 0 then 
    (gk 11 l0 p1.2).bind fun _ => (M_Mo_refuses l0 (-1) p1.2).bind fun p2 =>
    some (p2.1, p2.2)
  else
    (M_Mo_lies l2 l1 63 p1.2).bind fun p3 =>
    if p3.1 = 0 then 
      (gk 11 l0 p3.2).bind fun _ => (M_Mo_refuses l0 (-1) p3.2).bind fun p4 =>
      some (p4.1, p4.2)
    else
      (M_Mo_lies l3 0 9 p3.2).bind fun p5 =>
      if p5.1 = 0 then 
        (gk 11 l0 p5.2).bind fun _ => (M_Mo_refuses l0 (-1) p5.2).bind fun p6 =>
        some (p6.1, p6.2)
      else
        M_Mo_ground_21 l0 l2 l3 0 l1 p5.2
set_option maxRecDepth 100000 in
theorem E_Mo_ground_0 (l0 l1 l2 l3 : Int) (σ : mS) : mblk c_Mo_ground K_Mo_ground (C_Mo_ground) (F_Mo_ground_0) (fun v σ => some (v, σ)) 52 0 (mInit 6 [(3, l0), (1, l1), (1, l2), (1, l3)]) [] σ = M_Mo_ground l0 l1 l2 l3 σ := rfl
def C_Mo_thing : Nat → List mV → mS → Option (Int × mS) := fun k as σ => match k, as with
  | 52, [(1, a0), (1, a1), (1, a2)] => M_Mo_lies a0 a1 a2 σ
  | 53, [(3, a0), (1, a1)] => M_Mo_refuses a0 a1 σ
  | 54, [(3, a0), (1, a1)] => M_Mo_good a0 a1 σ
  | 60, [(1, a0)] => M_Mo_isPlace a0 σ
  | 66, [(3, a0), (1, a1)] => M_Mo_thingAt a0 a1 σ
  | _, _ => none
def K_Mo_thing : Nat → Bool := fun i => false
def F_Mo_thing_0 : Nat → List mV → List mV → mS → Option (Int × mS) := fun i L st σ => match i, L, st with
  | _, _, _ => none
def M_Mo_thing (l0 l1 l2 : Int) (σ : mS) : Option (Int × mS) :=
  (M_Mo_isPlace l1 σ).bind fun p1 =>
  if p1.1 = 0 then 
    (gk 11 l0 p1.2).bind fun _ => (M_Mo_refuses l0 (-1) p1.2).bind fun p2 =>
    some (p2.1, p2.2)
  else
    (M_Mo_lies l2 1 31 p1.2).bind fun p3 =>
    if p3.1 = 0 then 
      (gk 11 l0 p3.2).bind fun _ => (M_Mo_refuses l0 (-1) p3.2).bind fun p4 =>
      some (p4.1, p4.2)
    else
      (gk 11 l0 p3.2).bind fun _ => (M_Mo_thingAt l0 l1 p3.2).bind fun p5 =>
      if p5.1 = (-1) then 
        (gf 11 3 l0 p5.2).bind fun v6 =>
        (ld 100 v6 184 p5.2).bind fun v7 =>
        if v7 = 8 then 
          (gk 11 l0 p5.2).bind fun _ => (M_Mo_refuses l0 (-5) p5.2).bind fun p8 =>
          some (p8.1, p8.2)
        else
          (gf 11 3 l0 p5.2).bind fun v9 =>
          (ld 100 v9 184 p5.2).bind fun v10 =>
          (gf 11 3 l0 p5.2).bind fun v11 =>
          (sd 100 v11 (w32 (128 + v10)) l1 p5.2).bind fun σ =>
          (gf 11 3 l0 σ).bind fun v12 =>
          (sd 100 v12 (w32 (136 + v10)) l2 σ).bind fun σ =>
          (gf 11 3 l0 σ).bind fun v13 =>
          (ld 100 v13 184 σ).bind fun v14 =>
          (sd 100 v13 184 (w32 (v14 + 1)) σ).bind fun σ =>
          (gk 11 l0 σ).bind fun _ => (M_Mo_good l0 v10 σ).bind fun p15 =>
          some (p15.1, p15.2)
      else
        (gk 11 l0 p5.2).bind fun _ => (M_Mo_refuses l0 (-3) p5.2).bind fun p16 =>
        some (p16.1, p16.2)
set_option maxRecDepth 100000 in
theorem E_Mo_thing_0 (l0 l1 l2 : Int) (σ : mS) : mblk c_Mo_thing K_Mo_thing (C_Mo_thing) (F_Mo_thing_0) (fun v σ => some (v, σ)) 63 0 (mInit 4 [(3, l0), (1, l1), (1, l2)]) [] σ = M_Mo_thing l0 l1 l2 σ := rfl
def C_Mo_move : Nat → List mV → mS → Option (Int × mS) := fun k as σ => match k, as with
  | 53, [(3, a0), (1, a1)] => M_Mo_refuses a0 a1 σ
  | 54, [(3, a0), (1, a1)] => M_Mo_good a0 a1 σ
  | 60, [(1, a0)] => M_Mo_isPlace a0 σ
  | 64, [(3, a0), (1, a1)] => M_Mo_isThing a0 a1 σ
  | 66, [(3, a0), (1, a1)] => M_Mo_thingAt a0 a1 σ
  | _, _ => none
def K_Mo_move : Nat → Bool := fun i => i.beq 29
def F_Mo_move_29 : Nat → List mV → List mV → mS → Option (Int × mS) := fun i L st σ => match i, L, st with
  | _, _, _ => none
def M_Mo_move_29 (l0 l1 l2 : Int) (σ : mS) : Option (Int × mS) :=
  (gf 11 3 l0 σ).bind fun v1 =>
  (ld 100 v1 (w32 (128 + l1)) σ).bind fun v2 =>
  (gf 11 3 l0 σ).bind fun v3 =>
  (sd 100 v3 (w32 (128 + l1)) l2 σ).bind fun σ =>
  (gk 11 l0 σ).bind fun _ => (M_Mo_good l0 v2 σ).bind fun p4 =>
  some (p4.1, p4.2)
set_option maxRecDepth 100000 in
theorem E_Mo_move_29 (l0 l1 l2 : Int) (σ : mS) : mblk c_Mo_move K_Mo_move (C_Mo_move) (F_Mo_move_29) (fun v σ => some (v, σ)) 48 29 ([(3, l0), (1, l1), (1, l2), (0, 0)]) [] σ = M_Mo_move_29 l0 l1 l2 σ := rfl
def F_Mo_move_0 : Nat → List mV → List mV → mS → Option (Int × mS) := fun i L st σ => match i, L, st with
  | 29, [(3, l0), (1, l1), (1, l2), _], [] => M_Mo_move_29 l0 l1 l2 σ
  | _, _, _ => none
def M_Mo_move (l0 l1 l2 : Int) (σ : mS) : Option (Int × mS) :=
  (M_Mo_isPlace l2 σ).bind fun p1 =>
  if p1.1 = 0 then 
    (gk 11 l0 p1.2).bind fun _ => (M_Mo_refuses l0 (-1) p1.2).bind fun p2 =>
    some (p2.1, p2.2)
  else
    (gk 11 l0 p1.2).bind fun _ => (M_Mo_isThing l0 l1 p1.2).bind fun p3 =>
    if p3.1 = 0 then 
      (gk 11 l0 p3.2).bind fun _ => (M_Mo_refuses l0 (-2) p3.2).bind fun p4 =>
      some (p4.1, p4.2)
    else
      (gk 11 l0 p3.2).bind fun _ => (M_Mo_thingAt l0 l2 p3.2).bind fun p5 =>
      if p5.1 = (-1) then 
        M_Mo_move_29 l0 l1 l2 p5.2
      else
        (gk 11 l0 p5.2).bind fun _ => (M_Mo_thingAt l0 l2 p5.2).bind fun p6 =>
        if p6.1 = l1 then 
          M_Mo_move_29 l0 l1 l2 p6.2
        else
          (gk 11 l0 p6.2).bind fun _ => (M_Mo_refuses l0 (-3) p6.2).bind fun p7 =>
          some (p7.1, p7.2)
set_option maxRecDepth 100000 in
theorem E_Mo_move_0 (l0 l1 l2 : Int) (σ : mS) : mblk c_Mo_move K_Mo_move (C_Mo_move) (F_Mo_move_0) (fun v σ => some (v, σ)) 48 0 (mInit 4 [(3, l0), (1, l1), (1, l2)]) [] σ = M_Mo_move l0 l1 l2 σ := rfl
def C_Mo_thereOf : Nat → List mV → mS → Option (Int × mS) := fun k as σ => match k, as with
  | 65, [(3, a0), (1, a1)] => M_Mo_riseOf a0 a1 σ
  | _, _ => none
def K_Mo_thereOf : Nat → Bool := fun i => false
def F_Mo_thereOf_0 : Nat → List mV → List mV → mS → Option (Int × mS) := fun i L st σ => match i, L, st with
  | _, _, _ => none
def M_Mo_thereOf (l0 l1 l2 : Int) (σ : mS) : Option (Int × mS) :=
  (gk 11 l0 σ).bind fun _ => (M_Mo_riseOf l0 l1 σ).bind fun p1 =>
  if l2 < (w32 (32 - p1.1)) then 
    some (l2, p1.2)
  else
    (gk 11 l0 p1.2).bind fun _ => (M_Mo_riseOf l0 l1 p1.2).bind fun p2 =>
    some (w32 (32 - p2.1), p2.2)
set_option maxRecDepth 100000 in
theorem E_Mo_thereOf_0 (l0 l1 l2 : Int) (σ : mS) : mblk c_Mo_thereOf K_Mo_thereOf (C_Mo_thereOf) (F_Mo_thereOf_0) (fun v σ => some (v, σ)) 16 0 (mInit 3 [(3, l0), (1, l1), (1, l2)]) [] σ = M_Mo_thereOf l0 l1 l2 σ := rfl
def C_Mo_of : Nat → List mV → mS → Option (Int × mS) := fun k as σ => match k, as with
  | 52, [(1, a0), (1, a1), (1, a2)] => M_Mo_lies a0 a1 a2 σ
  | 64, [(3, a0), (1, a1)] => M_Mo_isThing a0 a1 σ
  | 71, [(3, a0), (1, a1), (1, a2)] => M_Mo_thereOf a0 a1 a2 σ
  | _, _ => none
def K_Mo_of : Nat → Bool := fun i => false
def F_Mo_of_0 : Nat → List mV → List mV → mS → Option (Int × mS) := fun i L st σ => match i, L, st with
  | _, _, _ => none
def M_Mo_of (l0 l1 l2 : Int) (σ : mS) : Option (Int × mS) :=
  (gk 11 l0 σ).bind fun _ => (M_Mo_isThing l0 l1 σ).bind fun p1 =>
  if p1.1 = 0 then 
    some ((-1), p1.2)
  else
    (M_Mo_lies l2 0 2 p1.2).bind fun p2 =>
    if p2.1 = 0 then 
      some ((-1), p2.2)
    else
      if l2 = 0 then 
        (gf 11 3 l0 p2.2).bind fun v3 =>
        (ld 100 v3 (w32 (128 + l1)) p2.2).bind fun v4 =>
        some (v4, p2.2)
      else
        if l2 = 1 then 
          (gf 11 3 l0 p2.2).bind fun v5 =>
          (ld 100 v5 (w32 (136 + l1)) p2.2).bind fun v6 =>
          some (v6, p2.2)
        else
          (gf 11 3 l0 p2.2).bind fun v7 =>
          (ld 100 v7 (w32 (128 + l1)) p2.2).bind fun v8 =>
          (gf 11 3 l0 p2.2).bind fun v9 =>
          (ld 100 v9 (w32 (136 + l1)) p2.2).bind fun v10 =>
          (gk 11 l0 p2.2).bind fun _ => (M_Mo_thereOf l0 v8 v10 p2.2).bind fun p11 =>
          some (p11.1, p11.2)
set_option maxRecDepth 100000 in
theorem E_Mo_of_0 (l0 l1 l2 : Int) (σ : mS) : mblk c_Mo_of K_Mo_of (C_Mo_of) (F_Mo_of_0) (fun v σ => some (v, σ)) 46 0 (mInit 3 [(3, l0), (1, l1), (1, l2)]) [] σ = M_Mo_of l0 l1 l2 σ := rfl
def C_Mo_terms : Nat → List mV → mS → Option (Int × mS) := fun k as σ => match k, as with
  | 52, [(1, a0), (1, a1), (1, a2)] => M_Mo_lies a0 a1 a2 σ
  | 53, [(3, a0), (1, a1)] => M_Mo_refuses a0 a1 σ
  | 54, [(3, a0), (1, a1)] => M_Mo_good a0 a1 σ
  | _, _ => none
def K_Mo_terms : Nat → Bool := fun i => i.beq 22
def F_Mo_terms_22 : Nat → List mV → List mV → mS → Option (Int × mS) := fun i L st σ => match i, L, st with
  | _, _, _ => none
def M_Mo_terms_22 (l0 l1 l2 s2 s1 s0 : Int) (σ : mS) : Option (Int × mS) :=
  (M_Mo_lies s0 s1 s2 σ).bind fun p1 =>
  if p1.1 = 0 then 
    (gk 11 l0 p1.2).bind fun _ => (M_Mo_refuses l0 (-1) p1.2).bind fun p2 =>
    some (p2.1, p2.2)
  else
    (gf 11 3 l0 p1.2).bind fun v3 =>
    (ld 100 v3 (w32 (180 + l1)) p1.2).bind fun v4 =>
    (gf 11 3 l0 p1.2).bind fun v5 =>
    (sd 100 v5 (w32 (180 + l1)) l2 p1.2).bind fun σ =>
    (gk 11 l0 σ).bind fun _ => (M_Mo_good l0 v4 σ).bind fun p6 =>
    some (p6.1, p6.2)
set_option maxRecDepth 100000 in
theorem E_Mo_terms_22 (l0 l1 l2 s2 s1 s0 : Int) (σ : mS) : mblk c_Mo_terms K_Mo_terms (C_Mo_terms) (F_Mo_terms_22) (fun v σ => some (v, σ)) 47 22 ([(3, l0), (1, l1), (1, l2), (0, 0)]) [(1, s2), (1, s1), (1, s0)] σ = M_Mo_terms_22 l0 l1 l2 s2 s1 s0 σ := rfl
def F_Mo_terms_0 : Nat → List mV → List mV → mS → Option (Int × mS) := fun i L st σ => match i, L, st with
  | 22, [(3, l0), (1, l1), (1, l2), _], [(1, s2), (1, s1), (1, s0)] => M_Mo_terms_22 l0 l1 l2 s2 s1 s0 σ
  | _, _, _ => none
def M_Mo_terms (l0 l1 l2 : Int) (σ : mS) : Option (Int × mS) :=
  (M_Mo_lies l1 0 3 σ).bind fun p1 =>
  if p1.1 = 0 then 
    (gk 11 l0 p1.2).bind fun _ => (M_Mo_refuses l0 (-1) p1.2).bind fun p2 =>
    some (p2.1, p2.2)
  else
    if l1 = 0 then 
      M_Mo_terms_22 l0 l1 l2 23 0 l2 p1.2
    else
      if l1 = 1 then 
        M_Mo_terms_22 l0 l1 l2 9 0 l2 p1.2
      else
        if l1 = 2 then 
          M_Mo_terms_22 l0 l1 l2 63 0 l2 p1.2
        else
          M_Mo_terms_22 l0 l1 l2 31 0 l2 p1.2
set_option maxRecDepth 100000 in
theorem E_Mo_terms_0 (l0 l1 l2 : Int) (σ : mS) : mblk c_Mo_terms K_Mo_terms (C_Mo_terms) (F_Mo_terms_0) (fun v σ => some (v, σ)) 47 0 (mInit 4 [(3, l0), (1, l1), (1, l2)]) [] σ = M_Mo_terms l0 l1 l2 σ := rfl
def C_Mo_row : Nat → List mV → mS → Option (Int × mS) := fun k as σ => match k, as with
  | 53, [(3, a0), (1, a1)] => M_Mo_refuses a0 a1 σ
  | 54, [(3, a0), (1, a1)] => M_Mo_good a0 a1 σ
  | 61, [(1, a0)] => M_Mo_isInch a0 σ
  | _, _ => none
def K_Mo_row : Nat → Bool := fun i => i.beq 16
def F_Mo_row_16 : Nat → List mV → List mV → mS → Option (((Int × Int × mS) ⊕ (Int × mS))) := fun i L st σ => match i, L, st with
  | 16, [(3, l0), (1, l1), (1, l2), (1, l3)], [] => some (.inl (l2, l3, σ))
  | _, _, _ => none
def B_Mo_row_16 (l0 l1 l2 l3 : Int) (σ : mS) : Option (((Int × Int × mS) ⊕ (Int × mS))) :=
  if l3 < l1 then 
    if l3 < 64 then 
      (gf 11 8 l0 σ).bind fun v1 =>
      (ld 101 v1 l3 σ).bind fun v2 =>
      (M_Mo_isInch v2 σ).bind fun p3 =>
      if p3.1 = 0 then 
        some (.inl (l2, w32 (l3 + 1), p3.2))
      else
        (gf 11 3 l0 p3.2).bind fun v4 =>
        (gf 11 8 l0 p3.2).bind fun v5 =>
        (ld 101 v5 l3 p3.2).bind fun v6 =>
        (sd 100 v4 (w32 (0 + l3)) v6 p3.2).bind fun σ =>
        some (.inl (w32 (l2 + 1), w32 (l3 + 1), σ))
    else
      some (.inl (l2, w32 (l3 + 1), σ))
  else
    (pf 11 6 l0 (w32 (l1 - l2)) σ).bind fun σ =>
    (gk 11 l0 σ).bind fun _ => (M_Mo_good l0 l2 σ).bind fun p7 =>
    some (.inr (p7.1, p7.2))
set_option maxRecDepth 100000 in
theorem E_Mo_row_16 (l0 l1 l2 l3 : Int) (σ : mS) : mblk c_Mo_row K_Mo_row (C_Mo_row) (F_Mo_row_16) (fun v σ => some (.inr (v, σ))) 52 16 ([(3, l0), (1, l1), (1, l2), (1, l3)]) [] σ = B_Mo_row_16 l0 l1 l2 l3 σ := rfl
def M_Mo_row_16 (l0 l1 l2 l3 : Int) (σ : mS) : Option (Int × mS) := miter (fun s : Int × Int × mS => B_Mo_row_16 l0 l1 s.1 s.2.1 s.2.2) mN (l2, l3, σ)
def F_Mo_row_0 : Nat → List mV → List mV → mS → Option (Int × mS) := fun i L st σ => match i, L, st with
  | 16, [(3, l0), (1, l1), (1, l2), (1, l3)], [] => M_Mo_row_16 l0 l1 l2 l3 σ
  | _, _, _ => none
def M_Mo_row (l0 : Int) (σ : mS) : Option (Int × mS) :=
  (gf 11 10 l0 σ).bind fun v1 =>
  (pf 11 10 l0 0 σ).bind fun σ =>
  if v1 = 0 then 
    (gk 11 l0 σ).bind fun _ => (M_Mo_refuses l0 (-6) σ).bind fun p2 =>
    some (p2.1, p2.2)
  else
    M_Mo_row_16 l0 v1 0 0 σ
set_option maxRecDepth 100000 in
theorem E_Mo_row_0 (l0 : Int) (σ : mS) : mblk c_Mo_row K_Mo_row (C_Mo_row) (F_Mo_row_0) (fun v σ => some (v, σ)) 52 0 (mInit 4 [(3, l0)]) [] σ = M_Mo_row l0 σ := rfl
def C_Mo_worn : Nat → List mV → mS → Option (Int × mS) := fun k as σ => match k, as with
  | _, _ => none
def K_Mo_worn : Nat → Bool := fun i => false
def F_Mo_worn_0 : Nat → List mV → List mV → mS → Option (Int × mS) := fun i L st σ => match i, L, st with
  | _, _, _ => none
def M_Mo_worn (l0 : Int) (σ : mS) : Option (Int × mS) :=
  (gf 11 6 l0 σ).bind fun v1 =>
  some (v1, σ)
set_option maxRecDepth 100000 in
theorem E_Mo_worn_0 (l0 : Int) (σ : mS) : mblk c_Mo_worn K_Mo_worn (C_Mo_worn) (F_Mo_worn_0) (fun v σ => some (v, σ)) 4 0 (mInit 1 [(3, l0)]) [] σ = M_Mo_worn l0 σ := rfl
def C_Mo_feed : Nat → List mV → mS → Option (Int × mS) := fun k as σ => match k, as with
  | _, _ => none
def K_Mo_feed : Nat → Bool := fun i => i.beq 35
def F_Mo_feed_35 : Nat → List mV → List mV → mS → Option (((Int × mS) ⊕ (Int × mS))) := fun i L st σ => match i, L, st with
  | 35, [(3, l0), _, _, _, _, _, (1, l6)], [] => some (.inl (l6, σ))
  | _, _, _ => none
def B_Mo_feed_35 (l0 l6 : Int) (σ : mS) : Option (((Int × mS) ⊕ (Int × mS))) :=
  if l6 < 20 then 
    (gf 11 8 l0 σ).bind fun v1 =>
    (gf 11 10 l0 σ).bind fun v2 =>
    (gf 11 9 l0 σ).bind fun v3 =>
    (idv l6 4).bind fun v4 =>
    (ld 100 v3 v4 σ).bind fun v5 =>
    (irm l6 4).bind fun v6 =>
    (sd 101 v1 (w32 (v2 + l6)) (w8 (ishr v5 (w32 (24 - (w32 (8 * v6)))))) σ).bind fun σ =>
    some (.inl (w32 (l6 + 1), σ))
  else
    (gf 11 10 l0 σ).bind fun v7 =>
    (pf 11 10 l0 (w32 (v7 + 20)) σ).bind fun σ =>
    (gf 11 10 l0 σ).bind fun v8 =>
    some (.inr (v8, σ))
set_option maxRecDepth 100000 in
theorem E_Mo_feed_35 (l0 l6 : Int) (σ : mS) : mblk c_Mo_feed K_Mo_feed (C_Mo_feed) (F_Mo_feed_35) (fun v σ => some (.inr (v, σ))) 72 35 ([(3, l0), (0, 0), (0, 0), (0, 0), (0, 0), (0, 0), (1, l6)]) [] σ = B_Mo_feed_35 l0 l6 σ := rfl
def M_Mo_feed_35 (l0 l6 : Int) (σ : mS) : Option (Int × mS) := miter (fun s : Int × mS => B_Mo_feed_35 l0 s.1 s.2) mN (l6, σ)
def F_Mo_feed_0 : Nat → List mV → List mV → mS → Option (Int × mS) := fun i L st σ => match i, L, st with
  | 35, [(3, l0), _, _, _, _, _, (1, l6)], [] => M_Mo_feed_35 l0 l6 σ
  | _, _, _ => none
def M_Mo_feed (l0 l1 l2 l3 l4 l5 : Int) (σ : mS) : Option (Int × mS) :=
  (gf 11 10 l0 σ).bind fun v1 =>
  if 400 < (w32 (v1 + 20)) then 
    some ((-1), σ)
  else
    (gf 11 9 l0 σ).bind fun v2 =>
    (sd 100 v2 0 l1 σ).bind fun σ =>
    (gf 11 9 l0 σ).bind fun v3 =>
    (sd 100 v3 1 l2 σ).bind fun σ =>
    (gf 11 9 l0 σ).bind fun v4 =>
    (sd 100 v4 2 l3 σ).bind fun σ =>
    (gf 11 9 l0 σ).bind fun v5 =>
    (sd 100 v5 3 l4 σ).bind fun σ =>
    (gf 11 9 l0 σ).bind fun v6 =>
    (sd 100 v6 4 l5 σ).bind fun σ =>
    M_Mo_feed_35 l0 0 σ
set_option maxRecDepth 100000 in
theorem E_Mo_feed_0 (l0 l1 l2 l3 l4 l5 : Int) (σ : mS) : mblk c_Mo_feed K_Mo_feed (C_Mo_feed) (F_Mo_feed_0) (fun v σ => some (v, σ)) 72 0 (mInit 7 [(3, l0), (1, l1), (1, l2), (1, l3), (1, l4), (1, l5)]) [] σ = M_Mo_feed l0 l1 l2 l3 l4 l5 σ := rfl
def C_Mo_end : Nat → List mV → mS → Option (Int × mS) := fun k as σ => match k, as with
  | 52, [(1, a0), (1, a1), (1, a2)] => M_Mo_lies a0 a1 a2 σ
  | _, _ => none
def K_Mo_end : Nat → Bool := fun i => false
def F_Mo_end_0 : Nat → List mV → List mV → mS → Option (Int × mS) := fun i L st σ => match i, L, st with
  | _, _, _ => none
def M_Mo_end (l0 l1 : Int) (σ : mS) : Option (Int × mS) :=
  (gf 11 10 l0 σ).bind fun v1 =>
  (M_Mo_lies l1 0 v1 σ).bind fun p2 =>
  if p2.1 = 0 then 
    some ((-1), p2.2)
  else
    (pf 11 10 l0 l1 p2.2).bind fun σ =>
    some (l1, σ)
set_option maxRecDepth 100000 in
theorem E_Mo_end_0 (l0 l1 : Int) (σ : mS) : mblk c_Mo_end K_Mo_end (C_Mo_end) (F_Mo_end_0) (fun v σ => some (v, σ)) 14 0 (mInit 2 [(3, l0), (1, l1)]) [] σ = M_Mo_end l0 l1 σ := rfl
def C_Mo_isSmall : Nat → List mV → mS → Option (Int × mS) := fun k as σ => match k, as with
  | _, _ => none
def K_Mo_isSmall : Nat → Bool := fun i => false
def F_Mo_isSmall_0 : Nat → List mV → List mV → mS → Option (Int × mS) := fun i L st σ => match i, L, st with
  | _, _, _ => none
def M_Mo_isSmall (l0 : Int) (σ : mS) : Option (Int × mS) :=
  if l0 < 97 then 
    if 0 = 0 ∨ 0 = 1 then some (0, σ) else none
  else
    if 122 < l0 then 
      if 0 = 0 ∨ 0 = 1 then some (0, σ) else none
    else
      if 1 = 0 ∨ 1 = 1 then some (1, σ) else none
set_option maxRecDepth 100000 in
theorem E_Mo_isSmall_0 (l0 : Int) (σ : mS) : mblk c_Mo_isSmall K_Mo_isSmall (C_Mo_isSmall) (F_Mo_isSmall_0) (fun v σ => some (v, σ)) 11 0 (mInit 1 [(1, l0)]) [] σ = M_Mo_isSmall l0 σ := rfl
def C_Mo_isDigit : Nat → List mV → mS → Option (Int × mS) := fun k as σ => match k, as with
  | _, _ => none
def K_Mo_isDigit : Nat → Bool := fun i => false
def F_Mo_isDigit_0 : Nat → List mV → List mV → mS → Option (Int × mS) := fun i L st σ => match i, L, st with
  | _, _, _ => none
def M_Mo_isDigit (l0 : Int) (σ : mS) : Option (Int × mS) :=
  if l0 < 48 then 
    if 0 = 0 ∨ 0 = 1 then some (0, σ) else none
  else
    if 57 < l0 then 
      if 0 = 0 ∨ 0 = 1 then some (0, σ) else none
    else
      if 1 = 0 ∨ 1 = 1 then some (1, σ) else none
set_option maxRecDepth 100000 in
theorem E_Mo_isDigit_0 (l0 : Int) (σ : mS) : mblk c_Mo_isDigit K_Mo_isDigit (C_Mo_isDigit) (F_Mo_isDigit_0) (fun v σ => some (v, σ)) 11 0 (mInit 1 [(1, l0)]) [] σ = M_Mo_isDigit l0 σ := rfl
def C_Mo_wordOf : Nat → List mV → mS → Option (Int × mS) := fun k as σ => match k, as with
  | _, _ => none
def K_Mo_wordOf : Nat → Bool := fun i => i.beq 4 || i.beq 11 || i.beq 32 || i.beq 56
def F_Mo_wordOf_56 : Nat → List mV → List mV → mS → Option (((Int × Int × mS) ⊕ (Int × mS))) := fun i L st σ => match i, L, st with
  | 4, [(3, l0), (1, l1), (1, l2), (1, l3), (1, l4), _, _, _], [] => some (.inl (l3, l4, σ))
  | _, _, _ => none
def M_Mo_wordOf_56 (l0 l1 l2 l3 l4 l5 l6 : Int) (σ : mS) : Option (((Int × Int × mS) ⊕ (Int × mS))) :=
  if l6 = 0 then 
    some (.inl (w32 (l3 + 1), w32 (l4 + (w32 (l5 + 1))), σ))
  else
    some (.inr (l3, σ))
set_option maxRecDepth 100000 in
theorem E_Mo_wordOf_56 (l0 l1 l2 l3 l4 l5 l6 : Int) (σ : mS) : mblk c_Mo_wordOf K_Mo_wordOf (C_Mo_wordOf) (F_Mo_wordOf_56) (fun v σ => some (.inr (v, σ))) 71 56 ([(3, l0), (1, l1), (1, l2), (1, l3), (1, l4), (1, l5), (1, l6), (0, 0)]) [] σ = M_Mo_wordOf_56 l0 l1 l2 l3 l4 l5 l6 σ := rfl
def F_Mo_wordOf_32 : Nat → List mV → List mV → mS → Option (((Int × Int × mS) ⊕ ((Int × Int × mS) ⊕ (Int × mS)))) := fun i L st σ => match i, L, st with
  | 32, [(3, l0), (1, l1), (1, l2), (1, l3), (1, l4), (1, l5), (1, l6), (1, l7)], [] => some (.inl (l6, l7, σ))
  | 56, [(3, l0), (1, l1), (1, l2), (1, l3), (1, l4), (1, l5), (1, l6), _], [] => (M_Mo_wordOf_56 l0 l1 l2 l3 l4 l5 l6 σ).bind fun z => some (.inr z)
  | _, _, _ => none
def B_Mo_wordOf_32 (l0 l1 l2 l3 l4 l5 l6 l7 : Int) (σ : mS) : Option (((Int × Int × mS) ⊕ ((Int × Int × mS) ⊕ (Int × mS)))) :=
  if l7 < l5 then 
    if l6 = 0 then 
      (M_Mo_wordOf_56 l0 l1 l2 l3 l4 l5 l6 σ).bind fun z => some (.inr z)
    else
      (gf 11 7 l0 σ).bind fun v1 =>
      (ld 101 v1 (w32 (l4 + l7)) σ).bind fun v2 =>
      (gf 11 8 l0 σ).bind fun v3 =>
      (ld 101 v3 (w32 (l1 + l7)) σ).bind fun v4 =>
      if v2 = v4 then 
        some (.inl (1, w32 (l7 + 1), σ))
      else
        some (.inl (0, w32 (l7 + 1), σ))
  else
    (M_Mo_wordOf_56 l0 l1 l2 l3 l4 l5 l6 σ).bind fun z => some (.inr z)
set_option maxRecDepth 100000 in
theorem E_Mo_wordOf_32 (l0 l1 l2 l3 l4 l5 l6 l7 : Int) (σ : mS) : mblk c_Mo_wordOf K_Mo_wordOf (C_Mo_wordOf) (F_Mo_wordOf_32) (fun v σ => some (.inr (.inr (v, σ)))) 71 32 ([(3, l0), (1, l1), (1, l2), (1, l3), (1, l4), (1, l5), (1, l6), (1, l7)]) [] σ = B_Mo_wordOf_32 l0 l1 l2 l3 l4 l5 l6 l7 σ := rfl
def M_Mo_wordOf_32 (l0 l1 l2 l3 l4 l5 l6 l7 : Int) (σ : mS) : Option (((Int × Int × mS) ⊕ (Int × mS))) := miter (fun s : Int × Int × mS => B_Mo_wordOf_32 l0 l1 l2 l3 l4 l5 s.1 s.2.1 s.2.2) mN (l6, l7, σ)
def F_Mo_wordOf_11 : Nat → List mV → List mV → mS → Option (((Int × mS) ⊕ ((Int × Int × mS) ⊕ (Int × mS)))) := fun i L st σ => match i, L, st with
  | 11, [(3, l0), (1, l1), (1, l2), (1, l3), (1, l4), (1, l5), _, _], [] => some (.inl (l5, σ))
  | 32, [(3, l0), (1, l1), (1, l2), (1, l3), (1, l4), (1, l5), (1, l6), (1, l7)], [] => (M_Mo_wordOf_32 l0 l1 l2 l3 l4 l5 l6 l7 σ).bind fun z => some (.inr z)
  | _, _, _ => none
def B_Mo_wordOf_11 (l0 l1 l2 l3 l4 l5 : Int) (σ : mS) : Option (((Int × mS) ⊕ ((Int × Int × mS) ⊕ (Int × mS)))) :=
  (gf 11 7 l0 σ).bind fun v1 =>
  (ld 101 v1 (w32 (l4 + l5)) σ).bind fun v2 =>
  if v2 = 32 then 
    if l5 = (w32 (l2 - l1)) then 
      (M_Mo_wordOf_32 l0 l1 l2 l3 l4 l5 1 0 σ).bind fun z => some (.inr z)
    else
      (M_Mo_wordOf_32 l0 l1 l2 l3 l4 l5 0 0 σ).bind fun z => some (.inr z)
  else
    some (.inl (w32 (l5 + 1), σ))
set_option maxRecDepth 100000 in
theorem E_Mo_wordOf_11 (l0 l1 l2 l3 l4 l5 : Int) (σ : mS) : mblk c_Mo_wordOf K_Mo_wordOf (C_Mo_wordOf) (F_Mo_wordOf_11) (fun v σ => some (.inr (.inr (v, σ)))) 71 11 ([(3, l0), (1, l1), (1, l2), (1, l3), (1, l4), (1, l5), (0, 0), (0, 0)]) [] σ = B_Mo_wordOf_11 l0 l1 l2 l3 l4 l5 σ := rfl
def M_Mo_wordOf_11 (l0 l1 l2 l3 l4 l5 : Int) (σ : mS) : Option (((Int × Int × mS) ⊕ (Int × mS))) := miter (fun s : Int × mS => B_Mo_wordOf_11 l0 l1 l2 l3 l4 s.1 s.2) mN (l5, σ)
def F_Mo_wordOf_4 : Nat → List mV → List mV → mS → Option (((Int × Int × mS) ⊕ (Int × mS))) := fun i L st σ => match i, L, st with
  | 11, [(3, l0), (1, l1), (1, l2), (1, l3), (1, l4), (1, l5), _, _], [] => M_Mo_wordOf_11 l0 l1 l2 l3 l4 l5 σ
  | _, _, _ => none
def B_Mo_wordOf_4 (l0 l1 l2 l3 l4 : Int) (σ : mS) : Option (((Int × Int × mS) ⊕ (Int × mS))) :=
  (gf 11 7 l0 σ).bind fun v1 =>
  (ln v1 σ).bind fun v2 =>
  if l4 < v2 then 
    M_Mo_wordOf_11 l0 l1 l2 l3 l4 0 σ
  else
    some (.inr (0, σ))
set_option maxRecDepth 100000 in
theorem E_Mo_wordOf_4 (l0 l1 l2 l3 l4 : Int) (σ : mS) : mblk c_Mo_wordOf K_Mo_wordOf (C_Mo_wordOf) (F_Mo_wordOf_4) (fun v σ => some (.inr (v, σ))) 71 4 ([(3, l0), (1, l1), (1, l2), (1, l3), (1, l4), (0, 0), (0, 0), (0, 0)]) [] σ = B_Mo_wordOf_4 l0 l1 l2 l3 l4 σ := rfl
def M_Mo_wordOf_4 (l0 l1 l2 l3 l4 : Int) (σ : mS) : Option (Int × mS) := miter (fun s : Int × Int × mS => B_Mo_wordOf_4 l0 l1 l2 s.1 s.2.1 s.2.2) mN (l3, l4, σ)
def F_Mo_wordOf_0 : Nat → List mV → List mV → mS → Option (Int × mS) := fun i L st σ => match i, L, st with
  | 4, [(3, l0), (1, l1), (1, l2), (1, l3), (1, l4), _, _, _], [] => M_Mo_wordOf_4 l0 l1 l2 l3 l4 σ
  | _, _, _ => none
def M_Mo_wordOf (l0 l1 l2 : Int) (σ : mS) : Option (Int × mS) :=
  M_Mo_wordOf_4 l0 l1 l2 1 0 σ
set_option maxRecDepth 100000 in
theorem E_Mo_wordOf_0 (l0 l1 l2 : Int) (σ : mS) : mblk c_Mo_wordOf K_Mo_wordOf (C_Mo_wordOf) (F_Mo_wordOf_0) (fun v σ => some (v, σ)) 71 0 (mInit 8 [(3, l0), (1, l1), (1, l2)]) [] σ = M_Mo_wordOf l0 l1 l2 σ := rfl
def C_Mo_splits : Nat → List mV → mS → Option (Int × mS) := fun k as σ => match k, as with
  | 78, [(1, a0)] => M_Mo_isSmall a0 σ
  | 79, [(1, a0)] => M_Mo_isDigit a0 σ
  | 80, [(3, a0), (1, a1), (1, a2)] => M_Mo_wordOf a0 a1 a2 σ
  | _, _ => none
def K_Mo_splits : Nat → Bool := fun i => i.beq 5 || i.beq 25 || i.beq 36 || i.beq 39 || i.beq 50 || i.beq 87 || i.beq 127
def F_Mo_splits_127 : Nat → List mV → List mV → mS → Option (((Int × mS) ⊕ (Int × mS))) := fun i L st σ => match i, L, st with
  | 5, [(3, l0), (1, l1), (1, l2), _, _, _], [] => some (.inl (l2, σ))
  | _, _, _ => none
def M_Mo_splits_127 (l0 l1 l4 : Int) (σ : mS) : Option (((Int × mS) ⊕ (Int × mS))) :=
  (gf 11 15 l0 σ).bind fun v1 =>
  (pf 11 15 l0 (w32 (v1 + 1)) σ).bind fun σ =>
  some (.inl (l4, σ))
set_option maxRecDepth 100000 in
theorem E_Mo_splits_127 (l0 l1 l4 : Int) (σ : mS) : mblk c_Mo_splits K_Mo_splits (C_Mo_splits) (F_Mo_splits_127) (fun v σ => some (.inr (v, σ))) 156 127 ([(3, l0), (1, l1), (0, 0), (0, 0), (1, l4), (0, 0)]) [] σ = M_Mo_splits_127 l0 l1 l4 σ := rfl
def F_Mo_splits_87 : Nat → List mV → List mV → mS → Option (((Int × mS) ⊕ ((Int × mS) ⊕ (Int × mS)))) := fun i L st σ => match i, L, st with
  | 87, [(3, l0), (1, l1), _, (1, l3), (1, l4), (1, l5)], [] => some (.inl (l5, σ))
  | 127, [(3, l0), (1, l1), _, _, (1, l4), _], [] => (M_Mo_splits_127 l0 l1 l4 σ).bind fun z => some (.inr z)
  | _, _, _ => none
def B_Mo_splits_87 (l0 l1 l3 l4 l5 : Int) (σ : mS) : Option (((Int × mS) ⊕ ((Int × mS) ⊕ (Int × mS)))) :=
  if l5 < l4 then 
    (M_Mo_isDigit l3 σ).bind fun p1 =>
    if p1.1 = 0 then 
      (M_Mo_splits_127 l0 l1 l4 p1.2).bind fun z => some (.inr z)
    else
      (gf 11 13 l0 p1.2).bind fun v2 =>
      (gf 11 15 l0 p1.2).bind fun v3 =>
      (gf 11 13 l0 p1.2).bind fun v4 =>
      (gf 11 15 l0 p1.2).bind fun v5 =>
      (ld 100 v4 v5 p1.2).bind fun v6 =>
      if 1000000 < v6 then 
        (gf 11 13 l0 p1.2).bind fun v7 =>
        (gf 11 15 l0 p1.2).bind fun v8 =>
        (ld 100 v7 v8 p1.2).bind fun v9 =>
        (sd 100 v2 v3 v9 p1.2).bind fun σ =>
        some (.inl (w32 (l5 + 1), σ))
      else
        (gf 11 13 l0 p1.2).bind fun v10 =>
        (gf 11 15 l0 p1.2).bind fun v11 =>
        (ld 100 v10 v11 p1.2).bind fun v12 =>
        (gf 11 8 l0 p1.2).bind fun v13 =>
        (ld 101 v13 l5 p1.2).bind fun v14 =>
        (sd 100 v2 v3 (w32 ((w32 ((w32 (10 * v12)) + v14)) - 48)) p1.2).bind fun σ =>
        some (.inl (w32 (l5 + 1), σ))
  else
    (M_Mo_splits_127 l0 l1 l4 σ).bind fun z => some (.inr z)
set_option maxRecDepth 100000 in
theorem E_Mo_splits_87 (l0 l1 l3 l4 l5 : Int) (σ : mS) : mblk c_Mo_splits K_Mo_splits (C_Mo_splits) (F_Mo_splits_87) (fun v σ => some (.inr (.inr (v, σ)))) 156 87 ([(3, l0), (1, l1), (0, 0), (1, l3), (1, l4), (1, l5)]) [] σ = B_Mo_splits_87 l0 l1 l3 l4 l5 σ := rfl
def M_Mo_splits_87 (l0 l1 l3 l4 l5 : Int) (σ : mS) : Option (((Int × mS) ⊕ (Int × mS))) := miter (fun s : Int × mS => B_Mo_splits_87 l0 l1 l3 l4 s.1 s.2) mN (l5, σ)
def F_Mo_splits_50 : Nat → List mV → List mV → mS → Option (((Int × mS) ⊕ (Int × mS))) := fun i L st σ => match i, L, st with
  | 87, [(3, l0), (1, l1), _, (1, l3), (1, l4), (1, l5)], [] => M_Mo_splits_87 l0 l1 l3 l4 l5 σ
  | _, _, _ => none
def M_Mo_splits_50 (l0 l1 l2 l3 l4 : Int) (σ : mS) : Option (((Int × mS) ⊕ (Int × mS))) :=
  (gf 11 14 l0 σ).bind fun v1 =>
  (gf 11 15 l0 σ).bind fun v2 =>
  (sd 100 v1 v2 l2 σ).bind fun σ =>
  (gf 11 13 l0 σ).bind fun v3 =>
  (gf 11 15 l0 σ).bind fun v4 =>
  (sd 100 v3 v4 0 σ).bind fun σ =>
  (gf 11 12 l0 σ).bind fun v5 =>
  (gf 11 15 l0 σ).bind fun v6 =>
  (M_Mo_isSmall l3 σ).bind fun p7 =>
  if p7.1 = 0 then 
    (M_Mo_isDigit l3 p7.2).bind fun p8 =>
    if p8.1 = 0 then 
      (sd 100 v5 v6 (w32 (100 + (iand l3 255))) p8.2).bind fun σ =>
      M_Mo_splits_87 l0 l1 l3 l4 l2 σ
    else
      (sd 100 v5 v6 50 p8.2).bind fun σ =>
      M_Mo_splits_87 l0 l1 l3 l4 l2 σ
  else
    (gk 11 l0 p7.2).bind fun _ => (M_Mo_wordOf l0 l2 l4 p7.2).bind fun p9 =>
    (sd 100 v5 v6 p9.1 p9.2).bind fun σ =>
    M_Mo_splits_87 l0 l1 l3 l4 l2 σ
set_option maxRecDepth 100000 in
theorem E_Mo_splits_50 (l0 l1 l2 l3 l4 : Int) (σ : mS) : mblk c_Mo_splits K_Mo_splits (C_Mo_splits) (F_Mo_splits_50) (fun v σ => some (.inr (v, σ))) 156 50 ([(3, l0), (1, l1), (1, l2), (1, l3), (1, l4), (0, 0)]) [] σ = M_Mo_splits_50 l0 l1 l2 l3 l4 σ := rfl
def F_Mo_splits_39 : Nat → List mV → List mV → mS → Option (((Int × mS) ⊕ ((Int × mS) ⊕ (Int × mS)))) := fun i L st σ => match i, L, st with
  | 39, [(3, l0), (1, l1), (1, l2), (1, l3), (1, l4), _], [] => some (.inl (l4, σ))
  | 50, [(3, l0), (1, l1), (1, l2), (1, l3), (1, l4), _], [] => (M_Mo_splits_50 l0 l1 l2 l3 l4 σ).bind fun z => some (.inr z)
  | _, _, _ => none
def B_Mo_splits_39 (l0 l1 l2 l3 l4 : Int) (σ : mS) : Option (((Int × mS) ⊕ ((Int × mS) ⊕ (Int × mS)))) :=
  if l4 < l1 then 
    (gf 11 8 l0 σ).bind fun v1 =>
    (ld 101 v1 l4 σ).bind fun v2 =>
    (M_Mo_isDigit v2 σ).bind fun p3 =>
    if p3.1 = 0 then 
      (M_Mo_splits_50 l0 l1 l2 l3 l4 p3.2).bind fun z => some (.inr z)
    else
      some (.inl (w32 (l4 + 1), p3.2))
  else
    (M_Mo_splits_50 l0 l1 l2 l3 l4 σ).bind fun z => some (.inr z)
set_option maxRecDepth 100000 in
theorem E_Mo_splits_39 (l0 l1 l2 l3 l4 : Int) (σ : mS) : mblk c_Mo_splits K_Mo_splits (C_Mo_splits) (F_Mo_splits_39) (fun v σ => some (.inr (.inr (v, σ)))) 156 39 ([(3, l0), (1, l1), (1, l2), (1, l3), (1, l4), (0, 0)]) [] σ = B_Mo_splits_39 l0 l1 l2 l3 l4 σ := rfl
def M_Mo_splits_39 (l0 l1 l2 l3 l4 : Int) (σ : mS) : Option (((Int × mS) ⊕ (Int × mS))) := miter (fun s : Int × mS => B_Mo_splits_39 l0 l1 l2 l3 s.1 s.2) mN (l4, σ)
def F_Mo_splits_36 : Nat → List mV → List mV → mS → Option (((Int × mS) ⊕ (Int × mS))) := fun i L st σ => match i, L, st with
  | 39, [(3, l0), (1, l1), (1, l2), (1, l3), (1, l4), _], [] => M_Mo_splits_39 l0 l1 l2 l3 l4 σ
  | 50, [(3, l0), (1, l1), (1, l2), (1, l3), (1, l4), _], [] => M_Mo_splits_50 l0 l1 l2 l3 l4 σ
  | _, _, _ => none
def M_Mo_splits_36 (l0 l1 l2 l3 l4 : Int) (σ : mS) : Option (((Int × mS) ⊕ (Int × mS))) :=
  (M_Mo_isDigit l3 σ).bind fun p1 =>
  if p1.1 = 0 then 
    M_Mo_splits_50 l0 l1 l2 l3 l4 p1.2
  else
    M_Mo_splits_39 l0 l1 l2 l3 l4 p1.2
set_option maxRecDepth 100000 in
theorem E_Mo_splits_36 (l0 l1 l2 l3 l4 : Int) (σ : mS) : mblk c_Mo_splits K_Mo_splits (C_Mo_splits) (F_Mo_splits_36) (fun v σ => some (.inr (v, σ))) 156 36 ([(3, l0), (1, l1), (1, l2), (1, l3), (1, l4), (0, 0)]) [] σ = M_Mo_splits_36 l0 l1 l2 l3 l4 σ := rfl
def F_Mo_splits_25 : Nat → List mV → List mV → mS → Option (((Int × mS) ⊕ ((Int × mS) ⊕ (Int × mS)))) := fun i L st σ => match i, L, st with
  | 25, [(3, l0), (1, l1), (1, l2), (1, l3), (1, l4), _], [] => some (.inl (l4, σ))
  | 36, [(3, l0), (1, l1), (1, l2), (1, l3), (1, l4), _], [] => (M_Mo_splits_36 l0 l1 l2 l3 l4 σ).bind fun z => some (.inr z)
  | _, _, _ => none
def B_Mo_splits_25 (l0 l1 l2 l3 l4 : Int) (σ : mS) : Option (((Int × mS) ⊕ ((Int × mS) ⊕ (Int × mS)))) :=
  if l4 < l1 then 
    (gf 11 8 l0 σ).bind fun v1 =>
    (ld 101 v1 l4 σ).bind fun v2 =>
    (M_Mo_isSmall v2 σ).bind fun p3 =>
    if p3.1 = 0 then 
      (M_Mo_splits_36 l0 l1 l2 l3 l4 p3.2).bind fun z => some (.inr z)
    else
      some (.inl (w32 (l4 + 1), p3.2))
  else
    (M_Mo_splits_36 l0 l1 l2 l3 l4 σ).bind fun z => some (.inr z)
set_option maxRecDepth 100000 in
theorem E_Mo_splits_25 (l0 l1 l2 l3 l4 : Int) (σ : mS) : mblk c_Mo_splits K_Mo_splits (C_Mo_splits) (F_Mo_splits_25) (fun v σ => some (.inr (.inr (v, σ)))) 156 25 ([(3, l0), (1, l1), (1, l2), (1, l3), (1, l4), (0, 0)]) [] σ = B_Mo_splits_25 l0 l1 l2 l3 l4 σ := rfl
def M_Mo_splits_25 (l0 l1 l2 l3 l4 : Int) (σ : mS) : Option (((Int × mS) ⊕ (Int × mS))) := miter (fun s : Int × mS => B_Mo_splits_25 l0 l1 l2 l3 s.1 s.2) mN (l4, σ)
def F_Mo_splits_5 : Nat → List mV → List mV → mS → Option (((Int × mS) ⊕ (Int × mS))) := fun i L st σ => match i, L, st with
  | 5, [(3, l0), (1, l1), (1, l2), _, _, _], [] => some (.inl (l2, σ))
  | 25, [(3, l0), (1, l1), (1, l2), (1, l3), (1, l4), _], [] => M_Mo_splits_25 l0 l1 l2 l3 l4 σ
  | 36, [(3, l0), (1, l1), (1, l2), (1, l3), (1, l4), _], [] => M_Mo_splits_36 l0 l1 l2 l3 l4 σ
  | _, _, _ => none
def B_Mo_splits_5 (l0 l1 l2 : Int) (σ : mS) : Option (((Int × mS) ⊕ (Int × mS))) :=
  if l2 < l1 then 
    (gf 11 8 l0 σ).bind fun v1 =>
    (ld 101 v1 l2 σ).bind fun v2 =>
    if v2 = 32 then 
      some (.inl (w32 (l2 + 1), σ))
    else
      (M_Mo_isSmall v2 σ).bind fun p3 =>
      if p3.1 = 0 then 
        M_Mo_splits_36 l0 l1 l2 v2 (w32 (l2 + 1)) p3.2
      else
        M_Mo_splits_25 l0 l1 l2 v2 (w32 (l2 + 1)) p3.2
  else
    (gf 11 14 l0 σ).bind fun v4 =>
    (gf 11 15 l0 σ).bind fun v5 =>
    (sd 100 v4 v5 l1 σ).bind fun σ =>
    (gf 11 12 l0 σ).bind fun v6 =>
    (gf 11 15 l0 σ).bind fun v7 =>
    (sd 100 v6 v7 0 σ).bind fun σ =>
    (gf 11 13 l0 σ).bind fun v8 =>
    (gf 11 15 l0 σ).bind fun v9 =>
    (sd 100 v8 v9 0 σ).bind fun σ =>
    some (.inr (0, σ))
set_option maxRecDepth 100000 in
theorem E_Mo_splits_5 (l0 l1 l2 : Int) (σ : mS) : mblk c_Mo_splits K_Mo_splits (C_Mo_splits) (F_Mo_splits_5) (fun v σ => some (.inr (v, σ))) 156 5 ([(3, l0), (1, l1), (1, l2), (0, 0), (0, 0), (0, 0)]) [] σ = B_Mo_splits_5 l0 l1 l2 σ := rfl
def M_Mo_splits_5 (l0 l1 l2 : Int) (σ : mS) : Option (Int × mS) := miter (fun s : Int × mS => B_Mo_splits_5 l0 l1 s.1 s.2) mN (l2, σ)
def F_Mo_splits_0 : Nat → List mV → List mV → mS → Option (Int × mS) := fun i L st σ => match i, L, st with
  | 5, [(3, l0), (1, l1), (1, l2), _, _, _], [] => M_Mo_splits_5 l0 l1 l2 σ
  | _, _, _ => none
def M_Mo_splits (l0 l1 : Int) (σ : mS) : Option (Int × mS) :=
  (pf 11 15 l0 0 σ).bind fun σ =>
  M_Mo_splits_5 l0 l1 0 σ
set_option maxRecDepth 100000 in
theorem E_Mo_splits_0 (l0 l1 : Int) (σ : mS) : mblk c_Mo_splits K_Mo_splits (C_Mo_splits) (F_Mo_splits_0) (fun v σ => some (v, σ)) 156 0 (mInit 6 [(3, l0), (1, l1)]) [] σ = M_Mo_splits l0 l1 σ := rfl
def C_Mo_fine : Nat → List mV → mS → Option (Int × mS) := fun k as σ => match k, as with
  | _, _ => none
def K_Mo_fine : Nat → Bool := fun i => false
def F_Mo_fine_0 : Nat → List mV → List mV → mS → Option (Int × mS) := fun i L st σ => match i, L, st with
  | _, _, _ => none
def M_Mo_fine (l0 : Int) (σ : mS) : Option (Int × mS) :=
  (gf 11 18 l0 σ).bind fun v1 =>
  if v1 = (-1) then 
    if 1 = 0 ∨ 1 = 1 then some (1, σ) else none
  else
    if 0 = 0 ∨ 0 = 1 then some (0, σ) else none
set_option maxRecDepth 100000 in
theorem E_Mo_fine_0 (l0 : Int) (σ : mS) : mblk c_Mo_fine K_Mo_fine (C_Mo_fine) (F_Mo_fine_0) (fun v σ => some (v, σ)) 9 0 (mInit 1 [(3, l0)]) [] σ = M_Mo_fine l0 σ := rfl
def C_Mo_faults : Nat → List mV → mS → Option (Int × mS) := fun k as σ => match k, as with
  | 82, [(3, a0)] => M_Mo_fine a0 σ
  | _, _ => none
def K_Mo_faults : Nat → Bool := fun i => false
def F_Mo_faults_0 : Nat → List mV → List mV → mS → Option (Int × mS) := fun i L st σ => match i, L, st with
  | _, _, _ => none
def M_Mo_faults (l0 : Int) (σ : mS) : Option (Int × mS) :=
  (gk 11 l0 σ).bind fun _ => (M_Mo_fine l0 σ).bind fun p1 =>
  if p1.1 = 0 then 
    some (0, p1.2)
  else
    (gf 11 14 l0 p1.2).bind fun v2 =>
    (gf 11 16 l0 p1.2).bind fun v3 =>
    (ld 100 v2 v3 p1.2).bind fun v4 =>
    (pf 11 18 l0 v4 p1.2).bind fun σ =>
    some (0, σ)
set_option maxRecDepth 100000 in
theorem E_Mo_faults_0 (l0 : Int) (σ : mS) : mblk c_Mo_faults K_Mo_faults (C_Mo_faults) (F_Mo_faults_0) (fun v σ => some (v, σ)) 12 0 (mInit 1 [(3, l0)]) [] σ = M_Mo_faults l0 σ := rfl
def C_Mo_takes0 : Nat → List mV → mS → Option (Int × mS) := fun k as σ => match k, as with
  | 82, [(3, a0)] => M_Mo_fine a0 σ
  | _, _ => none
def K_Mo_takes0 : Nat → Bool := fun i => i.beq 12 || i.beq 13
def F_Mo_takes0_13 : Nat → List mV → List mV → mS → Option (Int × mS) := fun i L st σ => match i, L, st with
  | _, _, _ => none
def M_Mo_takes0_13 (l0 s0 : Int) (σ : mS) : Option (Int × mS) :=
  if s0 = 0 then 
    if s0 = 0 ∨ s0 = 1 then some (s0, σ) else none
  else
    (gf 11 16 l0 σ).bind fun v1 =>
    (pf 11 16 l0 (w32 (v1 + 1)) σ).bind fun σ =>
    if s0 = 0 ∨ s0 = 1 then some (s0, σ) else none
set_option maxRecDepth 100000 in
theorem E_Mo_takes0_13 (l0 s0 : Int) (σ : mS) : mblk c_Mo_takes0 K_Mo_takes0 (C_Mo_takes0) (F_Mo_takes0_13) (fun v σ => some (v, σ)) 25 13 ([(3, l0), (0, 0), (0, 0)]) [(1, s0)] σ = M_Mo_takes0_13 l0 s0 σ := rfl
def F_Mo_takes0_12 : Nat → List mV → List mV → mS → Option (Int × mS) := fun i L st σ => match i, L, st with
  | 13, [(3, l0), _, _], [(1, s0)] => M_Mo_takes0_13 l0 s0 σ
  | _, _, _ => none
def M_Mo_takes0_12 (l0 : Int) (σ : mS) : Option (Int × mS) :=
  M_Mo_takes0_13 l0 0 σ
set_option maxRecDepth 100000 in
theorem E_Mo_takes0_12 (l0 : Int) (σ : mS) : mblk c_Mo_takes0 K_Mo_takes0 (C_Mo_takes0) (F_Mo_takes0_12) (fun v σ => some (v, σ)) 25 12 ([(3, l0), (0, 0), (0, 0)]) [] σ = M_Mo_takes0_12 l0 σ := rfl
def F_Mo_takes0_0 : Nat → List mV → List mV → mS → Option (Int × mS) := fun i L st σ => match i, L, st with
  | 12, [(3, l0), _, _], [] => M_Mo_takes0_12 l0 σ
  | 13, [(3, l0), _, _], [(1, s0)] => M_Mo_takes0_13 l0 s0 σ
  | _, _, _ => none
def M_Mo_takes0 (l0 l1 : Int) (σ : mS) : Option (Int × mS) :=
  (gk 11 l0 σ).bind fun _ => (M_Mo_fine l0 σ).bind fun p1 =>
  if p1.1 = 0 then 
    M_Mo_takes0_12 l0 p1.2
  else
    (gf 11 12 l0 p1.2).bind fun v2 =>
    (gf 11 16 l0 p1.2).bind fun v3 =>
    (ld 100 v2 v3 p1.2).bind fun v4 =>
    if v4 = l1 then 
      M_Mo_takes0_13 l0 1 p1.2
    else
      M_Mo_takes0_12 l0 p1.2
set_option maxRecDepth 100000 in
theorem E_Mo_takes0_0 (l0 l1 : Int) (σ : mS) : mblk c_Mo_takes0 K_Mo_takes0 (C_Mo_takes0) (F_Mo_takes0_0) (fun v σ => some (v, σ)) 25 0 (mInit 3 [(3, l0), (1, l1)]) [] σ = M_Mo_takes0 l0 l1 σ := rfl
def C_Mo_must : Nat → List mV → mS → Option (Int × mS) := fun k as σ => match k, as with
  | 83, [(3, a0)] => M_Mo_faults a0 σ
  | 84, [(3, a0), (1, a1)] => M_Mo_takes0 a0 a1 σ
  | _, _ => none
def K_Mo_must : Nat → Bool := fun i => false
def F_Mo_must_0 : Nat → List mV → List mV → mS → Option (Int × mS) := fun i L st σ => match i, L, st with
  | _, _, _ => none
def M_Mo_must (l0 l1 : Int) (σ : mS) : Option (Int × mS) :=
  (gk 11 l0 σ).bind fun _ => (M_Mo_takes0 l0 l1 σ).bind fun p1 =>
  if p1.1 = 0 then 
    (gk 11 l0 p1.2).bind fun _ => (M_Mo_faults l0 p1.2).bind fun p2 =>
    some (0, p2.2)
  else
    some (0, p1.2)
set_option maxRecDepth 100000 in
theorem E_Mo_must_0 (l0 l1 : Int) (σ : mS) : mblk c_Mo_must K_Mo_must (C_Mo_must) (F_Mo_must_0) (fun v σ => some (v, σ)) 8 0 (mInit 2 [(3, l0), (1, l1)]) [] σ = M_Mo_must l0 l1 σ := rfl
def C_Mo_leaf : Nat → List mV → mS → Option (Int × mS) := fun k as σ => match k, as with
  | 82, [(3, a0)] => M_Mo_fine a0 σ
  | 83, [(3, a0)] => M_Mo_faults a0 σ
  | _, _ => none
def K_Mo_leaf : Nat → Bool := fun i => i.beq 6
def F_Mo_leaf_6 : Nat → List mV → List mV → mS → Option (Int × mS) := fun i L st σ => match i, L, st with
  | _, _, _ => none
def M_Mo_leaf_6 (l0 : Int) (σ : mS) : Option (Int × mS) :=
  (gf 11 17 l0 σ).bind fun v1 =>
  (pf 11 17 l0 (w32 (v1 + 1)) σ).bind fun σ =>
  (gk 11 l0 σ).bind fun _ => (M_Mo_fine l0 σ).bind fun p2 =>
  if p2.1 = 0 then 
    some (0, p2.2)
  else
    (gf 11 16 l0 p2.2).bind fun v3 =>
    (pf 11 16 l0 (w32 (v3 + 1)) p2.2).bind fun σ =>
    some (0, σ)
set_option maxRecDepth 100000 in
theorem E_Mo_leaf_6 (l0 : Int) (σ : mS) : mblk c_Mo_leaf K_Mo_leaf (C_Mo_leaf) (F_Mo_leaf_6) (fun v σ => some (v, σ)) 23 6 ([(3, l0)]) [] σ = M_Mo_leaf_6 l0 σ := rfl
def F_Mo_leaf_0 : Nat → List mV → List mV → mS → Option (Int × mS) := fun i L st σ => match i, L, st with
  | 6, [(3, l0)], [] => M_Mo_leaf_6 l0 σ
  | _, _, _ => none
def M_Mo_leaf (l0 : Int) (σ : mS) : Option (Int × mS) :=
  (gf 11 17 l0 σ).bind fun v1 =>
  if v1 = 50 then 
    (gk 11 l0 σ).bind fun _ => (M_Mo_faults l0 σ).bind fun p2 =>
    M_Mo_leaf_6 l0 p2.2
  else
    M_Mo_leaf_6 l0 σ
set_option maxRecDepth 100000 in
theorem E_Mo_leaf_0 (l0 : Int) (σ : mS) : mblk c_Mo_leaf K_Mo_leaf (C_Mo_leaf) (F_Mo_leaf_0) (fun v σ => some (v, σ)) 23 0 (mInit 1 [(3, l0)]) [] σ = M_Mo_leaf l0 σ := rfl
def C_Mo_sign : Nat → List mV → mS → Option (Int × mS) := fun k as σ => match k, as with
  | _, _ => none
def K_Mo_sign : Nat → Bool := fun i => false
def F_Mo_sign_0 : Nat → List mV → List mV → mS → Option (Int × mS) := fun i L st σ => match i, L, st with
  | _, _, _ => none
def M_Mo_sign (l0 : Int) (σ : mS) : Option (Int × mS) :=
  some (w32 (100 + l0), σ)
set_option maxRecDepth 100000 in
theorem E_Mo_sign_0 (l0 : Int) (σ : mS) : mblk c_Mo_sign K_Mo_sign (C_Mo_sign) (F_Mo_sign_0) (fun v σ => some (v, σ)) 5 0 (mInit 1 [(1, l0)]) [] σ = M_Mo_sign l0 σ := rfl
def C_Mo_readSum (G : Nat → List mV → mS → Option (Int × mS)) : Nat → List mV → mS → Option (Int × mS) := fun k as σ => match k, as with
  | 84, [(3, a0), (1, a1)] => M_Mo_takes0 a0 a1 σ
  | 87, [(1, a0)] => M_Mo_sign a0 σ
  | 93, [(3, a0), (1, a1)] => G 93 [(3, a0), (1, a1)] σ
  | _, _ => none
def K_Mo_readSum : Nat → Bool := fun i => i.beq 3
def F_Mo_readSum_3 (G : Nat → List mV → mS → Option (Int × mS)) : Nat → List mV → List mV → mS → Option (((mS) ⊕ (Int × mS))) := fun i L st σ => match i, L, st with
  | 3, [(3, l0), (1, l1)], [] => some (.inl σ)
  | _, _, _ => none
def B_Mo_readSum_3 (G : Nat → List mV → mS → Option (Int × mS)) (l0 l1 : Int) (σ : mS) : Option (((mS) ⊕ (Int × mS))) :=
  (M_Mo_sign 43 σ).bind fun p1 =>
  (gk 11 l0 p1.2).bind fun _ => (M_Mo_takes0 l0 p1.1 p1.2).bind fun p2 =>
  if p2.1 = 0 then 
    (M_Mo_sign 45 p2.2).bind fun p3 =>
    (gk 11 l0 p3.2).bind fun _ => (M_Mo_takes0 l0 p3.1 p3.2).bind fun p4 =>
    if p4.1 = 0 then 
      some (.inr (0, p4.2))
    else
      (gk 11 l0 p4.2).bind fun _ => (G 93 [(3, l0), (1, l1)] p4.2).bind fun p5 =>
      some (.inl p5.2)
  else
    (gk 11 l0 p2.2).bind fun _ => (G 93 [(3, l0), (1, l1)] p2.2).bind fun p6 =>
    some (.inl p6.2)
set_option maxRecDepth 100000 in
theorem E_Mo_readSum_3 (G : Nat → List mV → mS → Option (Int × mS)) (l0 l1 : Int) (σ : mS) : mblk c_Mo_readSum K_Mo_readSum (C_Mo_readSum G) (F_Mo_readSum_3 G) (fun v σ => some (.inr (v, σ))) 19 3 ([(3, l0), (1, l1)]) [] σ = B_Mo_readSum_3 G l0 l1 σ := rfl
def M_Mo_readSum_3 (G : Nat → List mV → mS → Option (Int × mS)) (l0 l1 : Int) (σ : mS) : Option (Int × mS) := miter (fun s : mS => B_Mo_readSum_3 G l0 l1 s) mN σ
def F_Mo_readSum_0 (G : Nat → List mV → mS → Option (Int × mS)) : Nat → List mV → List mV → mS → Option (Int × mS) := fun i L st σ => match i, L, st with
  | 3, [(3, l0), (1, l1)], [] => M_Mo_readSum_3 G l0 l1 σ
  | _, _, _ => none
def B_Mo_readSum (G : Nat → List mV → mS → Option (Int × mS)) (l0 l1 : Int) (σ : mS) : Option (Int × mS) :=
  (gk 11 l0 σ).bind fun _ => (G 93 [(3, l0), (1, l1)] σ).bind fun p1 =>
  M_Mo_readSum_3 G l0 l1 p1.2
set_option maxRecDepth 100000 in
theorem E_Mo_readSum_0 (G : Nat → List mV → mS → Option (Int × mS)) (l0 l1 : Int) (σ : mS) : mblk c_Mo_readSum K_Mo_readSum (C_Mo_readSum G) (F_Mo_readSum_0 G) (fun v σ => some (v, σ)) 19 0 (mInit 2 [(3, l0), (1, l1)]) [] σ = B_Mo_readSum G l0 l1 σ := rfl
def C_Mo_readTerm (G : Nat → List mV → mS → Option (Int × mS)) : Nat → List mV → mS → Option (Int × mS) := fun k as σ => match k, as with
  | 84, [(3, a0), (1, a1)] => M_Mo_takes0 a0 a1 σ
  | 87, [(1, a0)] => M_Mo_sign a0 σ
  | 94, [(3, a0), (1, a1)] => G 94 [(3, a0), (1, a1)] σ
  | _, _ => none
def K_Mo_readTerm : Nat → Bool := fun i => i.beq 3
def F_Mo_readTerm_3 (G : Nat → List mV → mS → Option (Int × mS)) : Nat → List mV → List mV → mS → Option (((mS) ⊕ (Int × mS))) := fun i L st σ => match i, L, st with
  | 3, [(3, l0), (1, l1)], [] => some (.inl σ)
  | _, _, _ => none
def B_Mo_readTerm_3 (G : Nat → List mV → mS → Option (Int × mS)) (l0 l1 : Int) (σ : mS) : Option (((mS) ⊕ (Int × mS))) :=
  (M_Mo_sign 42 σ).bind fun p1 =>
  (gk 11 l0 p1.2).bind fun _ => (M_Mo_takes0 l0 p1.1 p1.2).bind fun p2 =>
  if p2.1 = 0 then 
    (M_Mo_sign 47 p2.2).bind fun p3 =>
    (gk 11 l0 p3.2).bind fun _ => (M_Mo_takes0 l0 p3.1 p3.2).bind fun p4 =>
    if p4.1 = 0 then 
      some (.inr (0, p4.2))
    else
      (gk 11 l0 p4.2).bind fun _ => (G 94 [(3, l0), (1, l1)] p4.2).bind fun p5 =>
      some (.inl p5.2)
  else
    (gk 11 l0 p2.2).bind fun _ => (G 94 [(3, l0), (1, l1)] p2.2).bind fun p6 =>
    some (.inl p6.2)
set_option maxRecDepth 100000 in
theorem E_Mo_readTerm_3 (G : Nat → List mV → mS → Option (Int × mS)) (l0 l1 : Int) (σ : mS) : mblk c_Mo_readTerm K_Mo_readTerm (C_Mo_readTerm G) (F_Mo_readTerm_3 G) (fun v σ => some (.inr (v, σ))) 19 3 ([(3, l0), (1, l1)]) [] σ = B_Mo_readTerm_3 G l0 l1 σ := rfl
def M_Mo_readTerm_3 (G : Nat → List mV → mS → Option (Int × mS)) (l0 l1 : Int) (σ : mS) : Option (Int × mS) := miter (fun s : mS => B_Mo_readTerm_3 G l0 l1 s) mN σ
def F_Mo_readTerm_0 (G : Nat → List mV → mS → Option (Int × mS)) : Nat → List mV → List mV → mS → Option (Int × mS) := fun i L st σ => match i, L, st with
  | 3, [(3, l0), (1, l1)], [] => M_Mo_readTerm_3 G l0 l1 σ
  | _, _, _ => none
def B_Mo_readTerm (G : Nat → List mV → mS → Option (Int × mS)) (l0 l1 : Int) (σ : mS) : Option (Int × mS) :=
  (gk 11 l0 σ).bind fun _ => (G 94 [(3, l0), (1, l1)] σ).bind fun p1 =>
  M_Mo_readTerm_3 G l0 l1 p1.2
set_option maxRecDepth 100000 in
theorem E_Mo_readTerm_0 (G : Nat → List mV → mS → Option (Int × mS)) (l0 l1 : Int) (σ : mS) : mblk c_Mo_readTerm K_Mo_readTerm (C_Mo_readTerm G) (F_Mo_readTerm_0 G) (fun v σ => some (v, σ)) 19 0 (mInit 2 [(3, l0), (1, l1)]) [] σ = B_Mo_readTerm G l0 l1 σ := rfl
def C_Mo_readPart (G : Nat → List mV → mS → Option (Int × mS)) : Nat → List mV → mS → Option (Int × mS) := fun k as σ => match k, as with
  | 82, [(3, a0)] => M_Mo_fine a0 σ
  | 83, [(3, a0)] => M_Mo_faults a0 σ
  | 85, [(3, a0), (1, a1)] => M_Mo_must a0 a1 σ
  | 86, [(3, a0)] => M_Mo_leaf a0 σ
  | 87, [(1, a0)] => M_Mo_sign a0 σ
  | 92, [(3, a0), (1, a1)] => G 92 [(3, a0), (1, a1)] σ
  | _, _ => none
def K_Mo_readPart : Nat → Bool := fun i => i.beq 19 || i.beq 49
def F_Mo_readPart_49 (G : Nat → List mV → mS → Option (Int × mS)) : Nat → List mV → List mV → mS → Option (Int × mS) := fun i L st σ => match i, L, st with
  | _, _, _ => none
def M_Mo_readPart_49 (G : Nat → List mV → mS → Option (Int × mS)) (l0 l2 : Int) (σ : mS) : Option (Int × mS) :=
  if l2 < 6 then 
    (gk 11 l0 σ).bind fun _ => (M_Mo_faults l0 σ).bind fun p1 =>
    some (0, p1.2)
  else
    if 11 < l2 then 
      (gk 11 l0 σ).bind fun _ => (M_Mo_faults l0 σ).bind fun p2 =>
      some (0, p2.2)
    else
      (gk 11 l0 σ).bind fun _ => (M_Mo_leaf l0 σ).bind fun p3 =>
      some (0, p3.2)
set_option maxRecDepth 100000 in
theorem E_Mo_readPart_49 (G : Nat → List mV → mS → Option (Int × mS)) (l0 l2 : Int) (σ : mS) : mblk c_Mo_readPart K_Mo_readPart (C_Mo_readPart G) (F_Mo_readPart_49 G) (fun v σ => some (v, σ)) 62 49 ([(3, l0), (0, 0), (1, l2)]) [] σ = M_Mo_readPart_49 G l0 l2 σ := rfl
def F_Mo_readPart_19 (G : Nat → List mV → mS → Option (Int × mS)) : Nat → List mV → List mV → mS → Option (Int × mS) := fun i L st σ => match i, L, st with
  | _, _, _ => none
def M_Mo_readPart_19 (G : Nat → List mV → mS → Option (Int × mS)) (l0 l1 : Int) (σ : mS) : Option (Int × mS) :=
  (gk 11 l0 σ).bind fun _ => (M_Mo_fine l0 σ).bind fun p1 =>
  if p1.1 = 0 then 
    some (0, p1.2)
  else
    (gf 11 16 l0 p1.2).bind fun v2 =>
    (pf 11 16 l0 (w32 (v2 + 1)) p1.2).bind fun σ =>
    (gk 11 l0 σ).bind fun _ => (G 92 [(3, l0), (1, w32 (l1 + 1))] σ).bind fun p3 =>
    (M_Mo_sign 93 p3.2).bind fun p4 =>
    (gk 11 l0 p4.2).bind fun _ => (M_Mo_must l0 p4.1 p4.2).bind fun p5 =>
    some (0, p5.2)
set_option maxRecDepth 100000 in
theorem E_Mo_readPart_19 (G : Nat → List mV → mS → Option (Int × mS)) (l0 l1 : Int) (σ : mS) : mblk c_Mo_readPart K_Mo_readPart (C_Mo_readPart G) (F_Mo_readPart_19 G) (fun v σ => some (v, σ)) 62 19 ([(3, l0), (1, l1), (0, 0)]) [] σ = M_Mo_readPart_19 G l0 l1 σ := rfl
def F_Mo_readPart_0 (G : Nat → List mV → mS → Option (Int × mS)) : Nat → List mV → List mV → mS → Option (Int × mS) := fun i L st σ => match i, L, st with
  | 19, [(3, l0), (1, l1), _], [] => M_Mo_readPart_19 G l0 l1 σ
  | 49, [(3, l0), _, (1, l2)], [] => M_Mo_readPart_49 G l0 l2 σ
  | _, _, _ => none
def B_Mo_readPart (G : Nat → List mV → mS → Option (Int × mS)) (l0 l1 : Int) (σ : mS) : Option (Int × mS) :=
  (gk 11 l0 σ).bind fun _ => (M_Mo_fine l0 σ).bind fun p1 =>
  if p1.1 = 0 then 
    some (0, p1.2)
  else
    (gf 11 12 l0 p1.2).bind fun v2 =>
    (gf 11 16 l0 p1.2).bind fun v3 =>
    (ld 100 v2 v3 p1.2).bind fun v4 =>
    (M_Mo_sign 91 p1.2).bind fun p5 =>
    if v4 = p5.1 then 
      if l1 = 8 then 
        (gk 11 l0 p5.2).bind fun _ => (M_Mo_faults l0 p5.2).bind fun p6 =>
        M_Mo_readPart_19 G l0 l1 p6.2
      else
        M_Mo_readPart_19 G l0 l1 p5.2
    else
      if v4 = 50 then 
        (gf 11 13 l0 p5.2).bind fun v7 =>
        (gf 11 16 l0 p5.2).bind fun v8 =>
        (ld 100 v7 v8 p5.2).bind fun v9 =>
        if 1000 < v9 then 
          M_Mo_readPart_49 G l0 v4 p5.2
        else
          (gk 11 l0 p5.2).bind fun _ => (M_Mo_leaf l0 p5.2).bind fun p10 =>
          some (0, p10.2)
      else
        M_Mo_readPart_49 G l0 v4 p5.2
set_option maxRecDepth 100000 in
theorem E_Mo_readPart_0 (G : Nat → List mV → mS → Option (Int × mS)) (l0 l1 : Int) (σ : mS) : mblk c_Mo_readPart K_Mo_readPart (C_Mo_readPart G) (F_Mo_readPart_0 G) (fun v σ => some (v, σ)) 62 0 (mInit 3 [(3, l0), (1, l1)]) [] σ = B_Mo_readPart G l0 l1 σ := rfl
def R_Mo_readSum : Nat → Nat → List mV → mS → Option (Int × mS)
  | 0, _, _, _ => none
  | n + 1, k, as, σ => match k, as with
    | 92, [(3, a0), (1, a1)] => B_Mo_readSum (R_Mo_readSum n) a0 a1 σ
    | 93, [(3, a0), (1, a1)] => B_Mo_readTerm (R_Mo_readSum n) a0 a1 σ
    | 94, [(3, a0), (1, a1)] => B_Mo_readPart (R_Mo_readSum n) a0 a1 σ
    | _, _ => none
def C_Mo_readTest (G : Nat → List mV → mS → Option (Int × mS)) : Nat → List mV → mS → Option (Int × mS) := fun k as σ => match k, as with
  | 84, [(3, a0), (1, a1)] => M_Mo_takes0 a0 a1 σ
  | 90, [(3, a0), (1, a1)] => G 90 [(3, a0), (1, a1)] σ
  | _, _ => none
def K_Mo_readTest : Nat → Bool := fun i => i.beq 3
def F_Mo_readTest_3 (G : Nat → List mV → mS → Option (Int × mS)) : Nat → List mV → List mV → mS → Option (((mS) ⊕ (Int × mS))) := fun i L st σ => match i, L, st with
  | 3, [(3, l0), (1, l1)], [] => some (.inl σ)
  | _, _, _ => none
def B_Mo_readTest_3 (G : Nat → List mV → mS → Option (Int × mS)) (l0 l1 : Int) (σ : mS) : Option (((mS) ⊕ (Int × mS))) :=
  (gk 11 l0 σ).bind fun _ => (M_Mo_takes0 l0 3 σ).bind fun p1 =>
  if p1.1 = 0 then 
    some (.inr (0, p1.2))
  else
    (gk 11 l0 p1.2).bind fun _ => (G 90 [(3, l0), (1, l1)] p1.2).bind fun p2 =>
    some (.inl p2.2)
set_option maxRecDepth 100000 in
theorem E_Mo_readTest_3 (G : Nat → List mV → mS → Option (Int × mS)) (l0 l1 : Int) (σ : mS) : mblk c_Mo_readTest K_Mo_readTest (C_Mo_readTest G) (F_Mo_readTest_3 G) (fun v σ => some (.inr (v, σ))) 13 3 ([(3, l0), (1, l1)]) [] σ = B_Mo_readTest_3 G l0 l1 σ := rfl
def M_Mo_readTest_3 (G : Nat → List mV → mS → Option (Int × mS)) (l0 l1 : Int) (σ : mS) : Option (Int × mS) := miter (fun s : mS => B_Mo_readTest_3 G l0 l1 s) mN σ
def F_Mo_readTest_0 (G : Nat → List mV → mS → Option (Int × mS)) : Nat → List mV → List mV → mS → Option (Int × mS) := fun i L st σ => match i, L, st with
  | 3, [(3, l0), (1, l1)], [] => M_Mo_readTest_3 G l0 l1 σ
  | _, _, _ => none
def B_Mo_readTest (G : Nat → List mV → mS → Option (Int × mS)) (l0 l1 : Int) (σ : mS) : Option (Int × mS) :=
  (gk 11 l0 σ).bind fun _ => (G 90 [(3, l0), (1, l1)] σ).bind fun p1 =>
  M_Mo_readTest_3 G l0 l1 p1.2
set_option maxRecDepth 100000 in
theorem E_Mo_readTest_0 (G : Nat → List mV → mS → Option (Int × mS)) (l0 l1 : Int) (σ : mS) : mblk c_Mo_readTest K_Mo_readTest (C_Mo_readTest G) (F_Mo_readTest_0 G) (fun v σ => some (v, σ)) 13 0 (mInit 2 [(3, l0), (1, l1)]) [] σ = B_Mo_readTest G l0 l1 σ := rfl
def C_Mo_readBoth (G : Nat → List mV → mS → Option (Int × mS)) : Nat → List mV → mS → Option (Int × mS) := fun k as σ => match k, as with
  | 84, [(3, a0), (1, a1)] => M_Mo_takes0 a0 a1 σ
  | 91, [(3, a0), (1, a1)] => G 91 [(3, a0), (1, a1)] σ
  | _, _ => none
def K_Mo_readBoth : Nat → Bool := fun i => i.beq 3
def F_Mo_readBoth_3 (G : Nat → List mV → mS → Option (Int × mS)) : Nat → List mV → List mV → mS → Option (((mS) ⊕ (Int × mS))) := fun i L st σ => match i, L, st with
  | 3, [(3, l0), (1, l1)], [] => some (.inl σ)
  | _, _, _ => none
def B_Mo_readBoth_3 (G : Nat → List mV → mS → Option (Int × mS)) (l0 l1 : Int) (σ : mS) : Option (((mS) ⊕ (Int × mS))) :=
  (gk 11 l0 σ).bind fun _ => (M_Mo_takes0 l0 4 σ).bind fun p1 =>
  if p1.1 = 0 then 
    some (.inr (0, p1.2))
  else
    (gk 11 l0 p1.2).bind fun _ => (G 91 [(3, l0), (1, l1)] p1.2).bind fun p2 =>
    some (.inl p2.2)
set_option maxRecDepth 100000 in
theorem E_Mo_readBoth_3 (G : Nat → List mV → mS → Option (Int × mS)) (l0 l1 : Int) (σ : mS) : mblk c_Mo_readBoth K_Mo_readBoth (C_Mo_readBoth G) (F_Mo_readBoth_3 G) (fun v σ => some (.inr (v, σ))) 13 3 ([(3, l0), (1, l1)]) [] σ = B_Mo_readBoth_3 G l0 l1 σ := rfl
def M_Mo_readBoth_3 (G : Nat → List mV → mS → Option (Int × mS)) (l0 l1 : Int) (σ : mS) : Option (Int × mS) := miter (fun s : mS => B_Mo_readBoth_3 G l0 l1 s) mN σ
def F_Mo_readBoth_0 (G : Nat → List mV → mS → Option (Int × mS)) : Nat → List mV → List mV → mS → Option (Int × mS) := fun i L st σ => match i, L, st with
  | 3, [(3, l0), (1, l1)], [] => M_Mo_readBoth_3 G l0 l1 σ
  | _, _, _ => none
def B_Mo_readBoth (G : Nat → List mV → mS → Option (Int × mS)) (l0 l1 : Int) (σ : mS) : Option (Int × mS) :=
  (gk 11 l0 σ).bind fun _ => (G 91 [(3, l0), (1, l1)] σ).bind fun p1 =>
  M_Mo_readBoth_3 G l0 l1 p1.2
set_option maxRecDepth 100000 in
theorem E_Mo_readBoth_0 (G : Nat → List mV → mS → Option (Int × mS)) (l0 l1 : Int) (σ : mS) : mblk c_Mo_readBoth K_Mo_readBoth (C_Mo_readBoth G) (F_Mo_readBoth_0 G) (fun v σ => some (v, σ)) 13 0 (mInit 2 [(3, l0), (1, l1)]) [] σ = B_Mo_readBoth G l0 l1 σ := rfl
def C_Mo_readPlain (G : Nat → List mV → mS → Option (Int × mS)) : Nat → List mV → mS → Option (Int × mS) := fun k as σ => match k, as with
  | 82, [(3, a0)] => M_Mo_fine a0 σ
  | 83, [(3, a0)] => M_Mo_faults a0 σ
  | 84, [(3, a0), (1, a1)] => M_Mo_takes0 a0 a1 σ
  | 85, [(3, a0), (1, a1)] => M_Mo_must a0 a1 σ
  | 87, [(1, a0)] => M_Mo_sign a0 σ
  | 89, [(3, a0), (1, a1)] => G 89 [(3, a0), (1, a1)] σ
  | 92, [(3, a0), (1, a1)] => R_Mo_readSum mD 92 [(3, a0), (1, a1)] σ
  | _, _ => none
def K_Mo_readPlain : Nat → Bool := fun i => i.beq 2 || i.beq 28
def F_Mo_readPlain_28 (G : Nat → List mV → mS → Option (Int × mS)) : Nat → List mV → List mV → mS → Option (Int × mS) := fun i L st σ => match i, L, st with
  | _, _, _ => none
def M_Mo_readPlain_28 (G : Nat → List mV → mS → Option (Int × mS)) (l0 l1 : Int) (σ : mS) : Option (Int × mS) :=
  (gk 11 l0 σ).bind fun _ => (M_Mo_fine l0 σ).bind fun p1 =>
  if p1.1 = 0 then 
    some (0, p1.2)
  else
    (gf 11 16 l0 p1.2).bind fun v2 =>
    (pf 11 16 l0 (w32 (v2 + 1)) p1.2).bind fun σ =>
    (gk 11 l0 σ).bind fun _ => (G 89 [(3, l0), (1, w32 (l1 + 1))] σ).bind fun p3 =>
    (M_Mo_sign 41 p3.2).bind fun p4 =>
    (gk 11 l0 p4.2).bind fun _ => (M_Mo_must l0 p4.1 p4.2).bind fun p5 =>
    some (0, p5.2)
set_option maxRecDepth 100000 in
theorem E_Mo_readPlain_28 (G : Nat → List mV → mS → Option (Int × mS)) (l0 l1 : Int) (σ : mS) : mblk c_Mo_readPlain K_Mo_readPlain (C_Mo_readPlain G) (F_Mo_readPlain_28 G) (fun v σ => some (v, σ)) 70 28 ([(3, l0), (1, l1), (0, 0), (0, 0)]) [] σ = M_Mo_readPlain_28 G l0 l1 σ := rfl
def F_Mo_readPlain_2 (G : Nat → List mV → mS → Option (Int × mS)) : Nat → List mV → List mV → mS → Option (((Int × mS) ⊕ (Int × mS))) := fun i L st σ => match i, L, st with
  | 2, [(3, l0), (1, l1), (1, l2), _], [] => some (.inl (l2, σ))
  | 28, [(3, l0), (1, l1), _, _], [] => (M_Mo_readPlain_28 G l0 l1 σ).bind fun z => some (.inr z)
  | _, _, _ => none
def B_Mo_readPlain_2 (G : Nat → List mV → mS → Option (Int × mS)) (l0 l1 l2 : Int) (σ : mS) : Option (((Int × mS) ⊕ (Int × mS))) :=
  if l2 = 0 then 
    (gk 11 l0 σ).bind fun _ => (M_Mo_fine l0 σ).bind fun p1 =>
    if p1.1 = 0 then 
      some (.inr (0, p1.2))
    else
      (gf 11 12 l0 p1.2).bind fun v2 =>
      (gf 11 16 l0 p1.2).bind fun v3 =>
      (ld 100 v2 v3 p1.2).bind fun v4 =>
      (M_Mo_sign 40 p1.2).bind fun p5 =>
      if v4 = p5.1 then 
        if l1 = 8 then 
          (gk 11 l0 p5.2).bind fun _ => (M_Mo_faults l0 p5.2).bind fun p6 =>
          (M_Mo_readPlain_28 G l0 l1 p6.2).bind fun z => some (.inr z)
        else
          (M_Mo_readPlain_28 G l0 l1 p5.2).bind fun z => some (.inr z)
      else
        (gk 11 l0 p5.2).bind fun _ => (R_Mo_readSum mD 92 [(3, l0), (1, l1)] p5.2).bind fun p7 =>
        (M_Mo_sign 60 p7.2).bind fun p8 =>
        (gk 11 l0 p8.2).bind fun _ => (M_Mo_takes0 l0 p8.1 p8.2).bind fun p9 =>
        if p9.1 = 0 then 
          (M_Mo_sign 62 p9.2).bind fun p10 =>
          (gk 11 l0 p10.2).bind fun _ => (M_Mo_takes0 l0 p10.1 p10.2).bind fun p11 =>
          if p11.1 = 0 then 
            (M_Mo_sign 61 p11.2).bind fun p12 =>
            (gk 11 l0 p12.2).bind fun _ => (M_Mo_must l0 p12.1 p12.2).bind fun p13 =>
            (gk 11 l0 p13.2).bind fun _ => (R_Mo_readSum mD 92 [(3, l0), (1, l1)] p13.2).bind fun p14 =>
            some (.inr (0, p14.2))
          else
            (gk 11 l0 p11.2).bind fun _ => (R_Mo_readSum mD 92 [(3, l0), (1, l1)] p11.2).bind fun p15 =>
            some (.inr (0, p15.2))
        else
          (gk 11 l0 p9.2).bind fun _ => (R_Mo_readSum mD 92 [(3, l0), (1, l1)] p9.2).bind fun p16 =>
          some (.inr (0, p16.2))
  else
    (gk 11 l0 σ).bind fun _ => (M_Mo_takes0 l0 5 σ).bind fun p17 =>
    some (.inl (p17.1, p17.2))
set_option maxRecDepth 100000 in
theorem E_Mo_readPlain_2 (G : Nat → List mV → mS → Option (Int × mS)) (l0 l1 l2 : Int) (σ : mS) : mblk c_Mo_readPlain K_Mo_readPlain (C_Mo_readPlain G) (F_Mo_readPlain_2 G) (fun v σ => some (.inr (v, σ))) 70 2 ([(3, l0), (1, l1), (1, l2), (0, 0)]) [] σ = B_Mo_readPlain_2 G l0 l1 l2 σ := rfl
def M_Mo_readPlain_2 (G : Nat → List mV → mS → Option (Int × mS)) (l0 l1 l2 : Int) (σ : mS) : Option (Int × mS) := miter (fun s : Int × mS => B_Mo_readPlain_2 G l0 l1 s.1 s.2) mN (l2, σ)
def F_Mo_readPlain_0 (G : Nat → List mV → mS → Option (Int × mS)) : Nat → List mV → List mV → mS → Option (Int × mS) := fun i L st σ => match i, L, st with
  | 2, [(3, l0), (1, l1), (1, l2), _], [] => M_Mo_readPlain_2 G l0 l1 l2 σ
  | _, _, _ => none
def B_Mo_readPlain (G : Nat → List mV → mS → Option (Int × mS)) (l0 l1 : Int) (σ : mS) : Option (Int × mS) :=
  M_Mo_readPlain_2 G l0 l1 1 σ
set_option maxRecDepth 100000 in
theorem E_Mo_readPlain_0 (G : Nat → List mV → mS → Option (Int × mS)) (l0 l1 : Int) (σ : mS) : mblk c_Mo_readPlain K_Mo_readPlain (C_Mo_readPlain G) (F_Mo_readPlain_0 G) (fun v σ => some (v, σ)) 70 0 (mInit 4 [(3, l0), (1, l1)]) [] σ = B_Mo_readPlain G l0 l1 σ := rfl
def R_Mo_readTest : Nat → Nat → List mV → mS → Option (Int × mS)
  | 0, _, _, _ => none
  | n + 1, k, as, σ => match k, as with
    | 89, [(3, a0), (1, a1)] => B_Mo_readTest (R_Mo_readTest n) a0 a1 σ
    | 90, [(3, a0), (1, a1)] => B_Mo_readBoth (R_Mo_readTest n) a0 a1 σ
    | 91, [(3, a0), (1, a1)] => B_Mo_readPlain (R_Mo_readTest n) a0 a1 σ
    | _, _ => none
def C_Mo_readClause : Nat → List mV → mS → Option (Int × mS) := fun k as σ => match k, as with
  | 84, [(3, a0), (1, a1)] => M_Mo_takes0 a0 a1 σ
  | 85, [(3, a0), (1, a1)] => M_Mo_must a0 a1 σ
  | 89, [(3, a0), (1, a1)] => R_Mo_readTest mD 89 [(3, a0), (1, a1)] σ
  | 92, [(3, a0), (1, a1)] => R_Mo_readSum mD 92 [(3, a0), (1, a1)] σ
  | _, _ => none
def K_Mo_readClause : Nat → Bool := fun i => false
def F_Mo_readClause_0 : Nat → List mV → List mV → mS → Option (Int × mS) := fun i L st σ => match i, L, st with
  | _, _, _ => none
def M_Mo_readClause (l0 : Int) (σ : mS) : Option (Int × mS) :=
  (gk 11 l0 σ).bind fun _ => (M_Mo_must l0 1 σ).bind fun p1 =>
  (gk 11 l0 p1.2).bind fun _ => (R_Mo_readSum mD 92 [(3, l0), (1, 0)] p1.2).bind fun p2 =>
  (gk 11 l0 p2.2).bind fun _ => (M_Mo_takes0 l0 2 p2.2).bind fun p3 =>
  if p3.1 = 0 then 
    some (0, p3.2)
  else
    (gk 11 l0 p3.2).bind fun _ => (R_Mo_readTest mD 89 [(3, l0), (1, 0)] p3.2).bind fun p4 =>
    some (0, p4.2)
set_option maxRecDepth 100000 in
theorem E_Mo_readClause_0 (l0 : Int) (σ : mS) : mblk c_Mo_readClause K_Mo_readClause (C_Mo_readClause) (F_Mo_readClause_0) (fun v σ => some (v, σ)) 15 0 (mInit 1 [(3, l0)]) [] σ = M_Mo_readClause l0 σ := rfl
def C_Mo_reads : Nat → List mV → mS → Option (Int × mS) := fun k as σ => match k, as with
  | 81, [(3, a0), (1, a1)] => M_Mo_splits a0 a1 σ
  | 82, [(3, a0)] => M_Mo_fine a0 σ
  | 83, [(3, a0)] => M_Mo_faults a0 σ
  | 84, [(3, a0), (1, a1)] => M_Mo_takes0 a0 a1 σ
  | 87, [(1, a0)] => M_Mo_sign a0 σ
  | 88, [(3, a0)] => M_Mo_readClause a0 σ
  | _, _ => none
def K_Mo_reads : Nat → Bool := fun i => i.beq 20 || i.beq 30 || i.beq 47
def F_Mo_reads_47 : Nat → List mV → List mV → mS → Option (Int × mS) := fun i L st σ => match i, L, st with
  | _, _, _ => none
def M_Mo_reads_47 (l0 : Int) (σ : mS) : Option (Int × mS) :=
  (gf 11 18 l0 σ).bind fun v1 =>
  (pf 11 11 l0 v1 σ).bind fun σ =>
  (gk 11 l0 σ).bind fun _ => (M_Mo_fine l0 σ).bind fun p2 =>
  if p2.1 = 0 ∨ p2.1 = 1 then some (p2.1, p2.2) else none
set_option maxRecDepth 100000 in
theorem E_Mo_reads_47 (l0 : Int) (σ : mS) : mblk c_Mo_reads K_Mo_reads (C_Mo_reads) (F_Mo_reads_47) (fun v σ => some (v, σ)) 55 47 ([(3, l0), (0, 0)]) [] σ = M_Mo_reads_47 l0 σ := rfl
def F_Mo_reads_30 : Nat → List mV → List mV → mS → Option (((Int × mS) ⊕ (Int × mS))) := fun i L st σ => match i, L, st with
  | 20, [(3, l0), (1, l1)], [] => some (.inl (l1, σ))
  | _, _, _ => none
def M_Mo_reads_30 (l0 l1 : Int) (σ : mS) : Option (((Int × mS) ⊕ (Int × mS))) :=
  (gk 11 l0 σ).bind fun _ => (M_Mo_fine l0 σ).bind fun p1 =>
  if p1.1 = 0 then 
    some (.inl (w32 (l1 + 1), p1.2))
  else
    (gk 11 l0 p1.2).bind fun _ => (M_Mo_readClause l0 p1.2).bind fun p2 =>
    some (.inl (w32 (l1 + 1), p2.2))
set_option maxRecDepth 100000 in
theorem E_Mo_reads_30 (l0 l1 : Int) (σ : mS) : mblk c_Mo_reads K_Mo_reads (C_Mo_reads) (F_Mo_reads_30) (fun v σ => some (.inr (v, σ))) 55 30 ([(3, l0), (1, l1)]) [] σ = M_Mo_reads_30 l0 l1 σ := rfl
def F_Mo_reads_20 : Nat → List mV → List mV → mS → Option (((Int × mS) ⊕ (Int × mS))) := fun i L st σ => match i, L, st with
  | 30, [(3, l0), (1, l1)], [] => M_Mo_reads_30 l0 l1 σ
  | 47, [(3, l0), _], [] => (M_Mo_reads_47 l0 σ).bind fun z => some (.inr z)
  | _, _, _ => none
def B_Mo_reads_20 (l0 l1 : Int) (σ : mS) : Option (((Int × mS) ⊕ (Int × mS))) :=
  (M_Mo_sign 59 σ).bind fun p1 =>
  (gk 11 l0 p1.2).bind fun _ => (M_Mo_takes0 l0 p1.1 p1.2).bind fun p2 =>
  if p2.1 = 0 then 
    (gk 11 l0 p2.2).bind fun _ => (M_Mo_fine l0 p2.2).bind fun p3 =>
    if p3.1 = 0 then 
      (M_Mo_reads_47 l0 p3.2).bind fun z => some (.inr z)
    else
      (gf 11 16 l0 p3.2).bind fun v4 =>
      (gf 11 15 l0 p3.2).bind fun v5 =>
      if v4 < v5 then 
        (gk 11 l0 p3.2).bind fun _ => (M_Mo_faults l0 p3.2).bind fun p6 =>
        (M_Mo_reads_47 l0 p6.2).bind fun z => some (.inr z)
      else
        (M_Mo_reads_47 l0 p3.2).bind fun z => some (.inr z)
  else
    if l1 = 12 then 
      (gk 11 l0 p2.2).bind fun _ => (M_Mo_faults l0 p2.2).bind fun p7 =>
      M_Mo_reads_30 l0 l1 p7.2
    else
      M_Mo_reads_30 l0 l1 p2.2
set_option maxRecDepth 100000 in
theorem E_Mo_reads_20 (l0 l1 : Int) (σ : mS) : mblk c_Mo_reads K_Mo_reads (C_Mo_reads) (F_Mo_reads_20) (fun v σ => some (.inr (v, σ))) 55 20 ([(3, l0), (1, l1)]) [] σ = B_Mo_reads_20 l0 l1 σ := rfl
def M_Mo_reads_20 (l0 l1 : Int) (σ : mS) : Option (Int × mS) := miter (fun s : Int × mS => B_Mo_reads_20 l0 s.1 s.2) mN (l1, σ)
def F_Mo_reads_0 : Nat → List mV → List mV → mS → Option (Int × mS) := fun i L st σ => match i, L, st with
  | 20, [(3, l0), (1, l1)], [] => M_Mo_reads_20 l0 l1 σ
  | _, _, _ => none
def M_Mo_reads (l0 : Int) (σ : mS) : Option (Int × mS) :=
  (gf 11 10 l0 σ).bind fun v1 =>
  (gk 11 l0 σ).bind fun _ => (M_Mo_splits l0 v1 σ).bind fun p2 =>
  (pf 11 10 l0 0 p2.2).bind fun σ =>
  (pf 11 16 l0 0 σ).bind fun σ =>
  (pf 11 17 l0 0 σ).bind fun σ =>
  (pf 11 18 l0 (-1) σ).bind fun σ =>
  (gk 11 l0 σ).bind fun _ => (M_Mo_readClause l0 σ).bind fun p3 =>
  M_Mo_reads_20 l0 1 p3.2
set_option maxRecDepth 100000 in
theorem E_Mo_reads_0 (l0 : Int) (σ : mS) : mblk c_Mo_reads K_Mo_reads (C_Mo_reads) (F_Mo_reads_0) (fun v σ => some (v, σ)) 55 0 (mInit 2 [(3, l0)]) [] σ = M_Mo_reads l0 σ := rfl
def C_Mo_law : Nat → List mV → mS → Option (Int × mS) := fun k as σ => match k, as with
  | 53, [(3, a0), (1, a1)] => M_Mo_refuses a0 a1 σ
  | 54, [(3, a0), (1, a1)] => M_Mo_good a0 a1 σ
  | 95, [(3, a0)] => M_Mo_reads a0 σ
  | _, _ => none
def K_Mo_law : Nat → Bool := fun i => i.beq 35
def F_Mo_law_35 : Nat → List mV → List mV → mS → Option (((Int × mS) ⊕ (Int × mS))) := fun i L st σ => match i, L, st with
  | 35, [(3, l0), (1, l1), (1, l2)], [] => some (.inl (l2, σ))
  | _, _, _ => none
def B_Mo_law_35 (l0 l1 l2 : Int) (σ : mS) : Option (((Int × mS) ⊕ (Int × mS))) :=
  (gf 11 15 l0 σ).bind fun v1 =>
  if l2 < v1 then 
    (gf 11 3 l0 σ).bind fun v2 =>
    (gf 11 12 l0 σ).bind fun v3 =>
    (ld 100 v3 l2 σ).bind fun v4 =>
    (sd 100 v2 (w32 ((w32 (194 + (w32 (400 * l1)))) + l2)) v4 σ).bind fun σ =>
    (gf 11 3 l0 σ).bind fun v5 =>
    (gf 11 13 l0 σ).bind fun v6 =>
    (ld 100 v6 l2 σ).bind fun v7 =>
    (sd 100 v5 (w32 ((w32 (2594 + (w32 (400 * l1)))) + l2)) v7 σ).bind fun σ =>
    some (.inl (w32 (l2 + 1), σ))
  else
    (gf 11 3 l0 σ).bind fun v8 =>
    (ld 100 v8 186 σ).bind fun v9 =>
    (sd 100 v8 186 (w32 (v9 + 1)) σ).bind fun σ =>
    (gk 11 l0 σ).bind fun _ => (M_Mo_good l0 l1 σ).bind fun p10 =>
    some (.inr (p10.1, p10.2))
set_option maxRecDepth 100000 in
theorem E_Mo_law_35 (l0 l1 l2 : Int) (σ : mS) : mblk c_Mo_law K_Mo_law (C_Mo_law) (F_Mo_law_35) (fun v σ => some (.inr (v, σ))) 82 35 ([(3, l0), (1, l1), (1, l2)]) [] σ = B_Mo_law_35 l0 l1 l2 σ := rfl
def M_Mo_law_35 (l0 l1 l2 : Int) (σ : mS) : Option (Int × mS) := miter (fun s : Int × mS => B_Mo_law_35 l0 l1 s.1 s.2) mN (l2, σ)
def F_Mo_law_0 : Nat → List mV → List mV → mS → Option (Int × mS) := fun i L st σ => match i, L, st with
  | 35, [(3, l0), (1, l1), (1, l2)], [] => M_Mo_law_35 l0 l1 l2 σ
  | _, _, _ => none
def M_Mo_law (l0 : Int) (σ : mS) : Option (Int × mS) :=
  (gf 11 3 l0 σ).bind fun v1 =>
  (ld 100 v1 186 σ).bind fun v2 =>
  if v2 = 6 then 
    (pf 11 10 l0 0 σ).bind fun σ =>
    (gk 11 l0 σ).bind fun _ => (M_Mo_refuses l0 (-5) σ).bind fun p3 =>
    some (p3.1, p3.2)
  else
    (gk 11 l0 σ).bind fun _ => (M_Mo_reads l0 σ).bind fun p4 =>
    if p4.1 = 0 then 
      (gk 11 l0 p4.2).bind fun _ => (M_Mo_refuses l0 (-6) p4.2).bind fun p5 =>
      some (p5.1, p5.2)
    else
      (gf 11 3 l0 p4.2).bind fun v6 =>
      (ld 100 v6 186 p4.2).bind fun v7 =>
      (gf 11 3 l0 p4.2).bind fun v8 =>
      (gf 11 15 l0 p4.2).bind fun v9 =>
      (sd 100 v8 (w32 (188 + v7)) v9 p4.2).bind fun σ =>
      M_Mo_law_35 l0 v7 0 σ
set_option maxRecDepth 100000 in
theorem E_Mo_law_0 (l0 : Int) (σ : mS) : mblk c_Mo_law K_Mo_law (C_Mo_law) (F_Mo_law_0) (fun v σ => some (v, σ)) 82 0 (mInit 3 [(3, l0)]) [] σ = M_Mo_law l0 σ := rfl
def C_Mo_fault : Nat → List mV → mS → Option (Int × mS) := fun k as σ => match k, as with
  | _, _ => none
def K_Mo_fault : Nat → Bool := fun i => false
def F_Mo_fault_0 : Nat → List mV → List mV → mS → Option (Int × mS) := fun i L st σ => match i, L, st with
  | _, _, _ => none
def M_Mo_fault (l0 : Int) (σ : mS) : Option (Int × mS) :=
  (gf 11 11 l0 σ).bind fun v1 =>
  some (v1, σ)
set_option maxRecDepth 100000 in
theorem E_Mo_fault_0 (l0 : Int) (σ : mS) : mblk c_Mo_fault K_Mo_fault (C_Mo_fault) (F_Mo_fault_0) (fun v σ => some (v, σ)) 4 0 (mInit 1 [(3, l0)]) [] σ = M_Mo_fault l0 σ := rfl
def C_Mo_force : Nat → List mV → mS → Option (Int × mS) := fun k as σ => match k, as with
  | 52, [(1, a0), (1, a1), (1, a2)] => M_Mo_lies a0 a1 a2 σ
  | 53, [(3, a0), (1, a1)] => M_Mo_refuses a0 a1 σ
  | 54, [(3, a0), (1, a1)] => M_Mo_good a0 a1 σ
  | _, _ => none
def K_Mo_force : Nat → Bool := fun i => false
def F_Mo_force_0 : Nat → List mV → List mV → mS → Option (Int × mS) := fun i L st σ => match i, L, st with
  | _, _, _ => none
def M_Mo_force (l0 l1 : Int) (σ : mS) : Option (Int × mS) :=
  (gf 11 3 l0 σ).bind fun v1 =>
  (ld 100 v1 186 σ).bind fun v2 =>
  (M_Mo_lies l1 (-1) (w32 (v2 - 1)) σ).bind fun p3 =>
  if p3.1 = 0 then 
    (gk 11 l0 p3.2).bind fun _ => (M_Mo_refuses l0 (-2) p3.2).bind fun p4 =>
    some (p4.1, p4.2)
  else
    (gf 11 3 l0 p3.2).bind fun v5 =>
    (ld 100 v5 187 p3.2).bind fun v6 =>
    (gf 11 3 l0 p3.2).bind fun v7 =>
    (sd 100 v7 187 l1 p3.2).bind fun σ =>
    (gk 11 l0 σ).bind fun _ => (M_Mo_good l0 v6 σ).bind fun p8 =>
    some (p8.1, p8.2)
set_option maxRecDepth 100000 in
theorem E_Mo_force_0 (l0 l1 : Int) (σ : mS) : mblk c_Mo_force K_Mo_force (C_Mo_force) (F_Mo_force_0) (fun v σ => some (v, σ)) 29 0 (mInit 3 [(3, l0), (1, l1)]) [] σ = M_Mo_force l0 l1 σ := rfl
def C_Mo_codeAt : Nat → List mV → mS → Option (Int × mS) := fun k as σ => match k, as with
  | _, _ => none
def K_Mo_codeAt : Nat → Bool := fun i => false
def F_Mo_codeAt_0 : Nat → List mV → List mV → mS → Option (Int × mS) := fun i L st σ => match i, L, st with
  | _, _, _ => none
def M_Mo_codeAt (l0 l1 : Int) (σ : mS) : Option (Int × mS) :=
  (gf 11 20 l0 σ).bind fun v1 =>
  if l1 < v1 then 
    (gf 11 3 l0 σ).bind fun v2 =>
    (ld 100 v2 (w32 (194 + l1)) σ).bind fun v3 =>
    some (v3, σ)
  else
    some (0, σ)
set_option maxRecDepth 100000 in
theorem E_Mo_codeAt_0 (l0 l1 : Int) (σ : mS) : mblk c_Mo_codeAt K_Mo_codeAt (C_Mo_codeAt) (F_Mo_codeAt_0) (fun v σ => some (v, σ)) 14 0 (mInit 2 [(3, l0), (1, l1)]) [] σ = M_Mo_codeAt l0 l1 σ := rfl
def C_Mo_passes0 : Nat → List mV → mS → Option (Int × mS) := fun k as σ => match k, as with
  | 99, [(3, a0), (1, a1)] => M_Mo_codeAt a0 a1 σ
  | _, _ => none
def K_Mo_passes0 : Nat → Bool := fun i => i.beq 9
def F_Mo_passes0_9 : Nat → List mV → List mV → mS → Option (Int × mS) := fun i L st σ => match i, L, st with
  | _, _, _ => none
def M_Mo_passes0_9 (l0 s0 : Int) (σ : mS) : Option (Int × mS) :=
  if s0 = 0 then 
    if s0 = 0 ∨ s0 = 1 then some (s0, σ) else none
  else
    (gf 11 19 l0 σ).bind fun v1 =>
    (pf 11 19 l0 (w32 (v1 + 1)) σ).bind fun σ =>
    if s0 = 0 ∨ s0 = 1 then some (s0, σ) else none
set_option maxRecDepth 100000 in
theorem E_Mo_passes0_9 (l0 s0 : Int) (σ : mS) : mblk c_Mo_passes0 K_Mo_passes0 (C_Mo_passes0) (F_Mo_passes0_9) (fun v σ => some (v, σ)) 21 9 ([(3, l0), (0, 0), (0, 0)]) [(1, s0)] σ = M_Mo_passes0_9 l0 s0 σ := rfl
def F_Mo_passes0_0 : Nat → List mV → List mV → mS → Option (Int × mS) := fun i L st σ => match i, L, st with
  | 9, [(3, l0), _, _], [(1, s0)] => M_Mo_passes0_9 l0 s0 σ
  | _, _, _ => none
def M_Mo_passes0 (l0 l1 : Int) (σ : mS) : Option (Int × mS) :=
  (gf 11 19 l0 σ).bind fun v1 =>
  (gk 11 l0 σ).bind fun _ => (M_Mo_codeAt l0 v1 σ).bind fun p2 =>
  if p2.1 = l1 then 
    M_Mo_passes0_9 l0 1 p2.2
  else
    M_Mo_passes0_9 l0 0 p2.2
set_option maxRecDepth 100000 in
theorem E_Mo_passes0_0 (l0 l1 : Int) (σ : mS) : mblk c_Mo_passes0 K_Mo_passes0 (C_Mo_passes0) (F_Mo_passes0_0) (fun v σ => some (v, σ)) 21 0 (mInit 3 [(3, l0), (1, l1)]) [] σ = M_Mo_passes0 l0 l1 σ := rfl
def C_Mo_bounded : Nat → List mV → mS → Option (Int × mS) := fun k as σ => match k, as with
  | _, _ => none
def K_Mo_bounded : Nat → Bool := fun i => i.beq 10 || i.beq 13
def F_Mo_bounded_13 : Nat → List mV → List mV → mS → Option (Int × mS) := fun i L st σ => match i, L, st with
  | _, _, _ => none
def M_Mo_bounded_13 (l0 l1 : Int) (σ : mS) : Option (Int × mS) :=
  (gf 11 21 l0 σ).bind fun v1 =>
  if v1 = 0 then 
    some (l1, σ)
  else
    some (0, σ)
set_option maxRecDepth 100000 in
theorem E_Mo_bounded_13 (l0 l1 : Int) (σ : mS) : mblk c_Mo_bounded K_Mo_bounded (C_Mo_bounded) (F_Mo_bounded_13) (fun v σ => some (v, σ)) 21 13 ([(3, l0), (2, l1), (0, 0), (0, 0)]) [] σ = M_Mo_bounded_13 l0 l1 σ := rfl
def F_Mo_bounded_10 : Nat → List mV → List mV → mS → Option (Int × mS) := fun i L st σ => match i, L, st with
  | 13, [(3, l0), (2, l1), _, _], [] => M_Mo_bounded_13 l0 l1 σ
  | _, _, _ => none
def M_Mo_bounded_10 (l0 l1 : Int) (σ : mS) : Option (Int × mS) :=
  (pz 11 21 l0 1 σ).bind fun σ =>
  M_Mo_bounded_13 l0 l1 σ
set_option maxRecDepth 100000 in
theorem E_Mo_bounded_10 (l0 l1 : Int) (σ : mS) : mblk c_Mo_bounded K_Mo_bounded (C_Mo_bounded) (F_Mo_bounded_10) (fun v σ => some (v, σ)) 21 10 ([(3, l0), (2, l1), (0, 0), (0, 0)]) [] σ = M_Mo_bounded_10 l0 l1 σ := rfl
def F_Mo_bounded_0 : Nat → List mV → List mV → mS → Option (Int × mS) := fun i L st σ => match i, L, st with
  | 10, [(3, l0), (2, l1), _, _], [] => M_Mo_bounded_10 l0 l1 σ
  | 13, [(3, l0), (2, l1), _, _], [] => M_Mo_bounded_13 l0 l1 σ
  | _, _, _ => none
def M_Mo_bounded (l0 l1 l3 : Int) (σ : mS) : Option (Int × mS) :=
  if l3 = 0 then 
    M_Mo_bounded_13 l0 l1 σ
  else
    if 0 < (lcp l1 1000000000) then 
      M_Mo_bounded_10 l0 l1 σ
    else
      if (lcp l1 (-1000000000)) < 0 then 
        M_Mo_bounded_10 l0 l1 σ
      else
        M_Mo_bounded_13 l0 l1 σ
set_option maxRecDepth 100000 in
theorem E_Mo_bounded_0 (l0 l1 l3 : Int) (σ : mS) : mblk c_Mo_bounded K_Mo_bounded (C_Mo_bounded) (F_Mo_bounded_0) (fun v σ => some (v, σ)) 21 0 (mInit 4 [(3, l0), (2, l1), (1, l3)]) [] σ = M_Mo_bounded l0 l1 l3 σ := rfl
def C_Mo_sumOf (G : Nat → List mV → mS → Option (Int × mS)) : Nat → List mV → mS → Option (Int × mS) := fun k as σ => match k, as with
  | 87, [(1, a0)] => M_Mo_sign a0 σ
  | 99, [(3, a0), (1, a1)] => M_Mo_codeAt a0 a1 σ
  | 101, [(3, a0), (2, a1), (1, a2)] => M_Mo_bounded a0 a1 a2 σ
  | 103, [(3, a0), (1, a1)] => G 103 [(3, a0), (1, a1)] σ
  | _, _ => none
def K_Mo_sumOf : Nat → Bool := fun i => i.beq 4 || i.beq 18 || i.beq 28
def F_Mo_sumOf_28 (G : Nat → List mV → mS → Option (Int × mS)) : Nat → List mV → List mV → mS → Option (((Int × mS) ⊕ (Int × mS))) := fun i L st σ => match i, L, st with
  | 4, [(3, l0), (1, l1), (2, l2), _, _, _, _], [] => some (.inl (l2, σ))
  | _, _, _ => none
def M_Mo_sumOf_28 (G : Nat → List mV → mS → Option (Int × mS)) (l0 l1 l2 s0 : Int) (σ : mS) : Option (((Int × mS) ⊕ (Int × mS))) :=
  (gf 11 19 l0 σ).bind fun v1 =>
  (pf 11 19 l0 (w32 (v1 + 1)) σ).bind fun σ =>
  (gk 11 l0 σ).bind fun _ => (G 103 [(3, l0), (1, l1)] σ).bind fun p2 =>
  if s0 = 0 then 
    (gk 11 l0 p2.2).bind fun _ => (M_Mo_bounded l0 (w64 (l2 - p2.1)) l1 p2.2).bind fun p3 =>
    some (.inl (p3.1, p3.2))
  else
    (gk 11 l0 p2.2).bind fun _ => (M_Mo_bounded l0 (w64 (l2 + p2.1)) l1 p2.2).bind fun p4 =>
    some (.inl (p4.1, p4.2))
set_option maxRecDepth 100000 in
theorem E_Mo_sumOf_28 (G : Nat → List mV → mS → Option (Int × mS)) (l0 l1 l2 s0 : Int) (σ : mS) : mblk c_Mo_sumOf K_Mo_sumOf (C_Mo_sumOf G) (F_Mo_sumOf_28 G) (fun v σ => some (.inr (v, σ))) 56 28 ([(3, l0), (1, l1), (2, l2), (0, 0), (0, 0), (0, 0), (0, 0)]) [(1, s0)] σ = M_Mo_sumOf_28 G l0 l1 l2 s0 σ := rfl
def F_Mo_sumOf_18 (G : Nat → List mV → mS → Option (Int × mS)) : Nat → List mV → List mV → mS → Option (((Int × mS) ⊕ (Int × mS))) := fun i L st σ => match i, L, st with
  | 28, [(3, l0), (1, l1), (2, l2), _, _, _, _], [(1, s0)] => M_Mo_sumOf_28 G l0 l1 l2 s0 σ
  | _, _, _ => none
def M_Mo_sumOf_18 (G : Nat → List mV → mS → Option (Int × mS)) (l0 l1 l2 : Int) (σ : mS) : Option (((Int × mS) ⊕ (Int × mS))) :=
  (gf 11 19 l0 σ).bind fun v1 =>
  (gk 11 l0 σ).bind fun _ => (M_Mo_codeAt l0 v1 σ).bind fun p2 =>
  (M_Mo_sign 43 p2.2).bind fun p3 =>
  if p2.1 = p3.1 then 
    M_Mo_sumOf_28 G l0 l1 l2 1 p3.2
  else
    M_Mo_sumOf_28 G l0 l1 l2 0 p3.2
set_option maxRecDepth 100000 in
theorem E_Mo_sumOf_18 (G : Nat → List mV → mS → Option (Int × mS)) (l0 l1 l2 : Int) (σ : mS) : mblk c_Mo_sumOf K_Mo_sumOf (C_Mo_sumOf G) (F_Mo_sumOf_18 G) (fun v σ => some (.inr (v, σ))) 56 18 ([(3, l0), (1, l1), (2, l2), (0, 0), (0, 0), (0, 0), (0, 0)]) [] σ = M_Mo_sumOf_18 G l0 l1 l2 σ := rfl
def F_Mo_sumOf_4 (G : Nat → List mV → mS → Option (Int × mS)) : Nat → List mV → List mV → mS → Option (((Int × mS) ⊕ (Int × mS))) := fun i L st σ => match i, L, st with
  | 18, [(3, l0), (1, l1), (2, l2), _, _, _, _], [] => M_Mo_sumOf_18 G l0 l1 l2 σ
  | _, _, _ => none
def B_Mo_sumOf_4 (G : Nat → List mV → mS → Option (Int × mS)) (l0 l1 l2 : Int) (σ : mS) : Option (((Int × mS) ⊕ (Int × mS))) :=
  (gf 11 19 l0 σ).bind fun v1 =>
  (gk 11 l0 σ).bind fun _ => (M_Mo_codeAt l0 v1 σ).bind fun p2 =>
  (M_Mo_sign 43 p2.2).bind fun p3 =>
  if p2.1 = p3.1 then 
    M_Mo_sumOf_18 G l0 l1 l2 p3.2
  else
    (gf 11 19 l0 p3.2).bind fun v4 =>
    (gk 11 l0 p3.2).bind fun _ => (M_Mo_codeAt l0 v4 p3.2).bind fun p5 =>
    (M_Mo_sign 45 p5.2).bind fun p6 =>
    if p5.1 = p6.1 then 
      M_Mo_sumOf_18 G l0 l1 l2 p6.2
    else
      some (.inr (l2, p6.2))
set_option maxRecDepth 100000 in
theorem E_Mo_sumOf_4 (G : Nat → List mV → mS → Option (Int × mS)) (l0 l1 l2 : Int) (σ : mS) : mblk c_Mo_sumOf K_Mo_sumOf (C_Mo_sumOf G) (F_Mo_sumOf_4 G) (fun v σ => some (.inr (v, σ))) 56 4 ([(3, l0), (1, l1), (2, l2), (0, 0), (0, 0), (0, 0), (0, 0)]) [] σ = B_Mo_sumOf_4 G l0 l1 l2 σ := rfl
def M_Mo_sumOf_4 (G : Nat → List mV → mS → Option (Int × mS)) (l0 l1 l2 : Int) (σ : mS) : Option (Int × mS) := miter (fun s : Int × mS => B_Mo_sumOf_4 G l0 l1 s.1 s.2) mN (l2, σ)
def F_Mo_sumOf_0 (G : Nat → List mV → mS → Option (Int × mS)) : Nat → List mV → List mV → mS → Option (Int × mS) := fun i L st σ => match i, L, st with
  | 4, [(3, l0), (1, l1), (2, l2), _, _, _, _], [] => M_Mo_sumOf_4 G l0 l1 l2 σ
  | _, _, _ => none
def B_Mo_sumOf (G : Nat → List mV → mS → Option (Int × mS)) (l0 l1 : Int) (σ : mS) : Option (Int × mS) :=
  (gk 11 l0 σ).bind fun _ => (G 103 [(3, l0), (1, l1)] σ).bind fun p1 =>
  M_Mo_sumOf_4 G l0 l1 p1.1 p1.2
set_option maxRecDepth 100000 in
theorem E_Mo_sumOf_0 (G : Nat → List mV → mS → Option (Int × mS)) (l0 l1 : Int) (σ : mS) : mblk c_Mo_sumOf K_Mo_sumOf (C_Mo_sumOf G) (F_Mo_sumOf_0 G) (fun v σ => some (v, σ)) 56 0 (mInit 7 [(3, l0), (1, l1)]) [] σ = B_Mo_sumOf G l0 l1 σ := rfl
def C_Mo_termOf (G : Nat → List mV → mS → Option (Int × mS)) : Nat → List mV → mS → Option (Int × mS) := fun k as σ => match k, as with
  | 87, [(1, a0)] => M_Mo_sign a0 σ
  | 99, [(3, a0), (1, a1)] => M_Mo_codeAt a0 a1 σ
  | 101, [(3, a0), (2, a1), (1, a2)] => M_Mo_bounded a0 a1 a2 σ
  | 104, [(3, a0), (1, a1)] => G 104 [(3, a0), (1, a1)] σ
  | _, _ => none
def K_Mo_termOf : Nat → Bool := fun i => i.beq 4 || i.beq 18 || i.beq 28 || i.beq 51 || i.beq 54 || i.beq 57
def F_Mo_termOf_57 (G : Nat → List mV → mS → Option (Int × mS)) : Nat → List mV → List mV → mS → Option (((Int × mS) ⊕ (Int × mS))) := fun i L st σ => match i, L, st with
  | 4, [(3, l0), (1, l1), (2, l2), _, _, _, _], [] => some (.inl (l2, σ))
  | _, _, _ => none
def M_Mo_termOf_57 (G : Nat → List mV → mS → Option (Int × mS)) (l0 l1 l2 l4 l5 : Int) (σ : mS) : Option (((Int × mS) ⊕ (Int × mS))) :=
  if l4 = 0 then 
    (ldv l2 l5).bind fun v1 =>
    (gk 11 l0 σ).bind fun _ => (M_Mo_bounded l0 v1 l1 σ).bind fun p2 =>
    some (.inl (p2.1, p2.2))
  else
    (gk 11 l0 σ).bind fun _ => (M_Mo_bounded l0 (w64 (l2 * l5)) l1 σ).bind fun p3 =>
    some (.inl (p3.1, p3.2))
set_option maxRecDepth 100000 in
theorem E_Mo_termOf_57 (G : Nat → List mV → mS → Option (Int × mS)) (l0 l1 l2 l4 l5 : Int) (σ : mS) : mblk c_Mo_termOf K_Mo_termOf (C_Mo_termOf G) (F_Mo_termOf_57 G) (fun v σ => some (.inr (v, σ))) 74 57 ([(3, l0), (1, l1), (2, l2), (0, 0), (1, l4), (2, l5), (0, 0)]) [] σ = M_Mo_termOf_57 G l0 l1 l2 l4 l5 σ := rfl
def F_Mo_termOf_54 (G : Nat → List mV → mS → Option (Int × mS)) : Nat → List mV → List mV → mS → Option (((Int × mS) ⊕ (Int × mS))) := fun i L st σ => match i, L, st with
  | 57, [(3, l0), (1, l1), (2, l2), _, (1, l4), (2, l5), _], [] => M_Mo_termOf_57 G l0 l1 l2 l4 l5 σ
  | _, _, _ => none
def M_Mo_termOf_54 (G : Nat → List mV → mS → Option (Int × mS)) (l0 l1 l2 l4 s1 s0 : Int) (σ : mS) : Option (((Int × mS) ⊕ (Int × mS))) :=
  (pz 11 21 s0 s1 σ).bind fun σ =>
  M_Mo_termOf_57 G l0 l1 l2 l4 1 σ
set_option maxRecDepth 100000 in
theorem E_Mo_termOf_54 (G : Nat → List mV → mS → Option (Int × mS)) (l0 l1 l2 l4 s1 s0 : Int) (σ : mS) : mblk c_Mo_termOf K_Mo_termOf (C_Mo_termOf G) (F_Mo_termOf_54 G) (fun v σ => some (.inr (v, σ))) 74 54 ([(3, l0), (1, l1), (2, l2), (0, 0), (1, l4), (0, 0), (0, 0)]) [(1, s1), (3, s0)] σ = M_Mo_termOf_54 G l0 l1 l2 l4 s1 s0 σ := rfl
def F_Mo_termOf_51 (G : Nat → List mV → mS → Option (Int × mS)) : Nat → List mV → List mV → mS → Option (((Int × mS) ⊕ (Int × mS))) := fun i L st σ => match i, L, st with
  | 54, [(3, l0), (1, l1), (2, l2), _, (1, l4), _, _], [(1, s1), (3, s0)] => M_Mo_termOf_54 G l0 l1 l2 l4 s1 s0 σ
  | _, _, _ => none
def M_Mo_termOf_51 (G : Nat → List mV → mS → Option (Int × mS)) (l0 l1 l2 l4 s0 : Int) (σ : mS) : Option (((Int × mS) ⊕ (Int × mS))) :=
  M_Mo_termOf_54 G l0 l1 l2 l4 1 s0 σ
set_option maxRecDepth 100000 in
theorem E_Mo_termOf_51 (G : Nat → List mV → mS → Option (Int × mS)) (l0 l1 l2 l4 s0 : Int) (σ : mS) : mblk c_Mo_termOf K_Mo_termOf (C_Mo_termOf G) (F_Mo_termOf_51 G) (fun v σ => some (.inr (v, σ))) 74 51 ([(3, l0), (1, l1), (2, l2), (0, 0), (1, l4), (0, 0), (0, 0)]) [(3, s0)] σ = M_Mo_termOf_51 G l0 l1 l2 l4 s0 σ := rfl
def F_Mo_termOf_28 (G : Nat → List mV → mS → Option (Int × mS)) : Nat → List mV → List mV → mS → Option (((Int × mS) ⊕ (Int × mS))) := fun i L st σ => match i, L, st with
  | 51, [(3, l0), (1, l1), (2, l2), _, (1, l4), _, _], [(3, s0)] => M_Mo_termOf_51 G l0 l1 l2 l4 s0 σ
  | 54, [(3, l0), (1, l1), (2, l2), _, (1, l4), _, _], [(1, s1), (3, s0)] => M_Mo_termOf_54 G l0 l1 l2 l4 s1 s0 σ
  | 57, [(3, l0), (1, l1), (2, l2), _, (1, l4), (2, l5), _], [] => M_Mo_termOf_57 G l0 l1 l2 l4 l5 σ
  | _, _, _ => none
def M_Mo_termOf_28 (G : Nat → List mV → mS → Option (Int × mS)) (l0 l1 l2 s0 : Int) (σ : mS) : Option (((Int × mS) ⊕ (Int × mS))) :=
  (gf 11 19 l0 σ).bind fun v1 =>
  (pf 11 19 l0 (w32 (v1 + 1)) σ).bind fun σ =>
  (gk 11 l0 σ).bind fun _ => (G 104 [(3, l0), (1, l1)] σ).bind fun p2 =>
  if s0 = 0 then 
    if (lcp p2.1 0) = 0 then 
      (gf 11 21 l0 p2.2).bind fun v3 =>
      if v3 = 0 then 
        if l1 = 0 then 
          M_Mo_termOf_54 G l0 l1 l2 s0 0 l0 p2.2
        else
          M_Mo_termOf_51 G l0 l1 l2 s0 l0 p2.2
      else
        M_Mo_termOf_51 G l0 l1 l2 s0 l0 p2.2
    else
      M_Mo_termOf_57 G l0 l1 l2 s0 p2.1 p2.2
  else
    M_Mo_termOf_57 G l0 l1 l2 s0 p2.1 p2.2
set_option maxRecDepth 100000 in
theorem E_Mo_termOf_28 (G : Nat → List mV → mS → Option (Int × mS)) (l0 l1 l2 s0 : Int) (σ : mS) : mblk c_Mo_termOf K_Mo_termOf (C_Mo_termOf G) (F_Mo_termOf_28 G) (fun v σ => some (.inr (v, σ))) 74 28 ([(3, l0), (1, l1), (2, l2), (0, 0), (0, 0), (0, 0), (0, 0)]) [(1, s0)] σ = M_Mo_termOf_28 G l0 l1 l2 s0 σ := rfl
def F_Mo_termOf_18 (G : Nat → List mV → mS → Option (Int × mS)) : Nat → List mV → List mV → mS → Option (((Int × mS) ⊕ (Int × mS))) := fun i L st σ => match i, L, st with
  | 28, [(3, l0), (1, l1), (2, l2), _, _, _, _], [(1, s0)] => M_Mo_termOf_28 G l0 l1 l2 s0 σ
  | _, _, _ => none
def M_Mo_termOf_18 (G : Nat → List mV → mS → Option (Int × mS)) (l0 l1 l2 : Int) (σ : mS) : Option (((Int × mS) ⊕ (Int × mS))) :=
  (gf 11 19 l0 σ).bind fun v1 =>
  (gk 11 l0 σ).bind fun _ => (M_Mo_codeAt l0 v1 σ).bind fun p2 =>
  (M_Mo_sign 42 p2.2).bind fun p3 =>
  if p2.1 = p3.1 then 
    M_Mo_termOf_28 G l0 l1 l2 1 p3.2
  else
    M_Mo_termOf_28 G l0 l1 l2 0 p3.2
set_option maxRecDepth 100000 in
theorem E_Mo_termOf_18 (G : Nat → List mV → mS → Option (Int × mS)) (l0 l1 l2 : Int) (σ : mS) : mblk c_Mo_termOf K_Mo_termOf (C_Mo_termOf G) (F_Mo_termOf_18 G) (fun v σ => some (.inr (v, σ))) 74 18 ([(3, l0), (1, l1), (2, l2), (0, 0), (0, 0), (0, 0), (0, 0)]) [] σ = M_Mo_termOf_18 G l0 l1 l2 σ := rfl
def F_Mo_termOf_4 (G : Nat → List mV → mS → Option (Int × mS)) : Nat → List mV → List mV → mS → Option (((Int × mS) ⊕ (Int × mS))) := fun i L st σ => match i, L, st with
  | 18, [(3, l0), (1, l1), (2, l2), _, _, _, _], [] => M_Mo_termOf_18 G l0 l1 l2 σ
  | _, _, _ => none
def B_Mo_termOf_4 (G : Nat → List mV → mS → Option (Int × mS)) (l0 l1 l2 : Int) (σ : mS) : Option (((Int × mS) ⊕ (Int × mS))) :=
  (gf 11 19 l0 σ).bind fun v1 =>
  (gk 11 l0 σ).bind fun _ => (M_Mo_codeAt l0 v1 σ).bind fun p2 =>
  (M_Mo_sign 42 p2.2).bind fun p3 =>
  if p2.1 = p3.1 then 
    M_Mo_termOf_18 G l0 l1 l2 p3.2
  else
    (gf 11 19 l0 p3.2).bind fun v4 =>
    (gk 11 l0 p3.2).bind fun _ => (M_Mo_codeAt l0 v4 p3.2).bind fun p5 =>
    (M_Mo_sign 47 p5.2).bind fun p6 =>
    if p5.1 = p6.1 then 
      M_Mo_termOf_18 G l0 l1 l2 p6.2
    else
      some (.inr (l2, p6.2))
set_option maxRecDepth 100000 in
theorem E_Mo_termOf_4 (G : Nat → List mV → mS → Option (Int × mS)) (l0 l1 l2 : Int) (σ : mS) : mblk c_Mo_termOf K_Mo_termOf (C_Mo_termOf G) (F_Mo_termOf_4 G) (fun v σ => some (.inr (v, σ))) 74 4 ([(3, l0), (1, l1), (2, l2), (0, 0), (0, 0), (0, 0), (0, 0)]) [] σ = B_Mo_termOf_4 G l0 l1 l2 σ := rfl
def M_Mo_termOf_4 (G : Nat → List mV → mS → Option (Int × mS)) (l0 l1 l2 : Int) (σ : mS) : Option (Int × mS) := miter (fun s : Int × mS => B_Mo_termOf_4 G l0 l1 s.1 s.2) mN (l2, σ)
def F_Mo_termOf_0 (G : Nat → List mV → mS → Option (Int × mS)) : Nat → List mV → List mV → mS → Option (Int × mS) := fun i L st σ => match i, L, st with
  | 4, [(3, l0), (1, l1), (2, l2), _, _, _, _], [] => M_Mo_termOf_4 G l0 l1 l2 σ
  | _, _, _ => none
def B_Mo_termOf (G : Nat → List mV → mS → Option (Int × mS)) (l0 l1 : Int) (σ : mS) : Option (Int × mS) :=
  (gk 11 l0 σ).bind fun _ => (G 104 [(3, l0), (1, l1)] σ).bind fun p1 =>
  M_Mo_termOf_4 G l0 l1 p1.1 p1.2
set_option maxRecDepth 100000 in
theorem E_Mo_termOf_0 (G : Nat → List mV → mS → Option (Int × mS)) (l0 l1 : Int) (σ : mS) : mblk c_Mo_termOf K_Mo_termOf (C_Mo_termOf G) (F_Mo_termOf_0 G) (fun v σ => some (v, σ)) 74 0 (mInit 7 [(3, l0), (1, l1)]) [] σ = B_Mo_termOf G l0 l1 σ := rfl
def C_Mo_partOf (G : Nat → List mV → mS → Option (Int × mS)) : Nat → List mV → mS → Option (Int × mS) := fun k as σ => match k, as with
  | 87, [(1, a0)] => M_Mo_sign a0 σ
  | 99, [(3, a0), (1, a1)] => M_Mo_codeAt a0 a1 σ
  | 100, [(3, a0), (1, a1)] => M_Mo_passes0 a0 a1 σ
  | 102, [(3, a0), (1, a1)] => G 102 [(3, a0), (1, a1)] σ
  | _, _ => none
def K_Mo_partOf : Nat → Bool := fun i => false
def F_Mo_partOf_0 (G : Nat → List mV → mS → Option (Int × mS)) : Nat → List mV → List mV → mS → Option (Int × mS) := fun i L st σ => match i, L, st with
  | _, _, _ => none
def B_Mo_partOf (G : Nat → List mV → mS → Option (Int × mS)) (l0 l1 : Int) (σ : mS) : Option (Int × mS) :=
  (M_Mo_sign 91 σ).bind fun p1 =>
  (gk 11 l0 p1.2).bind fun _ => (M_Mo_passes0 l0 p1.1 p1.2).bind fun p2 =>
  if p2.1 = 0 then 
    (gf 11 19 l0 p2.2).bind fun v3 =>
    (gk 11 l0 p2.2).bind fun _ => (M_Mo_codeAt l0 v3 p2.2).bind fun p4 =>
    (gf 11 19 l0 p4.2).bind fun v5 =>
    (pf 11 19 l0 (w32 (v5 + 1)) p4.2).bind fun σ =>
    if l1 = 0 then 
      some (0, σ)
    else
      (gf 11 21 l0 σ).bind fun v6 =>
      if v6 = 0 then 
        if p4.1 = 50 then 
          (gf 11 3 l0 σ).bind fun v7 =>
          (gf 11 19 l0 σ).bind fun v8 =>
          (ld 100 v7 (w32 ((w32 (2594 + v8)) - 1)) σ).bind fun v9 =>
          some (v9, σ)
        else
          (gf 11 22 l0 σ).bind fun v10 =>
          (ld 100 v10 (w32 (p4.1 - 6)) σ).bind fun v11 =>
          some (v11, σ)
      else
        some (0, σ)
  else
    (gk 11 l0 p2.2).bind fun _ => (G 102 [(3, l0), (1, l1)] p2.2).bind fun p12 =>
    (gf 11 19 l0 p12.2).bind fun v13 =>
    (pf 11 19 l0 (w32 (v13 + 1)) p12.2).bind fun σ =>
    some (p12.1, σ)
set_option maxRecDepth 100000 in
theorem E_Mo_partOf_0 (G : Nat → List mV → mS → Option (Int × mS)) (l0 l1 : Int) (σ : mS) : mblk c_Mo_partOf K_Mo_partOf (C_Mo_partOf G) (F_Mo_partOf_0 G) (fun v σ => some (v, σ)) 58 0 (mInit 4 [(3, l0), (1, l1)]) [] σ = B_Mo_partOf G l0 l1 σ := rfl
def R_Mo_sumOf : Nat → Nat → List mV → mS → Option (Int × mS)
  | 0, _, _, _ => none
  | n + 1, k, as, σ => match k, as with
    | 102, [(3, a0), (1, a1)] => B_Mo_sumOf (R_Mo_sumOf n) a0 a1 σ
    | 103, [(3, a0), (1, a1)] => B_Mo_termOf (R_Mo_sumOf n) a0 a1 σ
    | 104, [(3, a0), (1, a1)] => B_Mo_partOf (R_Mo_sumOf n) a0 a1 σ
    | _, _ => none
def C_Mo_testOf (G : Nat → List mV → mS → Option (Int × mS)) : Nat → List mV → mS → Option (Int × mS) := fun k as σ => match k, as with
  | 100, [(3, a0), (1, a1)] => M_Mo_passes0 a0 a1 σ
  | 106, [(3, a0), (1, a1)] => G 106 [(3, a0), (1, a1)] σ
  | _, _ => none
def K_Mo_testOf : Nat → Bool := fun i => i.beq 4 || i.beq 15 || i.beq 16
def F_Mo_testOf_16 (G : Nat → List mV → mS → Option (Int × mS)) : Nat → List mV → List mV → mS → Option (((Int × mS) ⊕ (Int × mS))) := fun i L st σ => match i, L, st with
  | 4, [(3, l0), (1, l1), (1, l2), _], [] => some (.inl (l2, σ))
  | _, _, _ => none
def M_Mo_testOf_16 (G : Nat → List mV → mS → Option (Int × mS)) (l0 l1 l2 s1 s0 : Int) (σ : mS) : Option (((Int × mS) ⊕ (Int × mS))) :=
  (gk 11 s0 σ).bind fun _ => (G 106 [(3, s0), (1, s1)] σ).bind fun p1 =>
  if l2 = 0 then 
    if p1.1 = 0 then 
      some (.inl (0, p1.2))
    else
      some (.inl (1, p1.2))
  else
    some (.inl (1, p1.2))
set_option maxRecDepth 100000 in
theorem E_Mo_testOf_16 (G : Nat → List mV → mS → Option (Int × mS)) (l0 l1 l2 s1 s0 : Int) (σ : mS) : mblk c_Mo_testOf K_Mo_testOf (C_Mo_testOf G) (F_Mo_testOf_16 G) (fun v σ => some (.inr (v, σ))) 30 16 ([(3, l0), (1, l1), (1, l2), (0, 0)]) [(1, s1), (3, s0)] σ = M_Mo_testOf_16 G l0 l1 l2 s1 s0 σ := rfl
def F_Mo_testOf_15 (G : Nat → List mV → mS → Option (Int × mS)) : Nat → List mV → List mV → mS → Option (((Int × mS) ⊕ (Int × mS))) := fun i L st σ => match i, L, st with
  | 16, [(3, l0), (1, l1), (1, l2), _], [(1, s1), (3, s0)] => M_Mo_testOf_16 G l0 l1 l2 s1 s0 σ
  | _, _, _ => none
def M_Mo_testOf_15 (G : Nat → List mV → mS → Option (Int × mS)) (l0 l1 l2 s0 : Int) (σ : mS) : Option (((Int × mS) ⊕ (Int × mS))) :=
  M_Mo_testOf_16 G l0 l1 l2 0 s0 σ
set_option maxRecDepth 100000 in
theorem E_Mo_testOf_15 (G : Nat → List mV → mS → Option (Int × mS)) (l0 l1 l2 s0 : Int) (σ : mS) : mblk c_Mo_testOf K_Mo_testOf (C_Mo_testOf G) (F_Mo_testOf_15 G) (fun v σ => some (.inr (v, σ))) 30 15 ([(3, l0), (1, l1), (1, l2), (0, 0)]) [(3, s0)] σ = M_Mo_testOf_15 G l0 l1 l2 s0 σ := rfl
def F_Mo_testOf_4 (G : Nat → List mV → mS → Option (Int × mS)) : Nat → List mV → List mV → mS → Option (((Int × mS) ⊕ (Int × mS))) := fun i L st σ => match i, L, st with
  | 15, [(3, l0), (1, l1), (1, l2), _], [(3, s0)] => M_Mo_testOf_15 G l0 l1 l2 s0 σ
  | 16, [(3, l0), (1, l1), (1, l2), _], [(1, s1), (3, s0)] => M_Mo_testOf_16 G l0 l1 l2 s1 s0 σ
  | _, _, _ => none
def B_Mo_testOf_4 (G : Nat → List mV → mS → Option (Int × mS)) (l0 l1 l2 : Int) (σ : mS) : Option (((Int × mS) ⊕ (Int × mS))) :=
  (gk 11 l0 σ).bind fun _ => (M_Mo_passes0 l0 3 σ).bind fun p1 =>
  if p1.1 = 0 then 
    if l2 = 0 ∨ l2 = 1 then some (.inr (l2, p1.2)) else none
  else
    if l1 = 0 then 
      M_Mo_testOf_15 G l0 l1 l2 l0 p1.2
    else
      if l2 = 0 then 
        M_Mo_testOf_16 G l0 l1 l2 1 l0 p1.2
      else
        M_Mo_testOf_15 G l0 l1 l2 l0 p1.2
set_option maxRecDepth 100000 in
theorem E_Mo_testOf_4 (G : Nat → List mV → mS → Option (Int × mS)) (l0 l1 l2 : Int) (σ : mS) : mblk c_Mo_testOf K_Mo_testOf (C_Mo_testOf G) (F_Mo_testOf_4 G) (fun v σ => some (.inr (v, σ))) 30 4 ([(3, l0), (1, l1), (1, l2), (0, 0)]) [] σ = B_Mo_testOf_4 G l0 l1 l2 σ := rfl
def M_Mo_testOf_4 (G : Nat → List mV → mS → Option (Int × mS)) (l0 l1 l2 : Int) (σ : mS) : Option (Int × mS) := miter (fun s : Int × mS => B_Mo_testOf_4 G l0 l1 s.1 s.2) mN (l2, σ)
def F_Mo_testOf_0 (G : Nat → List mV → mS → Option (Int × mS)) : Nat → List mV → List mV → mS → Option (Int × mS) := fun i L st σ => match i, L, st with
  | 4, [(3, l0), (1, l1), (1, l2), _], [] => M_Mo_testOf_4 G l0 l1 l2 σ
  | _, _, _ => none
def B_Mo_testOf (G : Nat → List mV → mS → Option (Int × mS)) (l0 l1 : Int) (σ : mS) : Option (Int × mS) :=
  (gk 11 l0 σ).bind fun _ => (G 106 [(3, l0), (1, l1)] σ).bind fun p1 =>
  M_Mo_testOf_4 G l0 l1 p1.1 p1.2
set_option maxRecDepth 100000 in
theorem E_Mo_testOf_0 (G : Nat → List mV → mS → Option (Int × mS)) (l0 l1 : Int) (σ : mS) : mblk c_Mo_testOf K_Mo_testOf (C_Mo_testOf G) (F_Mo_testOf_0 G) (fun v σ => some (v, σ)) 30 0 (mInit 4 [(3, l0), (1, l1)]) [] σ = B_Mo_testOf G l0 l1 σ := rfl
def C_Mo_bothOf (G : Nat → List mV → mS → Option (Int × mS)) : Nat → List mV → mS → Option (Int × mS) := fun k as σ => match k, as with
  | 100, [(3, a0), (1, a1)] => M_Mo_passes0 a0 a1 σ
  | 107, [(3, a0), (1, a1)] => G 107 [(3, a0), (1, a1)] σ
  | _, _ => none
def K_Mo_bothOf : Nat → Bool := fun i => i.beq 4 || i.beq 15 || i.beq 16
def F_Mo_bothOf_16 (G : Nat → List mV → mS → Option (Int × mS)) : Nat → List mV → List mV → mS → Option (((Int × mS) ⊕ (Int × mS))) := fun i L st σ => match i, L, st with
  | 4, [(3, l0), (1, l1), (1, l2), _], [] => some (.inl (l2, σ))
  | _, _, _ => none
def M_Mo_bothOf_16 (G : Nat → List mV → mS → Option (Int × mS)) (l0 l1 l2 s1 s0 : Int) (σ : mS) : Option (((Int × mS) ⊕ (Int × mS))) :=
  (gk 11 s0 σ).bind fun _ => (G 107 [(3, s0), (1, s1)] σ).bind fun p1 =>
  if l2 = 0 then 
    some (.inl (0, p1.2))
  else
    if p1.1 = 0 then 
      some (.inl (0, p1.2))
    else
      some (.inl (1, p1.2))
set_option maxRecDepth 100000 in
theorem E_Mo_bothOf_16 (G : Nat → List mV → mS → Option (Int × mS)) (l0 l1 l2 s1 s0 : Int) (σ : mS) : mblk c_Mo_bothOf K_Mo_bothOf (C_Mo_bothOf G) (F_Mo_bothOf_16 G) (fun v σ => some (.inr (v, σ))) 30 16 ([(3, l0), (1, l1), (1, l2), (0, 0)]) [(1, s1), (3, s0)] σ = M_Mo_bothOf_16 G l0 l1 l2 s1 s0 σ := rfl
def F_Mo_bothOf_15 (G : Nat → List mV → mS → Option (Int × mS)) : Nat → List mV → List mV → mS → Option (((Int × mS) ⊕ (Int × mS))) := fun i L st σ => match i, L, st with
  | 16, [(3, l0), (1, l1), (1, l2), _], [(1, s1), (3, s0)] => M_Mo_bothOf_16 G l0 l1 l2 s1 s0 σ
  | _, _, _ => none
def M_Mo_bothOf_15 (G : Nat → List mV → mS → Option (Int × mS)) (l0 l1 l2 s0 : Int) (σ : mS) : Option (((Int × mS) ⊕ (Int × mS))) :=
  M_Mo_bothOf_16 G l0 l1 l2 0 s0 σ
set_option maxRecDepth 100000 in
theorem E_Mo_bothOf_15 (G : Nat → List mV → mS → Option (Int × mS)) (l0 l1 l2 s0 : Int) (σ : mS) : mblk c_Mo_bothOf K_Mo_bothOf (C_Mo_bothOf G) (F_Mo_bothOf_15 G) (fun v σ => some (.inr (v, σ))) 30 15 ([(3, l0), (1, l1), (1, l2), (0, 0)]) [(3, s0)] σ = M_Mo_bothOf_15 G l0 l1 l2 s0 σ := rfl
def F_Mo_bothOf_4 (G : Nat → List mV → mS → Option (Int × mS)) : Nat → List mV → List mV → mS → Option (((Int × mS) ⊕ (Int × mS))) := fun i L st σ => match i, L, st with
  | 15, [(3, l0), (1, l1), (1, l2), _], [(3, s0)] => M_Mo_bothOf_15 G l0 l1 l2 s0 σ
  | 16, [(3, l0), (1, l1), (1, l2), _], [(1, s1), (3, s0)] => M_Mo_bothOf_16 G l0 l1 l2 s1 s0 σ
  | _, _, _ => none
def B_Mo_bothOf_4 (G : Nat → List mV → mS → Option (Int × mS)) (l0 l1 l2 : Int) (σ : mS) : Option (((Int × mS) ⊕ (Int × mS))) :=
  (gk 11 l0 σ).bind fun _ => (M_Mo_passes0 l0 4 σ).bind fun p1 =>
  if p1.1 = 0 then 
    if l2 = 0 ∨ l2 = 1 then some (.inr (l2, p1.2)) else none
  else
    if l1 = 0 then 
      M_Mo_bothOf_15 G l0 l1 l2 l0 p1.2
    else
      if l2 = 0 then 
        M_Mo_bothOf_15 G l0 l1 l2 l0 p1.2
      else
        M_Mo_bothOf_16 G l0 l1 l2 1 l0 p1.2
set_option maxRecDepth 100000 in
theorem E_Mo_bothOf_4 (G : Nat → List mV → mS → Option (Int × mS)) (l0 l1 l2 : Int) (σ : mS) : mblk c_Mo_bothOf K_Mo_bothOf (C_Mo_bothOf G) (F_Mo_bothOf_4 G) (fun v σ => some (.inr (v, σ))) 30 4 ([(3, l0), (1, l1), (1, l2), (0, 0)]) [] σ = B_Mo_bothOf_4 G l0 l1 l2 σ := rfl
def M_Mo_bothOf_4 (G : Nat → List mV → mS → Option (Int × mS)) (l0 l1 l2 : Int) (σ : mS) : Option (Int × mS) := miter (fun s : Int × mS => B_Mo_bothOf_4 G l0 l1 s.1 s.2) mN (l2, σ)
def F_Mo_bothOf_0 (G : Nat → List mV → mS → Option (Int × mS)) : Nat → List mV → List mV → mS → Option (Int × mS) := fun i L st σ => match i, L, st with
  | 4, [(3, l0), (1, l1), (1, l2), _], [] => M_Mo_bothOf_4 G l0 l1 l2 σ
  | _, _, _ => none
def B_Mo_bothOf (G : Nat → List mV → mS → Option (Int × mS)) (l0 l1 : Int) (σ : mS) : Option (Int × mS) :=
  (gk 11 l0 σ).bind fun _ => (G 107 [(3, l0), (1, l1)] σ).bind fun p1 =>
  M_Mo_bothOf_4 G l0 l1 p1.1 p1.2
set_option maxRecDepth 100000 in
theorem E_Mo_bothOf_0 (G : Nat → List mV → mS → Option (Int × mS)) (l0 l1 : Int) (σ : mS) : mblk c_Mo_bothOf K_Mo_bothOf (C_Mo_bothOf G) (F_Mo_bothOf_0 G) (fun v σ => some (v, σ)) 30 0 (mInit 4 [(3, l0), (1, l1)]) [] σ = B_Mo_bothOf G l0 l1 σ := rfl
def C_Mo_plainOf (G : Nat → List mV → mS → Option (Int × mS)) : Nat → List mV → mS → Option (Int × mS) := fun k as σ => match k, as with
  | 100, [(3, a0), (1, a1)] => M_Mo_passes0 a0 a1 σ
  | 108, [(3, a0), (1, a1)] => G 108 [(3, a0), (1, a1)] σ
  | _, _ => none
def K_Mo_plainOf : Nat → Bool := fun i => i.beq 2
def F_Mo_plainOf_2 (G : Nat → List mV → mS → Option (Int × mS)) : Nat → List mV → List mV → mS → Option (((Int × mS) ⊕ (Int × mS))) := fun i L st σ => match i, L, st with
  | 2, [(3, l0), (1, l1), (1, l2)], [] => some (.inl (l2, σ))
  | _, _, _ => none
def B_Mo_plainOf_2 (G : Nat → List mV → mS → Option (Int × mS)) (l0 l1 l2 : Int) (σ : mS) : Option (((Int × mS) ⊕ (Int × mS))) :=
  (gk 11 l0 σ).bind fun _ => (M_Mo_passes0 l0 5 σ).bind fun p1 =>
  if p1.1 = 0 then 
    (gk 11 l0 p1.2).bind fun _ => (G 108 [(3, l0), (1, l1)] p1.2).bind fun p2 =>
    if p2.1 = l2 then 
      if 0 = 0 ∨ 0 = 1 then some (.inr (0, p2.2)) else none
    else
      if 1 = 0 ∨ 1 = 1 then some (.inr (1, p2.2)) else none
  else
    if l2 = 0 then 
      some (.inl (1, p1.2))
    else
      some (.inl (0, p1.2))
set_option maxRecDepth 100000 in
theorem E_Mo_plainOf_2 (G : Nat → List mV → mS → Option (Int × mS)) (l0 l1 l2 : Int) (σ : mS) : mblk c_Mo_plainOf K_Mo_plainOf (C_Mo_plainOf G) (F_Mo_plainOf_2 G) (fun v σ => some (.inr (v, σ))) 23 2 ([(3, l0), (1, l1), (1, l2)]) [] σ = B_Mo_plainOf_2 G l0 l1 l2 σ := rfl
def M_Mo_plainOf_2 (G : Nat → List mV → mS → Option (Int × mS)) (l0 l1 l2 : Int) (σ : mS) : Option (Int × mS) := miter (fun s : Int × mS => B_Mo_plainOf_2 G l0 l1 s.1 s.2) mN (l2, σ)
def F_Mo_plainOf_0 (G : Nat → List mV → mS → Option (Int × mS)) : Nat → List mV → List mV → mS → Option (Int × mS) := fun i L st σ => match i, L, st with
  | 2, [(3, l0), (1, l1), (1, l2)], [] => M_Mo_plainOf_2 G l0 l1 l2 σ
  | _, _, _ => none
def B_Mo_plainOf (G : Nat → List mV → mS → Option (Int × mS)) (l0 l1 : Int) (σ : mS) : Option (Int × mS) :=
  M_Mo_plainOf_2 G l0 l1 0 σ
set_option maxRecDepth 100000 in
theorem E_Mo_plainOf_0 (G : Nat → List mV → mS → Option (Int × mS)) (l0 l1 : Int) (σ : mS) : mblk c_Mo_plainOf K_Mo_plainOf (C_Mo_plainOf G) (F_Mo_plainOf_0 G) (fun v σ => some (v, σ)) 23 0 (mInit 3 [(3, l0), (1, l1)]) [] σ = B_Mo_plainOf G l0 l1 σ := rfl
def C_Mo_positiveOf (G : Nat → List mV → mS → Option (Int × mS)) : Nat → List mV → mS → Option (Int × mS) := fun k as σ => match k, as with
  | 87, [(1, a0)] => M_Mo_sign a0 σ
  | 99, [(3, a0), (1, a1)] => M_Mo_codeAt a0 a1 σ
  | 100, [(3, a0), (1, a1)] => M_Mo_passes0 a0 a1 σ
  | 102, [(3, a0), (1, a1)] => R_Mo_sumOf mD 102 [(3, a0), (1, a1)] σ
  | 105, [(3, a0), (1, a1)] => G 105 [(3, a0), (1, a1)] σ
  | _, _ => none
def K_Mo_positiveOf : Nat → Bool := fun i => false
def F_Mo_positiveOf_0 (G : Nat → List mV → mS → Option (Int × mS)) : Nat → List mV → List mV → mS → Option (Int × mS) := fun i L st σ => match i, L, st with
  | _, _, _ => none
def B_Mo_positiveOf (G : Nat → List mV → mS → Option (Int × mS)) (l0 l1 : Int) (σ : mS) : Option (Int × mS) :=
  (M_Mo_sign 40 σ).bind fun p1 =>
  (gk 11 l0 p1.2).bind fun _ => (M_Mo_passes0 l0 p1.1 p1.2).bind fun p2 =>
  if p2.1 = 0 then 
    (gk 11 l0 p2.2).bind fun _ => (R_Mo_sumOf mD 102 [(3, l0), (1, l1)] p2.2).bind fun p3 =>
    (gf 11 19 l0 p3.2).bind fun v4 =>
    (gk 11 l0 p3.2).bind fun _ => (M_Mo_codeAt l0 v4 p3.2).bind fun p5 =>
    (gf 11 19 l0 p5.2).bind fun v6 =>
    (pf 11 19 l0 (w32 (v6 + 1)) p5.2).bind fun σ =>
    (gk 11 l0 σ).bind fun _ => (R_Mo_sumOf mD 102 [(3, l0), (1, l1)] σ).bind fun p7 =>
    if l1 = 0 then 
      if 0 = 0 ∨ 0 = 1 then some (0, p7.2) else none
    else
      (gf 11 21 l0 p7.2).bind fun v8 =>
      if v8 = 0 then 
        (M_Mo_sign 60 p7.2).bind fun p9 =>
        if p5.1 = p9.1 then 
          if (lcp p3.1 p7.1) < 0 then 
            if 1 = 0 ∨ 1 = 1 then some (1, p9.2) else none
          else
            if 0 = 0 ∨ 0 = 1 then some (0, p9.2) else none
        else
          (M_Mo_sign 62 p9.2).bind fun p10 =>
          if p5.1 = p10.1 then 
            if 0 < (lcp p3.1 p7.1) then 
              if 1 = 0 ∨ 1 = 1 then some (1, p10.2) else none
            else
              if 0 = 0 ∨ 0 = 1 then some (0, p10.2) else none
          else
            if (lcp p3.1 p7.1) = 0 then 
              if 1 = 0 ∨ 1 = 1 then some (1, p10.2) else none
            else
              if 0 = 0 ∨ 0 = 1 then some (0, p10.2) else none
      else
        if 0 = 0 ∨ 0 = 1 then some (0, p7.2) else none
  else
    (gk 11 l0 p2.2).bind fun _ => (G 105 [(3, l0), (1, l1)] p2.2).bind fun p11 =>
    (gf 11 19 l0 p11.2).bind fun v12 =>
    (pf 11 19 l0 (w32 (v12 + 1)) p11.2).bind fun σ =>
    if p11.1 = 0 ∨ p11.1 = 1 then some (p11.1, σ) else none
set_option maxRecDepth 100000 in
theorem E_Mo_positiveOf_0 (G : Nat → List mV → mS → Option (Int × mS)) (l0 l1 : Int) (σ : mS) : mblk c_Mo_positiveOf K_Mo_positiveOf (C_Mo_positiveOf G) (F_Mo_positiveOf_0 G) (fun v σ => some (v, σ)) 68 0 (mInit 7 [(3, l0), (1, l1)]) [] σ = B_Mo_positiveOf G l0 l1 σ := rfl
def R_Mo_testOf : Nat → Nat → List mV → mS → Option (Int × mS)
  | 0, _, _, _ => none
  | n + 1, k, as, σ => match k, as with
    | 105, [(3, a0), (1, a1)] => B_Mo_testOf (R_Mo_testOf n) a0 a1 σ
    | 106, [(3, a0), (1, a1)] => B_Mo_bothOf (R_Mo_testOf n) a0 a1 σ
    | 107, [(3, a0), (1, a1)] => B_Mo_plainOf (R_Mo_testOf n) a0 a1 σ
    | 108, [(3, a0), (1, a1)] => B_Mo_positiveOf (R_Mo_testOf n) a0 a1 σ
    | _, _ => none
def C_Mo_warmthOf : Nat → List mV → mS → Option (Int × mS) := fun k as σ => match k, as with
  | 65, [(3, a0), (1, a1)] => M_Mo_riseOf a0 a1 σ
  | 100, [(3, a0), (1, a1)] => M_Mo_passes0 a0 a1 σ
  | 102, [(3, a0), (1, a1)] => R_Mo_sumOf mD 102 [(3, a0), (1, a1)] σ
  | 105, [(3, a0), (1, a1)] => R_Mo_testOf mD 105 [(3, a0), (1, a1)] σ
  | _, _ => none
def K_Mo_warmthOf : Nat → Bool := fun i => i.beq 73 || i.beq 105 || i.beq 108 || i.beq 130 || i.beq 131
def F_Mo_warmthOf_131 : Nat → List mV → List mV → mS → Option (((Int × mS) ⊕ (Int × mS))) := fun i L st σ => match i, L, st with
  | 73, [(3, l0), _, _, _, (1, l4), _, _, _, _], [] => some (.inl (l4, σ))
  | _, _, _ => none
def M_Mo_warmthOf_131 (l0 l4 : Int) (σ : mS) : Option (((Int × mS) ⊕ (Int × mS))) :=
  (gf 11 19 l0 σ).bind fun v1 =>
  (pf 11 19 l0 (w32 (v1 + 1)) σ).bind fun σ =>
  some (.inl (l4, σ))
set_option maxRecDepth 100000 in
theorem E_Mo_warmthOf_131 (l0 l4 : Int) (σ : mS) : mblk c_Mo_warmthOf K_Mo_warmthOf (C_Mo_warmthOf) (F_Mo_warmthOf_131) (fun v σ => some (.inr (v, σ))) 141 131 ([(3, l0), (0, 0), (0, 0), (0, 0), (1, l4), (0, 0), (0, 0), (0, 0), (0, 0)]) [] σ = M_Mo_warmthOf_131 l0 l4 σ := rfl
def F_Mo_warmthOf_130 : Nat → List mV → List mV → mS → Option (((Int × mS) ⊕ (Int × mS))) := fun i L st σ => match i, L, st with
  | 131, [(3, l0), _, _, _, (1, l4), _, _, _, _], [] => M_Mo_warmthOf_131 l0 l4 σ
  | _, _, _ => none
def M_Mo_warmthOf_130 (l0 s0 : Int) (σ : mS) : Option (((Int × mS) ⊕ (Int × mS))) :=
  M_Mo_warmthOf_131 l0 s0 σ
set_option maxRecDepth 100000 in
theorem E_Mo_warmthOf_130 (l0 s0 : Int) (σ : mS) : mblk c_Mo_warmthOf K_Mo_warmthOf (C_Mo_warmthOf) (F_Mo_warmthOf_130) (fun v σ => some (.inr (v, σ))) 141 130 ([(3, l0), (0, 0), (0, 0), (0, 0), (0, 0), (0, 0), (0, 0), (0, 0), (0, 0)]) [(1, s0)] σ = M_Mo_warmthOf_130 l0 s0 σ := rfl
def F_Mo_warmthOf_108 : Nat → List mV → List mV → mS → Option (((Int × mS) ⊕ (Int × mS))) := fun i L st σ => match i, L, st with
  | 130, [(3, l0), _, _, _, _, _, _, _, _], [(1, s0)] => M_Mo_warmthOf_130 l0 s0 σ
  | 131, [(3, l0), _, _, _, (1, l4), _, _, _, _], [] => M_Mo_warmthOf_131 l0 l4 σ
  | _, _, _ => none
def M_Mo_warmthOf_108 (l0 l4 l5 l7 s0 : Int) (σ : mS) : Option (((Int × mS) ⊕ (Int × mS))) :=
  if s0 = 0 then 
    M_Mo_warmthOf_131 l0 l4 σ
  else
    (gf 11 21 l0 σ).bind fun v1 =>
    if v1 = 0 then 
      if l7 = 0 then 
        if (lcp l5 (-50)) < 0 then 
          M_Mo_warmthOf_130 l0 (-50) σ
        else
          if 0 < (lcp l5 99) then 
            M_Mo_warmthOf_130 l0 99 σ
          else
            M_Mo_warmthOf_130 l0 (w32 l5) σ
      else
        M_Mo_warmthOf_131 l0 l4 σ
    else
      M_Mo_warmthOf_131 l0 l4 σ
set_option maxRecDepth 100000 in
theorem E_Mo_warmthOf_108 (l0 l4 l5 l7 s0 : Int) (σ : mS) : mblk c_Mo_warmthOf K_Mo_warmthOf (C_Mo_warmthOf) (F_Mo_warmthOf_108) (fun v σ => some (.inr (v, σ))) 141 108 ([(3, l0), (0, 0), (0, 0), (0, 0), (1, l4), (2, l5), (0, 0), (1, l7), (0, 0)]) [(1, s0)] σ = M_Mo_warmthOf_108 l0 l4 l5 l7 s0 σ := rfl
def F_Mo_warmthOf_105 : Nat → List mV → List mV → mS → Option (((Int × mS) ⊕ (Int × mS))) := fun i L st σ => match i, L, st with
  | 108, [(3, l0), _, _, _, (1, l4), (2, l5), _, (1, l7), _], [(1, s0)] => M_Mo_warmthOf_108 l0 l4 l5 l7 s0 σ
  | _, _, _ => none
def M_Mo_warmthOf_105 (l0 l4 l5 l7 : Int) (σ : mS) : Option (((Int × mS) ⊕ (Int × mS))) :=
  M_Mo_warmthOf_108 l0 l4 l5 l7 1 σ
set_option maxRecDepth 100000 in
theorem E_Mo_warmthOf_105 (l0 l4 l5 l7 : Int) (σ : mS) : mblk c_Mo_warmthOf K_Mo_warmthOf (C_Mo_warmthOf) (F_Mo_warmthOf_105) (fun v σ => some (.inr (v, σ))) 141 105 ([(3, l0), (0, 0), (0, 0), (0, 0), (1, l4), (2, l5), (0, 0), (1, l7), (0, 0)]) [] σ = M_Mo_warmthOf_105 l0 l4 l5 l7 σ := rfl
def F_Mo_warmthOf_73 : Nat → List mV → List mV → mS → Option (((Int × mS) ⊕ (Int × mS))) := fun i L st σ => match i, L, st with
  | 105, [(3, l0), _, _, _, (1, l4), (2, l5), _, (1, l7), _], [] => M_Mo_warmthOf_105 l0 l4 l5 l7 σ
  | 108, [(3, l0), _, _, _, (1, l4), (2, l5), _, (1, l7), _], [(1, s0)] => M_Mo_warmthOf_108 l0 l4 l5 l7 s0 σ
  | _, _, _ => none
def B_Mo_warmthOf_73 (l0 l4 : Int) (σ : mS) : Option (((Int × mS) ⊕ (Int × mS))) :=
  (gf 11 19 l0 σ).bind fun v1 =>
  (gf 11 20 l0 σ).bind fun v2 =>
  if v1 < v2 then 
    (pz 11 21 l0 0 σ).bind fun σ =>
    (gf 11 19 l0 σ).bind fun v3 =>
    (pf 11 19 l0 (w32 (v3 + 1)) σ).bind fun σ =>
    (gk 11 l0 σ).bind fun _ => (R_Mo_sumOf mD 102 [(3, l0), (1, 1)] σ).bind fun p4 =>
    (gf 11 21 l0 p4.2).bind fun v5 =>
    (pz 11 21 l0 0 p4.2).bind fun σ =>
    (gk 11 l0 σ).bind fun _ => (M_Mo_passes0 l0 2 σ).bind fun p6 =>
    if p6.1 = 0 then 
      M_Mo_warmthOf_105 l0 l4 p4.1 v5 p6.2
    else
      (gk 11 l0 p6.2).bind fun _ => (R_Mo_testOf mD 105 [(3, l0), (1, 1)] p6.2).bind fun p7 =>
      if p7.1 = 0 then 
        M_Mo_warmthOf_108 l0 l4 p4.1 v5 0 p7.2
      else
        M_Mo_warmthOf_105 l0 l4 p4.1 v5 p7.2
  else
    some (.inr (l4, σ))
set_option maxRecDepth 100000 in
theorem E_Mo_warmthOf_73 (l0 l4 : Int) (σ : mS) : mblk c_Mo_warmthOf K_Mo_warmthOf (C_Mo_warmthOf) (F_Mo_warmthOf_73) (fun v σ => some (.inr (v, σ))) 141 73 ([(3, l0), (0, 0), (0, 0), (0, 0), (1, l4), (0, 0), (0, 0), (0, 0), (0, 0)]) [] σ = B_Mo_warmthOf_73 l0 l4 σ := rfl
def M_Mo_warmthOf_73 (l0 l4 : Int) (σ : mS) : Option (Int × mS) := miter (fun s : Int × mS => B_Mo_warmthOf_73 l0 s.1 s.2) mN (l4, σ)
def F_Mo_warmthOf_0 : Nat → List mV → List mV → mS → Option (Int × mS) := fun i L st σ => match i, L, st with
  | 73, [(3, l0), _, _, _, (1, l4), _, _, _, _], [] => M_Mo_warmthOf_73 l0 l4 σ
  | _, _, _ => none
def M_Mo_warmthOf (l0 l1 l2 l3 : Int) (σ : mS) : Option (Int × mS) :=
  (gf 11 3 l0 σ).bind fun v1 =>
  (ld 100 v1 187 σ).bind fun v2 =>
  if v2 = (-1) then 
    some (10, σ)
  else
    (gf 11 22 l0 σ).bind fun v3 =>
    (sd 100 v3 0 l2 σ).bind fun σ =>
    (gf 11 22 l0 σ).bind fun v4 =>
    (gk 11 l0 σ).bind fun _ => (M_Mo_riseOf l0 l1 σ).bind fun p5 =>
    (sd 100 v4 1 (w32 (l2 - p5.1)) p5.2).bind fun σ =>
    (gf 11 22 l0 σ).bind fun v6 =>
    (sd 100 v6 2 l1 σ).bind fun σ =>
    (gf 11 22 l0 σ).bind fun v7 =>
    (gf 11 3 l0 σ).bind fun v8 =>
    (ld 100 v8 (w32 (64 + l1)) σ).bind fun v9 =>
    (sd 100 v7 3 v9 σ).bind fun σ =>
    (gf 11 22 l0 σ).bind fun v10 =>
    (gk 11 l0 σ).bind fun _ => (M_Mo_riseOf l0 l1 σ).bind fun p11 =>
    (sd 100 v10 4 p11.1 p11.2).bind fun σ =>
    (gf 11 22 l0 σ).bind fun v12 =>
    (sd 100 v12 5 l3 σ).bind fun σ =>
    (gf 11 3 l0 σ).bind fun v13 =>
    (ld 100 v13 187 σ).bind fun v14 =>
    (pf 11 19 l0 (w32 (400 * v14)) σ).bind fun σ =>
    (gf 11 19 l0 σ).bind fun v15 =>
    (gf 11 3 l0 σ).bind fun v16 =>
    (gf 11 3 l0 σ).bind fun v17 =>
    (ld 100 v17 187 σ).bind fun v18 =>
    (ld 100 v16 (w32 (188 + v18)) σ).bind fun v19 =>
    (pf 11 20 l0 (w32 (v15 + v19)) σ).bind fun σ =>
    M_Mo_warmthOf_73 l0 10 σ
set_option maxRecDepth 100000 in
theorem E_Mo_warmthOf_0 (l0 l1 l2 l3 : Int) (σ : mS) : mblk c_Mo_warmthOf K_Mo_warmthOf (C_Mo_warmthOf) (F_Mo_warmthOf_0) (fun v σ => some (v, σ)) 141 0 (mInit 9 [(3, l0), (1, l1), (1, l2), (1, l3)]) [] σ = M_Mo_warmthOf l0 l1 l2 l3 σ := rfl
def C_Mo_warms : Nat → List mV → mS → Option (Int × mS) := fun k as σ => match k, as with
  | 109, [(3, a0), (1, a1), (1, a2), (1, a3)] => M_Mo_warmthOf a0 a1 a2 a3 σ
  | _, _ => none
def K_Mo_warms : Nat → Bool := fun i => i.beq 5 || i.beq 15 || i.beq 34 || i.beq 39
def F_Mo_warms_39 : Nat → List mV → List mV → mS → Option (((Int × mS) ⊕ ((Int × mS) ⊕ (Int × mS)))) := fun i L st σ => match i, L, st with
  | 34, [(3, l0), (1, l1), (1, l2), _], [] => some (.inr (.inl (l2, σ)))
  | 39, [(3, l0), (1, l1), (1, l2), (1, l3)], [] => some (.inl (l3, σ))
  | _, _, _ => none
def B_Mo_warms_39 (l0 l1 l2 l3 : Int) (σ : mS) : Option (((Int × mS) ⊕ ((Int × mS) ⊕ (Int × mS)))) :=
  if l3 < 32 then 
    (gf 11 23 l0 σ).bind fun v1 =>
    (gk 11 l0 σ).bind fun _ => (M_Mo_warmthOf l0 l2 l3 l1 σ).bind fun p2 =>
    (sd 100 v1 (w32 ((w32 ((w32 ((w32 (64 * l1)) + l2)) * 32)) + l3)) p2.1 p2.2).bind fun σ =>
    some (.inl (w32 (l3 + 1), σ))
  else
    some (.inr (.inl (w32 (l2 + 1), σ)))
set_option maxRecDepth 100000 in
theorem E_Mo_warms_39 (l0 l1 l2 l3 : Int) (σ : mS) : mblk c_Mo_warms K_Mo_warms (C_Mo_warms) (F_Mo_warms_39) (fun v σ => some (.inr (.inr (v, σ)))) 65 39 ([(3, l0), (1, l1), (1, l2), (1, l3)]) [] σ = B_Mo_warms_39 l0 l1 l2 l3 σ := rfl
def M_Mo_warms_39 (l0 l1 l2 l3 : Int) (σ : mS) : Option (((Int × mS) ⊕ (Int × mS))) := miter (fun s : Int × mS => B_Mo_warms_39 l0 l1 l2 s.1 s.2) mN (l3, σ)
def F_Mo_warms_34 : Nat → List mV → List mV → mS → Option (((Int × mS) ⊕ (Int × mS))) := fun i L st σ => match i, L, st with
  | 39, [(3, l0), (1, l1), (1, l2), (1, l3)], [] => M_Mo_warms_39 l0 l1 l2 l3 σ
  | _, _, _ => none
def B_Mo_warms_34 (l0 l1 l2 : Int) (σ : mS) : Option (((Int × mS) ⊕ (Int × mS))) :=
  if l2 < 64 then 
    M_Mo_warms_39 l0 l1 l2 0 σ
  else
    some (.inr (0, σ))
set_option maxRecDepth 100000 in
theorem E_Mo_warms_34 (l0 l1 l2 : Int) (σ : mS) : mblk c_Mo_warms K_Mo_warms (C_Mo_warms) (F_Mo_warms_34) (fun v σ => some (.inr (v, σ))) 65 34 ([(3, l0), (1, l1), (1, l2), (0, 0)]) [] σ = B_Mo_warms_34 l0 l1 l2 σ := rfl
def M_Mo_warms_34 (l0 l1 l2 : Int) (σ : mS) : Option (Int × mS) := miter (fun s : Int × mS => B_Mo_warms_34 l0 l1 s.1 s.2) mN (l2, σ)
def F_Mo_warms_15 : Nat → List mV → List mV → mS → Option (Int × mS) := fun i L st σ => match i, L, st with
  | 34, [(3, l0), (1, l1), (1, l2), _], [] => M_Mo_warms_34 l0 l1 l2 σ
  | _, _, _ => none
def M_Mo_warms_15 (l0 l1 : Int) (σ : mS) : Option (Int × mS) :=
  (pz 11 25 l0 1 σ).bind fun σ =>
  (gf 11 24 l0 σ).bind fun v1 =>
  (ld 100 v1 l1 σ).bind fun v2 =>
  (gf 11 1 l0 σ).bind fun v3 =>
  if v2 = v3 then 
    some (0, σ)
  else
    (gf 11 24 l0 σ).bind fun v4 =>
    (gf 11 1 l0 σ).bind fun v5 =>
    (sd 100 v4 l1 v5 σ).bind fun σ =>
    M_Mo_warms_34 l0 l1 0 σ
set_option maxRecDepth 100000 in
theorem E_Mo_warms_15 (l0 l1 : Int) (σ : mS) : mblk c_Mo_warms K_Mo_warms (C_Mo_warms) (F_Mo_warms_15) (fun v σ => some (v, σ)) 65 15 ([(3, l0), (1, l1), (0, 0), (0, 0)]) [] σ = M_Mo_warms_15 l0 l1 σ := rfl
def F_Mo_warms_5 : Nat → List mV → List mV → mS → Option (((Int × mS) ⊕ (Int × mS))) := fun i L st σ => match i, L, st with
  | 5, [(3, l0), (1, l1), (1, l2), _], [] => some (.inl (l2, σ))
  | 15, [(3, l0), (1, l1), _, _], [] => (M_Mo_warms_15 l0 l1 σ).bind fun z => some (.inr z)
  | _, _, _ => none
def B_Mo_warms_5 (l0 l1 l2 : Int) (σ : mS) : Option (((Int × mS) ⊕ (Int × mS))) :=
  if l2 < 24 then 
    (gf 11 24 l0 σ).bind fun v1 =>
    (sd 100 v1 l2 (-1) σ).bind fun σ =>
    some (.inl (w32 (l2 + 1), σ))
  else
    (M_Mo_warms_15 l0 l1 σ).bind fun z => some (.inr z)
set_option maxRecDepth 100000 in
theorem E_Mo_warms_5 (l0 l1 l2 : Int) (σ : mS) : mblk c_Mo_warms K_Mo_warms (C_Mo_warms) (F_Mo_warms_5) (fun v σ => some (.inr (v, σ))) 65 5 ([(3, l0), (1, l1), (1, l2), (0, 0)]) [] σ = B_Mo_warms_5 l0 l1 l2 σ := rfl
def M_Mo_warms_5 (l0 l1 l2 : Int) (σ : mS) : Option (Int × mS) := miter (fun s : Int × mS => B_Mo_warms_5 l0 l1 s.1 s.2) mN (l2, σ)
def F_Mo_warms_0 : Nat → List mV → List mV → mS → Option (Int × mS) := fun i L st σ => match i, L, st with
  | 5, [(3, l0), (1, l1), (1, l2), _], [] => M_Mo_warms_5 l0 l1 l2 σ
  | 15, [(3, l0), (1, l1), _, _], [] => M_Mo_warms_15 l0 l1 σ
  | _, _, _ => none
def M_Mo_warms (l0 l1 : Int) (σ : mS) : Option (Int × mS) :=
  (gf 11 25 l0 σ).bind fun v1 =>
  if v1 = 0 then 
    M_Mo_warms_5 l0 l1 0 σ
  else
    M_Mo_warms_15 l0 l1 σ
set_option maxRecDepth 100000 in
theorem E_Mo_warms_0 (l0 l1 : Int) (σ : mS) : mblk c_Mo_warms K_Mo_warms (C_Mo_warms) (F_Mo_warms_0) (fun v σ => some (v, σ)) 65 0 (mInit 4 [(3, l0), (1, l1)]) [] σ = M_Mo_warms l0 l1 σ := rfl
end
