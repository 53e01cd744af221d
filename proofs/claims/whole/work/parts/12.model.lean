/-! the methods as functions: written by gen/emit.py -/
noncomputable section
def C_Survey_crossing : Nat → List mV → mS → Option (Int × mS) := fun k as σ => match k, as with
  | 190, [(3, a0), (1, a1)] => M_Light_send a0 a1 σ
  | _, _ => none
def K_Survey_crossing : Nat → Bool := fun i => i.beq 33
def F_Survey_crossing_33 : Nat → List mV → List mV → mS → Option (((Int × mS) ⊕ (Int × mS))) := fun i L st σ => match i, L, st with
  | 33, [(3, l0), _, _, _, (1, l4), (1, l5)], [] => some (.inl (l5, σ))
  | _, _, _ => none
def B_Survey_crossing_33 (l0 l4 l5 : Int) (σ : mS) : Option (((Int × mS) ⊕ (Int × mS))) :=
  if l4 < l5 then 
    some (.inr ((-1), σ))
  else
    (gf 8 1 l0 σ).bind fun v1 =>
    (gf 5 10 v1 σ).bind fun v2 =>
    (ld 100 v2 l5 σ).bind fun v3 =>
    (gf 8 3 l0 σ).bind fun v4 =>
    (ld 100 v4 l5 σ).bind fun v5 =>
    if v5 < v3 then 
      some (.inl (w32 (l5 + 1), σ))
    else
      some (.inr (l5, σ))
set_option maxRecDepth 100000 in
theorem E_Survey_crossing_33 (l0 l4 l5 : Int) (σ : mS) : mblk c_Survey_crossing K_Survey_crossing (C_Survey_crossing) (F_Survey_crossing_33) (fun v σ => some (.inr (v, σ))) 53 33 ([(3, l0), (0, 0), (0, 0), (0, 0), (1, l4), (1, l5)]) [] σ = B_Survey_crossing_33 l0 l4 l5 σ := rfl
def M_Survey_crossing_33 (l0 l4 l5 : Int) (σ : mS) : Option (Int × mS) := miter (fun s : Int × mS => B_Survey_crossing_33 l0 l4 s.1 s.2) mN (l5, σ)
def F_Survey_crossing_0 : Nat → List mV → List mV → mS → Option (Int × mS) := fun i L st σ => match i, L, st with
  | 33, [(3, l0), _, _, _, (1, l4), (1, l5)], [] => M_Survey_crossing_33 l0 l4 l5 σ
  | _, _, _ => none
def M_Survey_crossing (l0 l1 l2 : Int) (σ : mS) : Option (Int × mS) :=
  (gf 8 1 l0 σ).bind fun v1 =>
  (gk 5 v1 σ).bind fun _ => (M_Light_send v1 l1 σ).bind fun p2 =>
  (gf 8 1 l0 p2.2).bind fun v3 =>
  (gf 5 11 v3 p2.2).bind fun v4 =>
  (gf 8 1 l0 p2.2).bind fun v5 =>
  (gf 5 10 v5 p2.2).bind fun v6 =>
  (gf 8 3 l0 p2.2).bind fun v7 =>
  (cpy v6 0 v7 0 64 p2.2).bind fun σ =>
  (gf 8 1 l0 σ).bind fun v8 =>
  (gk 5 v8 σ).bind fun _ => (M_Light_send v8 l2 σ).bind fun p9 =>
  (gf 8 1 l0 p9.2).bind fun v10 =>
  (gf 5 11 v10 p9.2).bind fun v11 =>
  (gf 8 1 l0 p9.2).bind fun v12 =>
  (gf 5 3 v12 p9.2).bind fun v13 =>
  M_Survey_crossing_33 l0 (jmin v4 v11) (w32 (v13 + 2)) p9.2
set_option maxRecDepth 100000 in
theorem E_Survey_crossing_0 (l0 l1 l2 : Int) (σ : mS) : mblk c_Survey_crossing K_Survey_crossing (C_Survey_crossing) (F_Survey_crossing_0) (fun v σ => some (v, σ)) 53 0 (mInit 6 [(3, l0), (1, l1), (1, l2)]) [] σ = M_Survey_crossing l0 l1 l2 σ := rfl
def C_RW_cross : Nat → List mV → mS → Option (Int × mS) := fun k as σ => match k, as with
  | 51, [(1, a0)] => M_RW_isAngle a0 σ
  | 188, [(3, a0)] => M_Light_standByTerms a0 σ
  | 227, [(3, a0), (1, a1), (1, a2)] => M_Survey_crossing a0 a1 a2 σ
  | _, _ => none
def K_RW_cross : Nat → Bool := fun i => false
def F_RW_cross_0 : Nat → List mV → List mV → mS → Option (Int × mS) := fun i L st σ => match i, L, st with
  | _, _, _ => none
def M_RW_cross (l0 l1 l2 : Int) (σ : mS) : Option (Int × mS) :=
  (M_RW_isAngle l1 σ).bind fun p1 =>
  if p1.1 = 0 then 
    some ((-1), p1.2)
  else
    (M_RW_isAngle l2 p1.2).bind fun p2 =>
    if p2.1 = 0 then 
      some ((-1), p2.2)
    else
      if l1 = l2 then 
        some ((-1), p2.2)
      else
        (gf 10 6 l0 p2.2).bind fun v3 =>
        (gk 5 v3 p2.2).bind fun _ => (M_Light_standByTerms v3 p2.2).bind fun p4 =>
        (gf 10 8 l0 p4.2).bind fun v5 =>
        (gk 8 v5 p4.2).bind fun _ => (M_Survey_crossing v5 (jmin l1 l2) (jmax l1 l2) p4.2).bind fun p6 =>
        some (p6.1, p6.2)
set_option maxRecDepth 100000 in
theorem E_RW_cross_0 (l0 l1 l2 : Int) (σ : mS) : mblk c_RW_cross K_RW_cross (C_RW_cross) (F_RW_cross_0) (fun v σ => some (v, σ)) 25 0 (mInit 3 [(3, l0), (1, l1), (1, l2)]) [] σ = M_RW_cross l0 l1 l2 σ := rfl
def C_RW_hours : Nat → List mV → mS → Option (Int × mS) := fun k as σ => match k, as with
  | 166, [(3, a0)] => M_Field_look a0 σ
  | 167, [(3, a0), (1, a1)] => M_Field_raysTo a0 a1 σ
  | 188, [(3, a0)] => M_Light_standByTerms a0 σ
  | 189, [(3, a0), (1, a1)] => M_Light_turnTo a0 a1 σ
  | 222, [(3, a0), (1, a1)] => M_Road_hasThing a0 a1 σ
  | _, _ => none
def K_RW_hours : Nat → Bool := fun i => i.beq 14
def F_RW_hours_14 : Nat → List mV → List mV → mS → Option (((Int × Int × mS) ⊕ (Int × mS))) := fun i L st σ => match i, L, st with
  | 14, [(3, l0), (1, l1), (1, l2), (1, l3)], [] => some (.inl (l2, l3, σ))
  | _, _, _ => none
def B_RW_hours_14 (l0 l1 l2 l3 : Int) (σ : mS) : Option (((Int × Int × mS) ⊕ (Int × mS))) :=
  if l3 < 24 then 
    (gf 10 6 l0 σ).bind fun v1 =>
    (gk 5 v1 σ).bind fun _ => (M_Light_turnTo v1 l3 σ).bind fun p2 =>
    (gf 10 7 l0 p2.2).bind fun v3 =>
    (gk 2 v3 p2.2).bind fun _ => (M_Field_look v3 p2.2).bind fun p4 =>
    (gf 10 7 l0 p4.2).bind fun v5 =>
    (gk 2 v5 p4.2).bind fun _ => (M_Field_raysTo v5 l1 p4.2).bind fun p6 =>
    if 0 < p6.1 then 
      some (.inl (ior l2 (ishl 1 l3), w32 (l3 + 1), p6.2))
    else
      some (.inl (l2, w32 (l3 + 1), p6.2))
  else
    some (.inr (l2, σ))
set_option maxRecDepth 100000 in
theorem E_RW_hours_14 (l0 l1 l2 l3 : Int) (σ : mS) : mblk c_RW_hours K_RW_hours (C_RW_hours) (F_RW_hours_14) (fun v σ => some (.inr (v, σ))) 40 14 ([(3, l0), (1, l1), (1, l2), (1, l3)]) [] σ = B_RW_hours_14 l0 l1 l2 l3 σ := rfl
def M_RW_hours_14 (l0 l1 l2 l3 : Int) (σ : mS) : Option (Int × mS) := miter (fun s : Int × Int × mS => B_RW_hours_14 l0 l1 s.1 s.2.1 s.2.2) mN (l2, l3, σ)
def F_RW_hours_0 : Nat → List mV → List mV → mS → Option (Int × mS) := fun i L st σ => match i, L, st with
  | 14, [(3, l0), (1, l1), (1, l2), (1, l3)], [] => M_RW_hours_14 l0 l1 l2 l3 σ
  | _, _, _ => none
def M_RW_hours (l0 l1 : Int) (σ : mS) : Option (Int × mS) :=
  (gf 10 0 l0 σ).bind fun v1 =>
  (gk 7 v1 σ).bind fun _ => (M_Road_hasThing v1 l1 σ).bind fun p2 =>
  if p2.1 = 0 then 
    some ((-1), p2.2)
  else
    (gf 10 6 l0 p2.2).bind fun v3 =>
    (gk 5 v3 p2.2).bind fun _ => (M_Light_standByTerms v3 p2.2).bind fun p4 =>
    M_RW_hours_14 l0 l1 0 0 p4.2
set_option maxRecDepth 100000 in
theorem E_RW_hours_0 (l0 l1 : Int) (σ : mS) : mblk c_RW_hours K_RW_hours (C_RW_hours) (F_RW_hours_0) (fun v σ => some (v, σ)) 40 0 (mInit 4 [(3, l0), (1, l1)]) [] σ = M_RW_hours l0 l1 σ := rfl
def C_Survey_begin : Nat → List mV → mS → Option (Int × mS) := fun k as σ => match k, as with
  | 241, [(3, a0), (1, a1)] => M_JA_fill a0 a1 σ
  | _, _ => none
def K_Survey_begin : Nat → Bool := fun i => false
def F_Survey_begin_0 : Nat → List mV → List mV → mS → Option (Int × mS) := fun i L st σ => match i, L, st with
  | _, _, _ => none
def M_Survey_begin (l0 : Int) (σ : mS) : Option (Int × mS) :=
  (gf 8 1 l0 σ).bind fun v1 =>
  (pz 5 7 v1 1 σ).bind fun σ =>
  (gf 8 2 l0 σ).bind fun v2 =>
  (M_JA_fill v2 0 σ).bind fun p3 =>
  (gf 8 3 l0 p3.2).bind fun v4 =>
  (M_JA_fill v4 0 p3.2).bind fun p5 =>
  some (0, p5.2)
set_option maxRecDepth 100000 in
theorem E_Survey_begin_0 (l0 : Int) (σ : mS) : mblk c_Survey_begin K_Survey_begin (C_Survey_begin) (F_Survey_begin_0) (fun v σ => some (v, σ)) 14 0 (mInit 1 [(3, l0)]) [] σ = M_Survey_begin l0 σ := rfl
def C_Survey_wouldEndIn : Nat → List mV → mS → Option (Int × mS) := fun k as σ => match k, as with
  | 195, [(3, a0), (1, a1)] => M_Light_comesTo a0 a1 σ
  | _, _ => none
def K_Survey_wouldEndIn : Nat → Bool := fun i => false
def F_Survey_wouldEndIn_0 : Nat → List mV → List mV → mS → Option (Int × mS) := fun i L st σ => match i, L, st with
  | _, _, _ => none
def M_Survey_wouldEndIn (l0 l1 l2 : Int) (σ : mS) : Option (Int × mS) :=
  (gf 8 0 l0 σ).bind fun v1 =>
  (gf 7 0 v1 σ).bind fun v2 =>
  (ld 100 v2 l1 σ).bind fun v3 =>
  (gf 8 1 l0 σ).bind fun v4 =>
  (gf 5 10 v4 σ).bind fun v5 =>
  (ld 100 v5 l1 σ).bind fun v6 =>
  (gf 8 1 l0 σ).bind fun v7 =>
  (gk 5 v7 σ).bind fun _ => (M_Light_comesTo v7 l1 σ).bind fun p8 =>
  if p8.1 = 0 then 
    if 0 = 0 ∨ 0 = 1 then some (0, p8.2) else none
  else
    if v6 < (w32 (100 * v3)) then 
      if 0 = 0 ∨ 0 = 1 then some (0, p8.2) else none
    else
      if v6 < 3200 then 
        if v6 < (w32 ((w32 (100 * v3)) + (w32 (100 * l2)))) then 
          if 1 = 0 ∨ 1 = 1 then some (1, p8.2) else none
        else
          if 0 = 0 ∨ 0 = 1 then some (0, p8.2) else none
      else
        if 0 = 0 ∨ 0 = 1 then some (0, p8.2) else none
set_option maxRecDepth 100000 in
theorem E_Survey_wouldEndIn_0 (l0 l1 l2 : Int) (σ : mS) : mblk c_Survey_wouldEndIn K_Survey_wouldEndIn (C_Survey_wouldEndIn) (F_Survey_wouldEndIn_0) (fun v σ => some (v, σ)) 37 0 (mInit 5 [(3, l0), (1, l1), (1, l2)]) [] σ = M_Survey_wouldEndIn l0 l1 l2 σ := rfl
def C_Survey_addHours : Nat → List mV → mS → Option (Int × mS) := fun k as σ => match k, as with
  | 190, [(3, a0), (1, a1)] => M_Light_send a0 a1 σ
  | 229, [(3, a0), (1, a1), (1, a2)] => M_Survey_wouldEndIn a0 a1 a2 σ
  | _, _ => none
def K_Survey_addHours : Nat → Bool := fun i => i.beq 2 || i.beq 15
def F_Survey_addHours_15 : Nat → List mV → List mV → mS → Option (((Int × mS) ⊕ ((Int × mS) ⊕ (Int × mS)))) := fun i L st σ => match i, L, st with
  | 2, [(3, l0), (1, l1), (1, l2), (1, l3), _], [] => some (.inr (.inl (l3, σ)))
  | 15, [(3, l0), (1, l1), (1, l2), (1, l3), (1, l4)], [] => some (.inl (l4, σ))
  | _, _, _ => none
def B_Survey_addHours_15 (l0 l1 l2 l3 l4 : Int) (σ : mS) : Option (((Int × mS) ⊕ ((Int × mS) ⊕ (Int × mS)))) :=
  (gf 8 1 l0 σ).bind fun v1 =>
  (gf 5 11 v1 σ).bind fun v2 =>
  if v2 < l4 then 
    some (.inr (.inl (w32 (l3 + 1), σ)))
  else
    (gk 8 l0 σ).bind fun _ => (M_Survey_wouldEndIn l0 l4 l1 σ).bind fun p3 =>
    if p3.1 = 0 then 
      some (.inl (w32 (l4 + 1), p3.2))
    else
      (gf 8 2 l0 p3.2).bind fun v4 =>
      (ld 100 v4 l4 p3.2).bind fun v5 =>
      (sd 100 v4 l4 (ior v5 l2) p3.2).bind fun σ =>
      some (.inl (w32 (l4 + 1), σ))
set_option maxRecDepth 100000 in
theorem E_Survey_addHours_15 (l0 l1 l2 l3 l4 : Int) (σ : mS) : mblk c_Survey_addHours K_Survey_addHours (C_Survey_addHours) (F_Survey_addHours_15) (fun v σ => some (.inr (.inr (v, σ)))) 39 15 ([(3, l0), (1, l1), (1, l2), (1, l3), (1, l4)]) [] σ = B_Survey_addHours_15 l0 l1 l2 l3 l4 σ := rfl
def M_Survey_addHours_15 (l0 l1 l2 l3 l4 : Int) (σ : mS) : Option (((Int × mS) ⊕ (Int × mS))) := miter (fun s : Int × mS => B_Survey_addHours_15 l0 l1 l2 l3 s.1 s.2) mN (l4, σ)
def F_Survey_addHours_2 : Nat → List mV → List mV → mS → Option (((Int × mS) ⊕ (Int × mS))) := fun i L st σ => match i, L, st with
  | 15, [(3, l0), (1, l1), (1, l2), (1, l3), (1, l4)], [] => M_Survey_addHours_15 l0 l1 l2 l3 l4 σ
  | _, _, _ => none
def B_Survey_addHours_2 (l0 l1 l2 l3 : Int) (σ : mS) : Option (((Int × mS) ⊕ (Int × mS))) :=
  if 100 < l3 then 
    some (.inr (0, σ))
  else
    (gf 8 1 l0 σ).bind fun v1 =>
    (gk 5 v1 σ).bind fun _ => (M_Light_send v1 l3 σ).bind fun p2 =>
    (gf 8 1 l0 p2.2).bind fun v3 =>
    (gf 5 3 v3 p2.2).bind fun v4 =>
    M_Survey_addHours_15 l0 l1 l2 l3 (w32 (v4 + 1)) p2.2
set_option maxRecDepth 100000 in
theorem E_Survey_addHours_2 (l0 l1 l2 l3 : Int) (σ : mS) : mblk c_Survey_addHours K_Survey_addHours (C_Survey_addHours) (F_Survey_addHours_2) (fun v σ => some (.inr (v, σ))) 39 2 ([(3, l0), (1, l1), (1, l2), (1, l3), (0, 0)]) [] σ = B_Survey_addHours_2 l0 l1 l2 l3 σ := rfl
def M_Survey_addHours_2 (l0 l1 l2 l3 : Int) (σ : mS) : Option (Int × mS) := miter (fun s : Int × mS => B_Survey_addHours_2 l0 l1 l2 s.1 s.2) mN (l3, σ)
def F_Survey_addHours_0 : Nat → List mV → List mV → mS → Option (Int × mS) := fun i L st σ => match i, L, st with
  | 2, [(3, l0), (1, l1), (1, l2), (1, l3), _], [] => M_Survey_addHours_2 l0 l1 l2 l3 σ
  | _, _, _ => none
def M_Survey_addHours (l0 l1 l2 : Int) (σ : mS) : Option (Int × mS) :=
  M_Survey_addHours_2 l0 l1 l2 (-100) σ
set_option maxRecDepth 100000 in
theorem E_Survey_addHours_0 (l0 l1 l2 : Int) (σ : mS) : mblk c_Survey_addHours K_Survey_addHours (C_Survey_addHours) (F_Survey_addHours_0) (fun v σ => some (v, σ)) 39 0 (mInit 5 [(3, l0), (1, l1), (1, l2)]) [] σ = M_Survey_addHours l0 l1 l2 σ := rfl
def C_JI_bitCount : Nat → List mV → mS → Option (Int × mS) := fun k as σ => match k, as with
  | _, _ => none
def K_JI_bitCount : Nat → Bool := fun i => false
def F_JI_bitCount_0 : Nat → List mV → List mV → mS → Option (Int × mS) := fun i L st σ => match i, L, st with
  | _, _, _ => none
def M_JI_bitCount (l0 : Int) (σ : mS) : Option (Int × mS) :=
  some (iand (w32 ((w32 ((iand (w32 ((w32 ((iand (w32 (l0 - (iand (iushr l0 1) 1431655765))) 858993459) + (iand (iushr (w32 (l0 - (iand (iushr l0 1) 1431655765))) 2) 858993459))) + (iushr (w32 ((iand (w32 (l0 - (iand (iushr l0 1) 1431655765))) 858993459) + (iand (iushr (w32 (l0 - (iand (iushr l0 1) 1431655765))) 2) 858993459))) 4))) 252645135) + (iushr (iand (w32 ((w32 ((iand (w32 (l0 - (iand (iushr l0 1) 1431655765))) 858993459) + (iand (iushr (w32 (l0 - (iand (iushr l0 1) 1431655765))) 2) 858993459))) + (iushr (w32 ((iand (w32 (l0 - (iand (iushr l0 1) 1431655765))) 858993459) + (iand (iushr (w32 (l0 - (iand (iushr l0 1) 1431655765))) 2) 858993459))) 4))) 252645135) 8))) + (iushr (w32 ((iand (w32 ((w32 ((iand (w32 (l0 - (iand (iushr l0 1) 1431655765))) 858993459) + (iand (iushr (w32 (l0 - (iand (iushr l0 1) 1431655765))) 2) 858993459))) + (iushr (w32 ((iand (w32 (l0 - (iand (iushr l0 1) 1431655765))) 858993459) + (iand (iushr (w32 (l0 - (iand (iushr l0 1) 1431655765))) 2) 858993459))) 4))) 252645135) + (iushr (iand (w32 ((w32 ((iand (w32 (l0 - (iand (iushr l0 1) 1431655765))) 858993459) + (iand (iushr (w32 (l0 - (iand (iushr l0 1) 1431655765))) 2) 858993459))) + (iushr (w32 ((iand (w32 (l0 - (iand (iushr l0 1) 1431655765))) 858993459) + (iand (iushr (w32 (l0 - (iand (iushr l0 1) 1431655765))) 2) 858993459))) 4))) 252645135) 8))) 16))) 63, σ)
set_option maxRecDepth 100000 in
theorem E_JI_bitCount_0 (l0 : Int) (σ : mS) : mblk c_JI_bitCount K_JI_bitCount (C_JI_bitCount) (F_JI_bitCount_0) (fun v σ => some (v, σ)) 43 0 (mInit 1 [(1, l0)]) [] σ = M_JI_bitCount l0 σ := rfl
def C_Survey_hoursAt : Nat → List mV → mS → Option (Int × mS) := fun k as σ => match k, as with
  | 238, [(1, a0)] => M_JI_bitCount a0 σ
  | _, _ => none
def K_Survey_hoursAt : Nat → Bool := fun i => false
def F_Survey_hoursAt_0 : Nat → List mV → List mV → mS → Option (Int × mS) := fun i L st σ => match i, L, st with
  | _, _, _ => none
def M_Survey_hoursAt (l0 l1 : Int) (σ : mS) : Option (Int × mS) :=
  (gf 8 2 l0 σ).bind fun v1 =>
  (ld 100 v1 l1 σ).bind fun v2 =>
  (M_JI_bitCount v2 σ).bind fun p3 =>
  some (p3.1, p3.2)
set_option maxRecDepth 100000 in
theorem E_Survey_hoursAt_0 (l0 l1 : Int) (σ : mS) : mblk c_Survey_hoursAt K_Survey_hoursAt (C_Survey_hoursAt) (F_Survey_hoursAt_0) (fun v σ => some (v, σ)) 7 0 (mInit 2 [(3, l0), (1, l1)]) [] σ = M_Survey_hoursAt l0 l1 σ := rfl
def C_Survey_placeOfMostHours : Nat → List mV → mS → Option (Int × mS) := fun k as σ => match k, as with
  | 231, [(3, a0), (1, a1)] => M_Survey_hoursAt a0 a1 σ
  | _, _ => none
def K_Survey_placeOfMostHours : Nat → Bool := fun i => i.beq 8
def F_Survey_placeOfMostHours_8 : Nat → List mV → List mV → mS → Option (((Int × Int × mS) ⊕ (Int × mS))) := fun i L st σ => match i, L, st with
  | 8, [(3, l0), (1, l1), (1, l2)], [] => some (.inl (l1, l2, σ))
  | _, _, _ => none
def B_Survey_placeOfMostHours_8 (l0 l1 l2 : Int) (σ : mS) : Option (((Int × Int × mS) ⊕ (Int × mS))) :=
  if l2 < 64 then 
    (gf 8 0 l0 σ).bind fun v1 =>
    (gf 7 2 v1 σ).bind fun v2 =>
    (ld 100 v2 l2 σ).bind fun v3 =>
    if v3 = (-1) then 
      if l1 = (-1) then 
        some (.inl (l2, w32 (l2 + 1), σ))
      else
        (gk 8 l0 σ).bind fun _ => (M_Survey_hoursAt l0 l2 σ).bind fun p4 =>
        (gk 8 l0 p4.2).bind fun _ => (M_Survey_hoursAt l0 l1 p4.2).bind fun p5 =>
        if p5.1 < p4.1 then 
          some (.inl (l2, w32 (l2 + 1), p5.2))
        else
          some (.inl (l1, w32 (l2 + 1), p5.2))
    else
      some (.inl (l1, w32 (l2 + 1), σ))
  else
    some (.inr (l1, σ))
set_option maxRecDepth 100000 in
theorem E_Survey_placeOfMostHours_8 (l0 l1 l2 : Int) (σ : mS) : mblk c_Survey_placeOfMostHours K_Survey_placeOfMostHours (C_Survey_placeOfMostHours) (F_Survey_placeOfMostHours_8) (fun v σ => some (.inr (v, σ))) 35 8 ([(3, l0), (1, l1), (1, l2)]) [] σ = B_Survey_placeOfMostHours_8 l0 l1 l2 σ := rfl
def M_Survey_placeOfMostHours_8 (l0 l1 l2 : Int) (σ : mS) : Option (Int × mS) := miter (fun s : Int × Int × mS => B_Survey_placeOfMostHours_8 l0 s.1 s.2.1 s.2.2) mN (l1, l2, σ)
def F_Survey_placeOfMostHours_0 : Nat → List mV → List mV → mS → Option (Int × mS) := fun i L st σ => match i, L, st with
  | 8, [(3, l0), (1, l1), (1, l2)], [] => M_Survey_placeOfMostHours_8 l0 l1 l2 σ
  | _, _, _ => none
def M_Survey_placeOfMostHours (l0 : Int) (σ : mS) : Option (Int × mS) :=
  (gf 8 1 l0 σ).bind fun v1 =>
  (gf 5 3 v1 σ).bind fun v2 =>
  M_Survey_placeOfMostHours_8 l0 (-1) (w32 (v2 + 1)) σ
set_option maxRecDepth 100000 in
theorem E_Survey_placeOfMostHours_0 (l0 : Int) (σ : mS) : mblk c_Survey_placeOfMostHours K_Survey_placeOfMostHours (C_Survey_placeOfMostHours) (F_Survey_placeOfMostHours_0) (fun v σ => some (v, σ)) 35 0 (mInit 3 [(3, l0)]) [] σ = M_Survey_placeOfMostHours l0 σ := rfl
def C_RW_mark : Nat → List mV → mS → Option (Int × mS) := fun k as σ => match k, as with
  | 47, [(1, a0), (1, a1), (1, a2)] => M_RW_isWithin a0 a1 a2 σ
  | 50, [(1, a0)] => M_RW_isTall a0 σ
  | 159, [(3, a0)] => M_Air_differsByHour a0 σ
  | 188, [(3, a0)] => M_Light_standByTerms a0 σ
  | 189, [(3, a0), (1, a1)] => M_Light_turnTo a0 a1 σ
  | 228, [(3, a0)] => M_Survey_begin a0 σ
  | 230, [(3, a0), (1, a1), (1, a2)] => M_Survey_addHours a0 a1 a2 σ
  | 231, [(3, a0), (1, a1)] => M_Survey_hoursAt a0 a1 σ
  | 232, [(3, a0)] => M_Survey_placeOfMostHours a0 σ
  | _, _ => none
def K_RW_mark : Nat → Bool := fun i => i.beq 26
def F_RW_mark_26 : Nat → List mV → List mV → mS → Option (((Int × mS) ⊕ (Int × mS))) := fun i L st σ => match i, L, st with
  | 26, [(3, l0), (1, l1), (1, l2), (1, l3), (1, l4)], [] => some (.inl (l4, σ))
  | _, _, _ => none
def B_RW_mark_26 (l0 l1 l2 l3 l4 : Int) (σ : mS) : Option (((Int × mS) ⊕ (Int × mS))) :=
  if l4 < l3 then 
    (gf 10 6 l0 σ).bind fun v1 =>
    (gk 5 v1 σ).bind fun _ => (M_Light_turnTo v1 l4 σ).bind fun p2 =>
    (gf 10 8 l0 p2.2).bind fun v3 =>
    if l3 = 1 then 
      (gk 8 v3 p2.2).bind fun _ => (M_Survey_addHours v3 l1 16777215 p2.2).bind fun p4 =>
      some (.inl (w32 (l4 + 1), p4.2))
    else
      (gk 8 v3 p2.2).bind fun _ => (M_Survey_addHours v3 l1 (ishl 1 l4) p2.2).bind fun p5 =>
      some (.inl (w32 (l4 + 1), p5.2))
  else
    (gf 10 8 l0 σ).bind fun v6 =>
    (gk 8 v6 σ).bind fun _ => (M_Survey_placeOfMostHours v6 σ).bind fun p7 =>
    if p7.1 = (-1) then 
      some (.inr (p7.1, p7.2))
    else
      if l2 = 0 then 
        some (.inr (p7.1, p7.2))
      else
        (gf 10 8 l0 p7.2).bind fun v8 =>
        (gk 8 v8 p7.2).bind fun _ => (M_Survey_hoursAt v8 p7.1 p7.2).bind fun p9 =>
        some (.inr (p9.1, p9.2))
set_option maxRecDepth 100000 in
theorem E_RW_mark_26 (l0 l1 l2 l3 l4 : Int) (σ : mS) : mblk c_RW_mark K_RW_mark (C_RW_mark) (F_RW_mark_26) (fun v σ => some (.inr (v, σ))) 64 26 ([(3, l0), (1, l1), (1, l2), (1, l3), (1, l4)]) [] σ = B_RW_mark_26 l0 l1 l2 l3 l4 σ := rfl
def M_RW_mark_26 (l0 l1 l2 l3 l4 : Int) (σ : mS) : Option (Int × mS) := miter (fun s : Int × mS => B_RW_mark_26 l0 l1 l2 l3 s.1 s.2) mN (l4, σ)
def F_RW_mark_0 : Nat → List mV → List mV → mS → Option (Int × mS) := fun i L st σ => match i, L, st with
  | 26, [(3, l0), (1, l1), (1, l2), (1, l3), (1, l4)], [] => M_RW_mark_26 l0 l1 l2 l3 l4 σ
  | _, _, _ => none
def M_RW_mark (l0 l1 l2 : Int) (σ : mS) : Option (Int × mS) :=
  (M_RW_isTall l1 σ).bind fun p1 =>
  if p1.1 = 0 then 
    some ((-1), p1.2)
  else
    (M_RW_isWithin l2 0 1 p1.2).bind fun p2 =>
    if p2.1 = 0 then 
      some ((-1), p2.2)
    else
      (gf 10 6 l0 p2.2).bind fun v3 =>
      (gk 5 v3 p2.2).bind fun _ => (M_Light_standByTerms v3 p2.2).bind fun p4 =>
      (gf 10 8 l0 p4.2).bind fun v5 =>
      (gk 8 v5 p4.2).bind fun _ => (M_Survey_begin v5 p4.2).bind fun p6 =>
      (gf 10 5 l0 p6.2).bind fun v7 =>
      (gk 1 v7 p6.2).bind fun _ => (M_Air_differsByHour v7 p6.2).bind fun p8 =>
      if p8.1 = 0 then 
        M_RW_mark_26 l0 l1 l2 1 0 p8.2
      else
        M_RW_mark_26 l0 l1 l2 24 0 p8.2
set_option maxRecDepth 100000 in
theorem E_RW_mark_0 (l0 l1 l2 : Int) (σ : mS) : mblk c_RW_mark K_RW_mark (C_RW_mark) (F_RW_mark_0) (fun v σ => some (v, σ)) 64 0 (mInit 5 [(3, l0), (1, l1), (1, l2)]) [] σ = M_RW_mark l0 l1 l2 σ := rfl
def C_Light_levelError : Nat → List mV → mS → Option (Int × mS) := fun k as σ => match k, as with
  | 190, [(3, a0), (1, a1)] => M_Light_send a0 a1 σ
  | 195, [(3, a0), (1, a1)] => M_Light_comesTo a0 a1 σ
  | _, _ => none
def K_Light_levelError : Nat → Bool := fun i => false
def F_Light_levelError_0 : Nat → List mV → List mV → mS → Option (Int × mS) := fun i L st σ => match i, L, st with
  | _, _, _ => none
def M_Light_levelError (l0 l1 : Int) (σ : mS) : Option (Int × mS) :=
  (gf 5 3 l0 σ).bind fun v1 =>
  if v1 < l1 then 
    (gk 5 l0 σ).bind fun _ => (M_Light_send l0 0 σ).bind fun p2 =>
    (gk 5 l0 p2.2).bind fun _ => (M_Light_comesTo l0 l1 p2.2).bind fun p3 =>
    if p3.1 = 0 then 
      some ((-1000000), p3.2)
    else
      (gf 5 10 l0 p3.2).bind fun v4 =>
      (ld 100 v4 l1 p3.2).bind fun v5 =>
      (gf 5 10 l0 p3.2).bind fun v6 =>
      (gf 5 3 l0 p3.2).bind fun v7 =>
      (ld 100 v6 v7 p3.2).bind fun v8 =>
      some (w32 (v5 - v8), p3.2)
  else
    some ((-1000000), σ)
set_option maxRecDepth 100000 in
theorem E_Light_levelError_0 (l0 l1 : Int) (σ : mS) : mblk c_Light_levelError K_Light_levelError (C_Light_levelError) (F_Light_levelError_0) (fun v σ => some (v, σ)) 27 0 (mInit 2 [(3, l0), (1, l1)]) [] σ = M_Light_levelError l0 l1 σ := rfl
def C_RW_level : Nat → List mV → mS → Option (Int × mS) := fun k as σ => match k, as with
  | 48, [(1, a0)] => M_RW_isPlace a0 σ
  | 188, [(3, a0)] => M_Light_standByTerms a0 σ
  | 196, [(3, a0), (1, a1)] => M_Light_levelError a0 a1 σ
  | _, _ => none
def K_RW_level : Nat → Bool := fun i => false
def F_RW_level_0 : Nat → List mV → List mV → mS → Option (Int × mS) := fun i L st σ => match i, L, st with
  | _, _, _ => none
def M_RW_level (l0 l1 : Int) (σ : mS) : Option (Int × mS) :=
  (M_RW_isPlace l1 σ).bind fun p1 =>
  if p1.1 = 0 then 
    some ((-1000000), p1.2)
  else
    (gf 10 6 l0 p1.2).bind fun v2 =>
    (gk 5 v2 p1.2).bind fun _ => (M_Light_standByTerms v2 p1.2).bind fun p3 =>
    (gf 10 6 l0 p3.2).bind fun v4 =>
    (gk 5 v4 p3.2).bind fun _ => (M_Light_levelError v4 l1 p3.2).bind fun p5 =>
    some (p5.1, p5.2)
set_option maxRecDepth 100000 in
theorem E_RW_level_0 (l0 l1 : Int) (σ : mS) : mblk c_RW_level K_RW_level (C_RW_level) (F_RW_level_0) (fun v σ => some (v, σ)) 14 0 (mInit 2 [(3, l0), (1, l1)]) [] σ = M_RW_level l0 l1 σ := rfl
def C_RW_best : Nat → List mV → mS → Option (Int × mS) := fun k as σ => match k, as with
  | 48, [(1, a0)] => M_RW_isPlace a0 σ
  | 188, [(3, a0)] => M_Light_standByTerms a0 σ
  | 189, [(3, a0), (1, a1)] => M_Light_turnTo a0 a1 σ
  | 196, [(3, a0), (1, a1)] => M_Light_levelError a0 a1 σ
  | _, _ => none
def K_RW_best : Nat → Bool := fun i => i.beq 14 || i.beq 36
def F_RW_best_36 : Nat → List mV → List mV → mS → Option (((Int × Int × Int × mS) ⊕ (Int × mS))) := fun i L st σ => match i, L, st with
  | 14, [(3, l0), (1, l1), (1, l2), (1, l3), (1, l4), _], [] => some (.inl (l2, l3, l4, σ))
  | _, _, _ => none
def M_RW_best_36 (l0 l1 l4 l5 : Int) (σ : mS) : Option (((Int × Int × Int × mS) ⊕ (Int × mS))) :=
  some (.inl (l4, jabs l5, w32 (l4 + 1), σ))
set_option maxRecDepth 100000 in
theorem E_RW_best_36 (l0 l1 l4 l5 : Int) (σ : mS) : mblk c_RW_best K_RW_best (C_RW_best) (F_RW_best_36) (fun v σ => some (.inr (v, σ))) 46 36 ([(3, l0), (1, l1), (0, 0), (0, 0), (1, l4), (1, l5)]) [] σ = M_RW_best_36 l0 l1 l4 l5 σ := rfl
def F_RW_best_14 : Nat → List mV → List mV → mS → Option (((Int × Int × Int × mS) ⊕ (Int × mS))) := fun i L st σ => match i, L, st with
  | 14, [(3, l0), (1, l1), (1, l2), (1, l3), (1, l4), _], [] => some (.inl (l2, l3, l4, σ))
  | 36, [(3, l0), (1, l1), _, _, (1, l4), (1, l5)], [] => M_RW_best_36 l0 l1 l4 l5 σ
  | _, _, _ => none
def B_RW_best_14 (l0 l1 l2 l3 l4 : Int) (σ : mS) : Option (((Int × Int × Int × mS) ⊕ (Int × mS))) :=
  if l4 < 24 then 
    (gf 10 6 l0 σ).bind fun v1 =>
    (gk 5 v1 σ).bind fun _ => (M_Light_turnTo v1 l4 σ).bind fun p2 =>
    (gf 10 6 l0 p2.2).bind fun v3 =>
    (gk 5 v3 p2.2).bind fun _ => (M_Light_levelError v3 l1 p2.2).bind fun p4 =>
    if p4.1 = (-1000000) then 
      some (.inl (l2, l3, w32 (l4 + 1), p4.2))
    else
      if l2 = (-1) then 
        M_RW_best_36 l0 l1 l4 p4.1 p4.2
      else
        if (jabs p4.1) < l3 then 
          M_RW_best_36 l0 l1 l4 p4.1 p4.2
        else
          some (.inl (l2, l3, w32 (l4 + 1), p4.2))
  else
    some (.inr (l2, σ))
set_option maxRecDepth 100000 in
theorem E_RW_best_14 (l0 l1 l2 l3 l4 : Int) (σ : mS) : mblk c_RW_best K_RW_best (C_RW_best) (F_RW_best_14) (fun v σ => some (.inr (v, σ))) 46 14 ([(3, l0), (1, l1), (1, l2), (1, l3), (1, l4), (0, 0)]) [] σ = B_RW_best_14 l0 l1 l2 l3 l4 σ := rfl
def M_RW_best_14 (l0 l1 l2 l3 l4 : Int) (σ : mS) : Option (Int × mS) := miter (fun s : Int × Int × Int × mS => B_RW_best_14 l0 l1 s.1 s.2.1 s.2.2.1 s.2.2.2) mN (l2, l3, l4, σ)
def F_RW_best_0 : Nat → List mV → List mV → mS → Option (Int × mS) := fun i L st σ => match i, L, st with
  | 14, [(3, l0), (1, l1), (1, l2), (1, l3), (1, l4), _], [] => M_RW_best_14 l0 l1 l2 l3 l4 σ
  | _, _, _ => none
def M_RW_best (l0 l1 : Int) (σ : mS) : Option (Int × mS) :=
  (M_RW_isPlace l1 σ).bind fun p1 =>
  if p1.1 = 0 then 
    some ((-1), p1.2)
  else
    (gf 10 6 l0 p1.2).bind fun v2 =>
    (gk 5 v2 p1.2).bind fun _ => (M_Light_standByTerms v2 p1.2).bind fun p3 =>
    M_RW_best_14 l0 l1 (-1) 0 0 p3.2
set_option maxRecDepth 100000 in
theorem E_RW_best_0 (l0 l1 : Int) (σ : mS) : mblk c_RW_best K_RW_best (C_RW_best) (F_RW_best_0) (fun v σ => some (v, σ)) 46 0 (mInit 6 [(3, l0), (1, l1)]) [] σ = M_RW_best l0 l1 σ := rfl
def C_RW_eyes : Nat → List mV → mS → Option (Int × mS) := fun k as σ => match k, as with
  | 47, [(1, a0), (1, a1), (1, a2)] => M_RW_isWithin a0 a1 a2 σ
  | 166, [(3, a0)] => M_Field_look a0 σ
  | 167, [(3, a0), (1, a1)] => M_Field_raysTo a0 a1 σ
  | 169, [(3, a0), (1, a1)] => M_Field_picturesOf a0 a1 σ
  | 175, [(3, a0), (1, a1), (1, a2)] => M_Field_hiddenInches a0 a1 a2 σ
  | 188, [(3, a0)] => M_Light_standByTerms a0 σ
  | 222, [(3, a0), (1, a1)] => M_Road_hasThing a0 a1 σ
  | 223, [(3, a0), (1, a1)] => M_Road_inchesThere a0 a1 σ
  | _, _ => none
def K_RW_eyes : Nat → Bool := fun i => i.beq 19 || i.beq 36 || i.beq 48 || i.beq 57 || i.beq 59 || i.beq 60
def F_RW_eyes_60 : Nat → List mV → List mV → mS → Option (((Int × Int × mS) ⊕ (Int × mS))) := fun i L st σ => match i, L, st with
  | 19, [(3, l0), (1, l1), (1, l2), (1, l3), (1, l4), _], [] => some (.inl (l3, l4, σ))
  | _, _, _ => none
def M_RW_eyes_60 (l0 l1 l2 l3 l4 s0 : Int) (σ : mS) : Option (((Int × Int × mS) ⊕ (Int × mS))) :=
  if s0 = 0 then 
    some (.inl (l3, w32 (l4 + 1), σ))
  else
    some (.inl (w32 (l3 + 1), w32 (l4 + 1), σ))
set_option maxRecDepth 100000 in
theorem E_RW_eyes_60 (l0 l1 l2 l3 l4 s0 : Int) (σ : mS) : mblk c_RW_eyes K_RW_eyes (C_RW_eyes) (F_RW_eyes_60) (fun v σ => some (.inr (v, σ))) 69 60 ([(3, l0), (1, l1), (1, l2), (1, l3), (1, l4), (0, 0)]) [(1, s0)] σ = M_RW_eyes_60 l0 l1 l2 l3 l4 s0 σ := rfl
def F_RW_eyes_57 : Nat → List mV → List mV → mS → Option (((Int × Int × mS) ⊕ (Int × mS))) := fun i L st σ => match i, L, st with
  | 60, [(3, l0), (1, l1), (1, l2), (1, l3), (1, l4), _], [(1, s0)] => M_RW_eyes_60 l0 l1 l2 l3 l4 s0 σ
  | _, _, _ => none
def M_RW_eyes_57 (l0 l1 l2 l3 l4 : Int) (σ : mS) : Option (((Int × Int × mS) ⊕ (Int × mS))) :=
  M_RW_eyes_60 l0 l1 l2 l3 l4 1 σ
set_option maxRecDepth 100000 in
theorem E_RW_eyes_57 (l0 l1 l2 l3 l4 : Int) (σ : mS) : mblk c_RW_eyes K_RW_eyes (C_RW_eyes) (F_RW_eyes_57) (fun v σ => some (.inr (v, σ))) 69 57 ([(3, l0), (1, l1), (1, l2), (1, l3), (1, l4), (0, 0)]) [] σ = M_RW_eyes_57 l0 l1 l2 l3 l4 σ := rfl
def F_RW_eyes_59 : Nat → List mV → List mV → mS → Option (((Int × Int × mS) ⊕ (Int × mS))) := fun i L st σ => match i, L, st with
  | 60, [(3, l0), (1, l1), (1, l2), (1, l3), (1, l4), _], [(1, s0)] => M_RW_eyes_60 l0 l1 l2 l3 l4 s0 σ
  | _, _, _ => none
def M_RW_eyes_59 (l0 l1 l2 l3 l4 : Int) (σ : mS) : Option (((Int × Int × mS) ⊕ (Int × mS))) :=
  M_RW_eyes_60 l0 l1 l2 l3 l4 0 σ
set_option maxRecDepth 100000 in
theorem E_RW_eyes_59 (l0 l1 l2 l3 l4 : Int) (σ : mS) : mblk c_RW_eyes K_RW_eyes (C_RW_eyes) (F_RW_eyes_59) (fun v σ => some (.inr (v, σ))) 69 59 ([(3, l0), (1, l1), (1, l2), (1, l3), (1, l4), (0, 0)]) [] σ = M_RW_eyes_59 l0 l1 l2 l3 l4 σ := rfl
def F_RW_eyes_48 : Nat → List mV → List mV → mS → Option (((Int × Int × mS) ⊕ (Int × mS))) := fun i L st σ => match i, L, st with
  | 57, [(3, l0), (1, l1), (1, l2), (1, l3), (1, l4), _], [] => M_RW_eyes_57 l0 l1 l2 l3 l4 σ
  | 59, [(3, l0), (1, l1), (1, l2), (1, l3), (1, l4), _], [] => M_RW_eyes_59 l0 l1 l2 l3 l4 σ
  | _, _, _ => none
def M_RW_eyes_48 (l0 l1 l2 l3 l4 : Int) (σ : mS) : Option (((Int × Int × mS) ⊕ (Int × mS))) :=
  if l2 = 2 then 
    (gf 10 7 l0 σ).bind fun v1 =>
    (gk 2 v1 σ).bind fun _ => (M_Field_picturesOf v1 l1 σ).bind fun p2 =>
    if p2.1 < 2 then 
      M_RW_eyes_59 l0 l1 l2 l3 l4 p2.2
    else
      M_RW_eyes_57 l0 l1 l2 l3 l4 p2.2
  else
    M_RW_eyes_59 l0 l1 l2 l3 l4 σ
set_option maxRecDepth 100000 in
theorem E_RW_eyes_48 (l0 l1 l2 l3 l4 : Int) (σ : mS) : mblk c_RW_eyes K_RW_eyes (C_RW_eyes) (F_RW_eyes_48) (fun v σ => some (.inr (v, σ))) 69 48 ([(3, l0), (1, l1), (1, l2), (1, l3), (1, l4), (0, 0)]) [] σ = M_RW_eyes_48 l0 l1 l2 l3 l4 σ := rfl
def F_RW_eyes_36 : Nat → List mV → List mV → mS → Option (((Int × Int × mS) ⊕ (Int × mS))) := fun i L st σ => match i, L, st with
  | 48, [(3, l0), (1, l1), (1, l2), (1, l3), (1, l4), _], [] => M_RW_eyes_48 l0 l1 l2 l3 l4 σ
  | 57, [(3, l0), (1, l1), (1, l2), (1, l3), (1, l4), _], [] => M_RW_eyes_57 l0 l1 l2 l3 l4 σ
  | _, _, _ => none
def M_RW_eyes_36 (l0 l1 l2 l3 l4 : Int) (σ : mS) : Option (((Int × Int × mS) ⊕ (Int × mS))) :=
  if l2 = 1 then 
    (gf 10 7 l0 σ).bind fun v1 =>
    (gf 10 0 l0 σ).bind fun v2 =>
    (gk 7 v2 σ).bind fun _ => (M_Road_inchesThere v2 l1 σ).bind fun p3 =>
    (gk 2 v1 p3.2).bind fun _ => (M_Field_hiddenInches v1 l1 p3.1 p3.2).bind fun p4 =>
    if p4.1 = 0 then 
      M_RW_eyes_57 l0 l1 l2 l3 l4 p4.2
    else
      M_RW_eyes_48 l0 l1 l2 l3 l4 p4.2
  else
    M_RW_eyes_48 l0 l1 l2 l3 l4 σ
set_option maxRecDepth 100000 in
theorem E_RW_eyes_36 (l0 l1 l2 l3 l4 : Int) (σ : mS) : mblk c_RW_eyes K_RW_eyes (C_RW_eyes) (F_RW_eyes_36) (fun v σ => some (.inr (v, σ))) 69 36 ([(3, l0), (1, l1), (1, l2), (1, l3), (1, l4), (0, 0)]) [] σ = M_RW_eyes_36 l0 l1 l2 l3 l4 σ := rfl
def F_RW_eyes_19 : Nat → List mV → List mV → mS → Option (((Int × Int × mS) ⊕ (Int × mS))) := fun i L st σ => match i, L, st with
  | 36, [(3, l0), (1, l1), (1, l2), (1, l3), (1, l4), _], [] => M_RW_eyes_36 l0 l1 l2 l3 l4 σ
  | 57, [(3, l0), (1, l1), (1, l2), (1, l3), (1, l4), _], [] => M_RW_eyes_57 l0 l1 l2 l3 l4 σ
  | _, _, _ => none
def B_RW_eyes_19 (l0 l1 l2 l3 l4 : Int) (σ : mS) : Option (((Int × Int × mS) ⊕ (Int × mS))) :=
  if l4 < 32 then 
    (gf 10 6 l0 σ).bind fun v1 =>
    (pf 5 4 v1 l4 σ).bind fun σ =>
    (gf 10 7 l0 σ).bind fun v2 =>
    (gk 2 v2 σ).bind fun _ => (M_Field_look v2 σ).bind fun p3 =>
    if l2 = 0 then 
      (gf 10 7 l0 p3.2).bind fun v4 =>
      (gk 2 v4 p3.2).bind fun _ => (M_Field_raysTo v4 l1 p3.2).bind fun p5 =>
      if 0 < p5.1 then 
        M_RW_eyes_57 l0 l1 l2 l3 l4 p5.2
      else
        M_RW_eyes_36 l0 l1 l2 l3 l4 p5.2
    else
      M_RW_eyes_36 l0 l1 l2 l3 l4 p3.2
  else
    some (.inr (l3, σ))
set_option maxRecDepth 100000 in
theorem E_RW_eyes_19 (l0 l1 l2 l3 l4 : Int) (σ : mS) : mblk c_RW_eyes K_RW_eyes (C_RW_eyes) (F_RW_eyes_19) (fun v σ => some (.inr (v, σ))) 69 19 ([(3, l0), (1, l1), (1, l2), (1, l3), (1, l4), (0, 0)]) [] σ = B_RW_eyes_19 l0 l1 l2 l3 l4 σ := rfl
def M_RW_eyes_19 (l0 l1 l2 l3 l4 : Int) (σ : mS) : Option (Int × mS) := miter (fun s : Int × Int × mS => B_RW_eyes_19 l0 l1 l2 s.1 s.2.1 s.2.2) mN (l3, l4, σ)
def F_RW_eyes_0 : Nat → List mV → List mV → mS → Option (Int × mS) := fun i L st σ => match i, L, st with
  | 19, [(3, l0), (1, l1), (1, l2), (1, l3), (1, l4), _], [] => M_RW_eyes_19 l0 l1 l2 l3 l4 σ
  | _, _, _ => none
def M_RW_eyes (l0 l1 l2 : Int) (σ : mS) : Option (Int × mS) :=
  (gf 10 0 l0 σ).bind fun v1 =>
  (gk 7 v1 σ).bind fun _ => (M_Road_hasThing v1 l1 σ).bind fun p2 =>
  if p2.1 = 0 then 
    some ((-1), p2.2)
  else
    (M_RW_isWithin l2 0 2 p2.2).bind fun p3 =>
    if p3.1 = 0 then 
      some ((-1), p3.2)
    else
      (gf 10 6 l0 p3.2).bind fun v4 =>
      (gk 5 v4 p3.2).bind fun _ => (M_Light_standByTerms v4 p3.2).bind fun p5 =>
      M_RW_eyes_19 l0 l1 l2 0 0 p5.2
set_option maxRecDepth 100000 in
theorem E_RW_eyes_0 (l0 l1 l2 : Int) (σ : mS) : mblk c_RW_eyes K_RW_eyes (C_RW_eyes) (F_RW_eyes_0) (fun v σ => some (v, σ)) 69 0 (mInit 6 [(3, l0), (1, l1), (1, l2)]) [] σ = M_RW_eyes l0 l1 l2 σ := rfl
def C_Survey_addPictures : Nat → List mV → mS → Option (Int × mS) := fun k as σ => match k, as with
  | 190, [(3, a0), (1, a1)] => M_Light_send a0 a1 σ
  | 229, [(3, a0), (1, a1), (1, a2)] => M_Survey_wouldEndIn a0 a1 a2 σ
  | _, _ => none
def K_Survey_addPictures : Nat → Bool := fun i => i.beq 2 || i.beq 15 || i.beq 26 || i.beq 41
def F_Survey_addPictures_41 : Nat → List mV → List mV → mS → Option (((Int × mS) ⊕ ((Int × mS) ⊕ (Int × mS)))) := fun i L st σ => match i, L, st with
  | 15, [(3, l0), (1, l1), (1, l2), (1, l3), _], [] => some (.inl (l3, σ))
  | _, _, _ => none
def M_Survey_addPictures_41 (l0 l1 l2 l3 l4 : Int) (σ : mS) : Option (((Int × mS) ⊕ ((Int × mS) ⊕ (Int × mS)))) :=
  (gf 8 3 l0 σ).bind fun v1 =>
  (sd 100 v1 l3 l4 σ).bind fun σ =>
  some (.inl (w32 (l3 + 1), σ))
set_option maxRecDepth 100000 in
theorem E_Survey_addPictures_41 (l0 l1 l2 l3 l4 : Int) (σ : mS) : mblk c_Survey_addPictures K_Survey_addPictures (C_Survey_addPictures) (F_Survey_addPictures_41) (fun v σ => some (.inr (.inr (v, σ)))) 52 41 ([(3, l0), (1, l1), (1, l2), (1, l3), (1, l4)]) [] σ = M_Survey_addPictures_41 l0 l1 l2 l3 l4 σ := rfl
def F_Survey_addPictures_26 : Nat → List mV → List mV → mS → Option (((Int × mS) ⊕ ((Int × mS) ⊕ (Int × mS)))) := fun i L st σ => match i, L, st with
  | 41, [(3, l0), (1, l1), (1, l2), (1, l3), (1, l4)], [] => M_Survey_addPictures_41 l0 l1 l2 l3 l4 σ
  | _, _, _ => none
def M_Survey_addPictures_26 (l0 l1 l2 l3 s0 : Int) (σ : mS) : Option (((Int × mS) ⊕ ((Int × mS) ⊕ (Int × mS)))) :=
  (gf 8 3 l0 σ).bind fun v1 =>
  (ld 100 v1 l3 σ).bind fun v2 =>
  if v2 < s0 then 
    (gf 8 2 l0 σ).bind fun v3 =>
    (ld 100 v3 l3 σ).bind fun v4 =>
    (sd 100 v3 l3 (w32 (v4 + 1)) σ).bind fun σ =>
    M_Survey_addPictures_41 l0 l1 l2 l3 s0 σ
  else
    M_Survey_addPictures_41 l0 l1 l2 l3 s0 σ
set_option maxRecDepth 100000 in
theorem E_Survey_addPictures_26 (l0 l1 l2 l3 s0 : Int) (σ : mS) : mblk c_Survey_addPictures K_Survey_addPictures (C_Survey_addPictures) (F_Survey_addPictures_26) (fun v σ => some (.inr (.inr (v, σ)))) 52 26 ([(3, l0), (1, l1), (1, l2), (1, l3), (0, 0)]) [(1, s0)] σ = M_Survey_addPictures_26 l0 l1 l2 l3 s0 σ := rfl
def F_Survey_addPictures_15 : Nat → List mV → List mV → mS → Option (((Int × mS) ⊕ ((Int × mS) ⊕ (Int × mS)))) := fun i L st σ => match i, L, st with
  | 2, [(3, l0), (1, l1), (1, l2), _, _], [] => some (.inr (.inl (l2, σ)))
  | 26, [(3, l0), (1, l1), (1, l2), (1, l3), _], [(1, s0)] => M_Survey_addPictures_26 l0 l1 l2 l3 s0 σ
  | _, _, _ => none
def B_Survey_addPictures_15 (l0 l1 l2 l3 : Int) (σ : mS) : Option (((Int × mS) ⊕ ((Int × mS) ⊕ (Int × mS)))) :=
  if l3 < 64 then 
    (gk 8 l0 σ).bind fun _ => (M_Survey_wouldEndIn l0 l3 l1 σ).bind fun p1 =>
    if p1.1 = 0 then 
      M_Survey_addPictures_26 l0 l1 l2 l3 0 p1.2
    else
      M_Survey_addPictures_26 l0 l1 l2 l3 1 p1.2
  else
    some (.inr (.inl (w32 (l2 + 1), σ)))
set_option maxRecDepth 100000 in
theorem E_Survey_addPictures_15 (l0 l1 l2 l3 : Int) (σ : mS) : mblk c_Survey_addPictures K_Survey_addPictures (C_Survey_addPictures) (F_Survey_addPictures_15) (fun v σ => some (.inr (.inr (v, σ)))) 52 15 ([(3, l0), (1, l1), (1, l2), (1, l3), (0, 0)]) [] σ = B_Survey_addPictures_15 l0 l1 l2 l3 σ := rfl
def M_Survey_addPictures_15 (l0 l1 l2 l3 : Int) (σ : mS) : Option (((Int × mS) ⊕ (Int × mS))) := miter (fun s : Int × mS => B_Survey_addPictures_15 l0 l1 l2 s.1 s.2) mN (l3, σ)
def F_Survey_addPictures_2 : Nat → List mV → List mV → mS → Option (((Int × mS) ⊕ (Int × mS))) := fun i L st σ => match i, L, st with
  | 15, [(3, l0), (1, l1), (1, l2), (1, l3), _], [] => M_Survey_addPictures_15 l0 l1 l2 l3 σ
  | _, _, _ => none
def B_Survey_addPictures_2 (l0 l1 l2 : Int) (σ : mS) : Option (((Int × mS) ⊕ (Int × mS))) :=
  if 100 < l2 then 
    some (.inr (0, σ))
  else
    (gf 8 1 l0 σ).bind fun v1 =>
    (gk 5 v1 σ).bind fun _ => (M_Light_send v1 l2 σ).bind fun p2 =>
    (gf 8 1 l0 p2.2).bind fun v3 =>
    (gf 5 3 v3 p2.2).bind fun v4 =>
    M_Survey_addPictures_15 l0 l1 l2 (w32 (v4 + 1)) p2.2
set_option maxRecDepth 100000 in
theorem E_Survey_addPictures_2 (l0 l1 l2 : Int) (σ : mS) : mblk c_Survey_addPictures K_Survey_addPictures (C_Survey_addPictures) (F_Survey_addPictures_2) (fun v σ => some (.inr (v, σ))) 52 2 ([(3, l0), (1, l1), (1, l2), (0, 0), (0, 0)]) [] σ = B_Survey_addPictures_2 l0 l1 l2 σ := rfl
def M_Survey_addPictures_2 (l0 l1 l2 : Int) (σ : mS) : Option (Int × mS) := miter (fun s : Int × mS => B_Survey_addPictures_2 l0 l1 s.1 s.2) mN (l2, σ)
def F_Survey_addPictures_0 : Nat → List mV → List mV → mS → Option (Int × mS) := fun i L st σ => match i, L, st with
  | 2, [(3, l0), (1, l1), (1, l2), _, _], [] => M_Survey_addPictures_2 l0 l1 l2 σ
  | _, _, _ => none
def M_Survey_addPictures (l0 l1 : Int) (σ : mS) : Option (Int × mS) :=
  M_Survey_addPictures_2 l0 l1 (-100) σ
set_option maxRecDepth 100000 in
theorem E_Survey_addPictures_0 (l0 l1 : Int) (σ : mS) : mblk c_Survey_addPictures K_Survey_addPictures (C_Survey_addPictures) (F_Survey_addPictures_0) (fun v σ => some (v, σ)) 52 0 (mInit 5 [(3, l0), (1, l1)]) [] σ = M_Survey_addPictures l0 l1 σ := rfl
def C_Survey_firstPlaceWith : Nat → List mV → mS → Option (Int × mS) := fun k as σ => match k, as with
  | _, _ => none
def K_Survey_firstPlaceWith : Nat → Bool := fun i => i.beq 6
def F_Survey_firstPlaceWith_6 : Nat → List mV → List mV → mS → Option (((Int × mS) ⊕ (Int × mS))) := fun i L st σ => match i, L, st with
  | 6, [(3, l0), (1, l1), (1, l2)], [] => some (.inl (l2, σ))
  | _, _, _ => none
def B_Survey_firstPlaceWith_6 (l0 l1 l2 : Int) (σ : mS) : Option (((Int × mS) ⊕ (Int × mS))) :=
  if l2 < 64 then 
    (gf 8 0 l0 σ).bind fun v1 =>
    (gf 7 2 v1 σ).bind fun v2 =>
    (ld 100 v2 l2 σ).bind fun v3 =>
    if v3 = (-1) then 
      (gf 8 2 l0 σ).bind fun v4 =>
      (ld 100 v4 l2 σ).bind fun v5 =>
      if v5 = l1 then 
        some (.inr (l2, σ))
      else
        some (.inl (w32 (l2 + 1), σ))
    else
      some (.inl (w32 (l2 + 1), σ))
  else
    some (.inr ((-1), σ))
set_option maxRecDepth 100000 in
theorem E_Survey_firstPlaceWith_6 (l0 l1 l2 : Int) (σ : mS) : mblk c_Survey_firstPlaceWith K_Survey_firstPlaceWith (C_Survey_firstPlaceWith) (F_Survey_firstPlaceWith_6) (fun v σ => some (.inr (v, σ))) 29 6 ([(3, l0), (1, l1), (1, l2)]) [] σ = B_Survey_firstPlaceWith_6 l0 l1 l2 σ := rfl
def M_Survey_firstPlaceWith_6 (l0 l1 l2 : Int) (σ : mS) : Option (Int × mS) := miter (fun s : Int × mS => B_Survey_firstPlaceWith_6 l0 l1 s.1 s.2) mN (l2, σ)
def F_Survey_firstPlaceWith_0 : Nat → List mV → List mV → mS → Option (Int × mS) := fun i L st σ => match i, L, st with
  | 6, [(3, l0), (1, l1), (1, l2)], [] => M_Survey_firstPlaceWith_6 l0 l1 l2 σ
  | _, _, _ => none
def M_Survey_firstPlaceWith (l0 l1 : Int) (σ : mS) : Option (Int × mS) :=
  (gf 8 1 l0 σ).bind fun v1 =>
  (gf 5 3 v1 σ).bind fun v2 =>
  M_Survey_firstPlaceWith_6 l0 l1 (w32 (v2 + 1)) σ
set_option maxRecDepth 100000 in
theorem E_Survey_firstPlaceWith_0 (l0 l1 : Int) (σ : mS) : mblk c_Survey_firstPlaceWith K_Survey_firstPlaceWith (C_Survey_firstPlaceWith) (F_Survey_firstPlaceWith_0) (fun v σ => some (v, σ)) 29 0 (mInit 3 [(3, l0), (1, l1)]) [] σ = M_Survey_firstPlaceWith l0 l1 σ := rfl
def C_RW_where : Nat → List mV → mS → Option (Int × mS) := fun k as σ => match k, as with
  | 47, [(1, a0), (1, a1), (1, a2)] => M_RW_isWithin a0 a1 a2 σ
  | 50, [(1, a0)] => M_RW_isTall a0 σ
  | 188, [(3, a0)] => M_Light_standByTerms a0 σ
  | 228, [(3, a0)] => M_Survey_begin a0 σ
  | 233, [(3, a0), (1, a1)] => M_Survey_addPictures a0 a1 σ
  | 234, [(3, a0), (1, a1)] => M_Survey_firstPlaceWith a0 a1 σ
  | _, _ => none
def K_RW_where : Nat → Bool := fun i => false
def F_RW_where_0 : Nat → List mV → List mV → mS → Option (Int × mS) := fun i L st σ => match i, L, st with
  | _, _, _ => none
def M_RW_where (l0 l1 l2 : Int) (σ : mS) : Option (Int × mS) :=
  (M_RW_isTall l1 σ).bind fun p1 =>
  if p1.1 = 0 then 
    some ((-1), p1.2)
  else
    (M_RW_isWithin l2 0 9 p1.2).bind fun p2 =>
    if p2.1 = 0 then 
      some ((-1), p2.2)
    else
      (gf 10 6 l0 p2.2).bind fun v3 =>
      (gk 5 v3 p2.2).bind fun _ => (M_Light_standByTerms v3 p2.2).bind fun p4 =>
      (gf 10 8 l0 p4.2).bind fun v5 =>
      (gk 8 v5 p4.2).bind fun _ => (M_Survey_begin v5 p4.2).bind fun p6 =>
      (gf 10 8 l0 p6.2).bind fun v7 =>
      (gk 8 v7 p6.2).bind fun _ => (M_Survey_addPictures v7 l1 p6.2).bind fun p8 =>
      (gf 10 8 l0 p8.2).bind fun v9 =>
      (gk 8 v9 p8.2).bind fun _ => (M_Survey_firstPlaceWith v9 l2 p8.2).bind fun p10 =>
      some (p10.1, p10.2)
set_option maxRecDepth 100000 in
theorem E_RW_where_0 (l0 l1 l2 : Int) (σ : mS) : mblk c_RW_where K_RW_where (C_RW_where) (F_RW_where_0) (fun v σ => some (v, σ)) 26 0 (mInit 3 [(3, l0), (1, l1), (1, l2)]) [] σ = M_RW_where l0 l1 l2 σ := rfl
def C_RW_sight : Nat → List mV → mS → Option (Int × mS) := fun k as σ => match k, as with
  | 45, [(3, a0), (1, a1)] => M_RW_refuse a0 a1 σ
  | 46, [(3, a0), (1, a1)] => M_RW_accept a0 a1 σ
  | 47, [(1, a0), (1, a1), (1, a2)] => M_RW_isWithin a0 a1 a2 σ
  | 51, [(1, a0)] => M_RW_isAngle a0 σ
  | 222, [(3, a0), (1, a1)] => M_Road_hasThing a0 a1 σ
  | _, _ => none
def K_RW_sight : Nat → Bool := fun i => false
def F_RW_sight_0 : Nat → List mV → List mV → mS → Option (Int × mS) := fun i L st σ => match i, L, st with
  | _, _, _ => none
def M_RW_sight (l0 l1 l2 l3 : Int) (σ : mS) : Option (Int × mS) :=
  (M_RW_isAngle l1 σ).bind fun p1 =>
  if p1.1 = 0 then 
    (gk 10 l0 p1.2).bind fun _ => (M_RW_refuse l0 (-1) p1.2).bind fun p2 =>
    some (p2.1, p2.2)
  else
    (M_RW_isWithin l3 (-1) 31 p1.2).bind fun p3 =>
    if p3.1 = 0 then 
      (gk 10 l0 p3.2).bind fun _ => (M_RW_refuse l0 (-1) p3.2).bind fun p4 =>
      some (p4.1, p4.2)
    else
      (gf 10 0 l0 p3.2).bind fun v5 =>
      (gk 7 v5 p3.2).bind fun _ => (M_Road_hasThing v5 l2 p3.2).bind fun p6 =>
      if p6.1 = 0 then 
        (gk 10 l0 p6.2).bind fun _ => (M_RW_refuse l0 (-2) p6.2).bind fun p7 =>
        some (p7.1, p7.2)
      else
        (gf 10 0 l0 p6.2).bind fun v8 =>
        (gf 7 13 v8 p6.2).bind fun v9 =>
        if v9 < 12 then 
          (gf 10 0 l0 p6.2).bind fun v10 =>
          (gf 7 10 v10 p6.2).bind fun v11 =>
          (sd 100 v11 v9 l1 p6.2).bind fun σ =>
          (gf 10 0 l0 σ).bind fun v12 =>
          (gf 7 11 v12 σ).bind fun v13 =>
          (sd 100 v13 v9 l2 σ).bind fun σ =>
          (gf 10 0 l0 σ).bind fun v14 =>
          (gf 7 12 v14 σ).bind fun v15 =>
          (sd 100 v15 v9 l3 σ).bind fun σ =>
          (gf 10 0 l0 σ).bind fun v16 =>
          (gf 7 13 v16 σ).bind fun v17 =>
          (pf 7 13 v16 (w32 (v17 + 1)) σ).bind fun σ =>
          (gf 10 0 l0 σ).bind fun v18 =>
          (gf 7 13 v18 σ).bind fun v19 =>
          (gk 10 l0 σ).bind fun _ => (M_RW_accept l0 v19 σ).bind fun p20 =>
          some (p20.1, p20.2)
        else
          (gk 10 l0 p6.2).bind fun _ => (M_RW_refuse l0 (-5) p6.2).bind fun p21 =>
          some (p21.1, p21.2)
set_option maxRecDepth 100000 in
theorem E_RW_sight_0 (l0 l1 l2 l3 : Int) (σ : mS) : mblk c_RW_sight K_RW_sight (C_RW_sight) (F_RW_sight_0) (fun v σ => some (v, σ)) 64 0 (mInit 5 [(3, l0), (1, l1), (1, l2), (1, l3)]) [] σ = M_RW_sight l0 l1 l2 l3 σ := rfl
def C_Road_removeSight : Nat → List mV → mS → Option (Int × mS) := fun k as σ => match k, as with
  | _, _ => none
def K_Road_removeSight : Nat → Bool := fun i => i.beq 2
def F_Road_removeSight_2 : Nat → List mV → List mV → mS → Option (((Int × mS) ⊕ (Int × mS))) := fun i L st σ => match i, L, st with
  | 2, [(3, l0), _, (1, l2)], [] => some (.inl (l2, σ))
  | _, _, _ => none
def B_Road_removeSight_2 (l0 l2 : Int) (σ : mS) : Option (((Int × mS) ⊕ (Int × mS))) :=
  (gf 7 13 l0 σ).bind fun v1 =>
  if (w32 (l2 + 1)) < v1 then 
    (gf 7 10 l0 σ).bind fun v2 =>
    (gf 7 10 l0 σ).bind fun v3 =>
    (ld 100 v3 (w32 (l2 + 1)) σ).bind fun v4 =>
    (sd 100 v2 l2 v4 σ).bind fun σ =>
    (gf 7 11 l0 σ).bind fun v5 =>
    (gf 7 11 l0 σ).bind fun v6 =>
    (ld 100 v6 (w32 (l2 + 1)) σ).bind fun v7 =>
    (sd 100 v5 l2 v7 σ).bind fun σ =>
    (gf 7 12 l0 σ).bind fun v8 =>
    (gf 7 12 l0 σ).bind fun v9 =>
    (ld 100 v9 (w32 (l2 + 1)) σ).bind fun v10 =>
    (sd 100 v8 l2 v10 σ).bind fun σ =>
    some (.inl (w32 (l2 + 1), σ))
  else
    (gf 7 13 l0 σ).bind fun v11 =>
    (pf 7 13 l0 (w32 (v11 - 1)) σ).bind fun σ =>
    some (.inr (0, σ))
set_option maxRecDepth 100000 in
theorem E_Road_removeSight_2 (l0 l2 : Int) (σ : mS) : mblk c_Road_removeSight K_Road_removeSight (C_Road_removeSight) (F_Road_removeSight_2) (fun v σ => some (.inr (v, σ))) 48 2 ([(3, l0), (0, 0), (1, l2)]) [] σ = B_Road_removeSight_2 l0 l2 σ := rfl
def M_Road_removeSight_2 (l0 l2 : Int) (σ : mS) : Option (Int × mS) := miter (fun s : Int × mS => B_Road_removeSight_2 l0 s.1 s.2) mN (l2, σ)
def F_Road_removeSight_0 : Nat → List mV → List mV → mS → Option (Int × mS) := fun i L st σ => match i, L, st with
  | 2, [(3, l0), _, (1, l2)], [] => M_Road_removeSight_2 l0 l2 σ
  | _, _, _ => none
def M_Road_removeSight (l0 l1 : Int) (σ : mS) : Option (Int × mS) :=
  M_Road_removeSight_2 l0 l1 σ
set_option maxRecDepth 100000 in
theorem E_Road_removeSight_0 (l0 l1 : Int) (σ : mS) : mblk c_Road_removeSight K_Road_removeSight (C_Road_removeSight) (F_Road_removeSight_0) (fun v σ => some (v, σ)) 48 0 (mInit 3 [(3, l0), (1, l1)]) [] σ = M_Road_removeSight l0 l1 σ := rfl
def C_RW_drop : Nat → List mV → mS → Option (Int × mS) := fun k as σ => match k, as with
  | 45, [(3, a0), (1, a1)] => M_RW_refuse a0 a1 σ
  | 46, [(3, a0), (1, a1)] => M_RW_accept a0 a1 σ
  | 47, [(1, a0), (1, a1), (1, a2)] => M_RW_isWithin a0 a1 a2 σ
  | 225, [(3, a0), (1, a1)] => M_Road_removeSight a0 a1 σ
  | _, _ => none
def K_RW_drop : Nat → Bool := fun i => false
def F_RW_drop_0 : Nat → List mV → List mV → mS → Option (Int × mS) := fun i L st σ => match i, L, st with
  | _, _, _ => none
def M_RW_drop (l0 l1 : Int) (σ : mS) : Option (Int × mS) :=
  (gf 10 0 l0 σ).bind fun v1 =>
  (gf 7 13 v1 σ).bind fun v2 =>
  (M_RW_isWithin l1 0 (w32 (v2 - 1)) σ).bind fun p3 =>
  if p3.1 = 0 then 
    (gk 10 l0 p3.2).bind fun _ => (M_RW_refuse l0 (-2) p3.2).bind fun p4 =>
    some (p4.1, p4.2)
  else
    (gf 10 0 l0 p3.2).bind fun v5 =>
    (gk 7 v5 p3.2).bind fun _ => (M_Road_removeSight v5 l1 p3.2).bind fun p6 =>
    (gf 10 0 l0 p6.2).bind fun v7 =>
    (gf 7 13 v7 p6.2).bind fun v8 =>
    (gk 10 l0 p6.2).bind fun _ => (M_RW_accept l0 v8 p6.2).bind fun p9 =>
    some (p9.1, p9.2)
set_option maxRecDepth 100000 in
theorem E_RW_drop_0 (l0 l1 : Int) (σ : mS) : mblk c_RW_drop K_RW_drop (C_RW_drop) (F_RW_drop_0) (fun v σ => some (v, σ)) 24 0 (mInit 2 [(3, l0), (1, l1)]) [] σ = M_RW_drop l0 l1 σ := rfl
def C_RW_sightsWrong : Nat → List mV → mS → Option (Int × mS) := fun k as σ => match k, as with
  | 188, [(3, a0)] => M_Light_standByTerms a0 σ
  | 189, [(3, a0), (1, a1)] => M_Light_turnTo a0 a1 σ
  | 190, [(3, a0), (1, a1)] => M_Light_send a0 a1 σ
  | _, _ => none
def K_RW_sightsWrong : Nat → Bool := fun i => i.beq 11 || i.beq 38
def F_RW_sightsWrong_38 : Nat → List mV → List mV → mS → Option (((Int × Int × mS) ⊕ (Int × mS))) := fun i L st σ => match i, L, st with
  | 11, [(3, l0), _, (1, l2), (1, l3), _], [] => some (.inl (l2, l3, σ))
  | _, _, _ => none
def M_RW_sightsWrong_38 (l0 l2 l3 s0 : Int) (σ : mS) : Option (((Int × Int × mS) ⊕ (Int × mS))) :=
  (gf 10 0 l0 σ).bind fun v1 =>
  (gf 7 12 v1 σ).bind fun v2 =>
  (ld 100 v2 l3 σ).bind fun v3 =>
  if s0 = v3 then 
    some (.inl (l2, w32 (l3 + 1), σ))
  else
    some (.inl (w32 (l2 + 1), w32 (l3 + 1), σ))
set_option maxRecDepth 100000 in
theorem E_RW_sightsWrong_38 (l0 l2 l3 s0 : Int) (σ : mS) : mblk c_RW_sightsWrong K_RW_sightsWrong (C_RW_sightsWrong) (F_RW_sightsWrong_38) (fun v σ => some (.inr (v, σ))) 52 38 ([(3, l0), (0, 0), (1, l2), (1, l3), (0, 0)]) [(1, s0)] σ = M_RW_sightsWrong_38 l0 l2 l3 s0 σ := rfl
def F_RW_sightsWrong_11 : Nat → List mV → List mV → mS → Option (((Int × Int × mS) ⊕ (Int × mS))) := fun i L st σ => match i, L, st with
  | 38, [(3, l0), _, (1, l2), (1, l3), _], [(1, s0)] => M_RW_sightsWrong_38 l0 l2 l3 s0 σ
  | _, _, _ => none
def B_RW_sightsWrong_11 (l0 l2 l3 : Int) (σ : mS) : Option (((Int × Int × mS) ⊕ (Int × mS))) :=
  (gf 10 0 l0 σ).bind fun v1 =>
  (gf 7 13 v1 σ).bind fun v2 =>
  if l3 < v2 then 
    (gf 10 6 l0 σ).bind fun v3 =>
    (gf 10 0 l0 σ).bind fun v4 =>
    (gf 7 10 v4 σ).bind fun v5 =>
    (ld 100 v5 l3 σ).bind fun v6 =>
    (gk 5 v3 σ).bind fun _ => (M_Light_send v3 v6 σ).bind fun p7 =>
    (gf 10 6 l0 p7.2).bind fun v8 =>
    (gf 5 15 v8 p7.2).bind fun v9 =>
    (gf 10 0 l0 p7.2).bind fun v10 =>
    (gf 7 11 v10 p7.2).bind fun v11 =>
    (ld 100 v11 l3 p7.2).bind fun v12 =>
    if v9 = v12 then 
      (gf 10 6 l0 p7.2).bind fun v13 =>
      (gf 5 16 v13 p7.2).bind fun v14 =>
      M_RW_sightsWrong_38 l0 l2 l3 v14 p7.2
    else
      M_RW_sightsWrong_38 l0 l2 l3 (-1) p7.2
  else
    some (.inr (l2, σ))
set_option maxRecDepth 100000 in
theorem E_RW_sightsWrong_11 (l0 l2 l3 : Int) (σ : mS) : mblk c_RW_sightsWrong K_RW_sightsWrong (C_RW_sightsWrong) (F_RW_sightsWrong_11) (fun v σ => some (.inr (v, σ))) 52 11 ([(3, l0), (0, 0), (1, l2), (1, l3), (0, 0)]) [] σ = B_RW_sightsWrong_11 l0 l2 l3 σ := rfl
def M_RW_sightsWrong_11 (l0 l2 l3 : Int) (σ : mS) : Option (Int × mS) := miter (fun s : Int × Int × mS => B_RW_sightsWrong_11 l0 s.1 s.2.1 s.2.2) mN (l2, l3, σ)
def F_RW_sightsWrong_0 : Nat → List mV → List mV → mS → Option (Int × mS) := fun i L st σ => match i, L, st with
  | 11, [(3, l0), _, (1, l2), (1, l3), _], [] => M_RW_sightsWrong_11 l0 l2 l3 σ
  | _, _, _ => none
def M_RW_sightsWrong (l0 l1 : Int) (σ : mS) : Option (Int × mS) :=
  (gf 10 6 l0 σ).bind fun v1 =>
  (gk 5 v1 σ).bind fun _ => (M_Light_standByTerms v1 σ).bind fun p2 =>
  (gf 10 6 l0 p2.2).bind fun v3 =>
  (gk 5 v3 p2.2).bind fun _ => (M_Light_turnTo v3 l1 p2.2).bind fun p4 =>
  M_RW_sightsWrong_11 l0 0 0 p4.2
set_option maxRecDepth 100000 in
theorem E_RW_sightsWrong_0 (l0 l1 : Int) (σ : mS) : mblk c_RW_sightsWrong K_RW_sightsWrong (C_RW_sightsWrong) (F_RW_sightsWrong_0) (fun v σ => some (v, σ)) 52 0 (mInit 5 [(3, l0), (1, l1)]) [] σ = M_RW_sightsWrong l0 l1 σ := rfl
def C_RW_wrong : Nat → List mV → mS → Option (Int × mS) := fun k as σ => match k, as with
  | 44, [(3, a0), (1, a1)] => M_RW_sightsWrong a0 a1 σ
  | 49, [(1, a0)] => M_RW_isHour a0 σ
  | _, _ => none
def K_RW_wrong : Nat → Bool := fun i => false
def F_RW_wrong_0 : Nat → List mV → List mV → mS → Option (Int × mS) := fun i L st σ => match i, L, st with
  | _, _, _ => none
def M_RW_wrong (l0 l1 : Int) (σ : mS) : Option (Int × mS) :=
  (M_RW_isHour l1 σ).bind fun p1 =>
  if p1.1 = 0 then 
    some ((-1), p1.2)
  else
    (gk 10 l0 p1.2).bind fun _ => (M_RW_sightsWrong l0 l1 p1.2).bind fun p2 =>
    some (p2.1, p2.2)
set_option maxRecDepth 100000 in
theorem E_RW_wrong_0 (l0 l1 : Int) (σ : mS) : mblk c_RW_wrong K_RW_wrong (C_RW_wrong) (F_RW_wrong_0) (fun v σ => some (v, σ)) 10 0 (mInit 2 [(3, l0), (1, l1)]) [] σ = M_RW_wrong l0 l1 σ := rfl
def C_RW_fits : Nat → List mV → mS → Option (Int × mS) := fun k as σ => match k, as with
  | 44, [(3, a0), (1, a1)] => M_RW_sightsWrong a0 a1 σ
  | _, _ => none
def K_RW_fits : Nat → Bool := fun i => i.beq 4
def F_RW_fits_4 : Nat → List mV → List mV → mS → Option (((Int × Int × mS) ⊕ (Int × mS))) := fun i L st σ => match i, L, st with
  | 4, [(3, l0), (1, l1), (1, l2)], [] => some (.inl (l1, l2, σ))
  | _, _, _ => none
def B_RW_fits_4 (l0 l1 l2 : Int) (σ : mS) : Option (((Int × Int × mS) ⊕ (Int × mS))) :=
  if l2 < 24 then 
    (gk 10 l0 σ).bind fun _ => (M_RW_sightsWrong l0 l2 σ).bind fun p1 =>
    if p1.1 = 0 then 
      some (.inl (ior l1 (ishl 1 l2), w32 (l2 + 1), p1.2))
    else
      some (.inl (l1, w32 (l2 + 1), p1.2))
  else
    some (.inr (l1, σ))
set_option maxRecDepth 100000 in
theorem E_RW_fits_4 (l0 l1 l2 : Int) (σ : mS) : mblk c_RW_fits K_RW_fits (C_RW_fits) (F_RW_fits_4) (fun v σ => some (.inr (v, σ))) 22 4 ([(3, l0), (1, l1), (1, l2)]) [] σ = B_RW_fits_4 l0 l1 l2 σ := rfl
def M_RW_fits_4 (l0 l1 l2 : Int) (σ : mS) : Option (Int × mS) := miter (fun s : Int × Int × mS => B_RW_fits_4 l0 s.1 s.2.1 s.2.2) mN (l1, l2, σ)
def F_RW_fits_0 : Nat → List mV → List mV → mS → Option (Int × mS) := fun i L st σ => match i, L, st with
  | 4, [(3, l0), (1, l1), (1, l2)], [] => M_RW_fits_4 l0 l1 l2 σ
  | _, _, _ => none
def M_RW_fits (l0 : Int) (σ : mS) : Option (Int × mS) :=
  M_RW_fits_4 l0 0 0 σ
set_option maxRecDepth 100000 in
theorem E_RW_fits_0 (l0 : Int) (σ : mS) : mblk c_RW_fits K_RW_fits (C_RW_fits) (F_RW_fits_0) (fun v σ => some (v, σ)) 22 0 (mInit 3 [(3, l0)]) [] σ = M_RW_fits l0 σ := rfl
def C_RW_likely : Nat → List mV → mS → Option (Int × mS) := fun k as σ => match k, as with
  | 44, [(3, a0), (1, a1)] => M_RW_sightsWrong a0 a1 σ
  | _, _ => none
def K_RW_likely : Nat → Bool := fun i => i.beq 8
def F_RW_likely_8 : Nat → List mV → List mV → mS → Option (((Int × Int × Int × mS) ⊕ (Int × mS))) := fun i L st σ => match i, L, st with
  | 8, [(3, l0), (1, l1), (1, l2), (1, l3), _], [] => some (.inl (l1, l2, l3, σ))
  | _, _, _ => none
def B_RW_likely_8 (l0 l1 l2 l3 : Int) (σ : mS) : Option (((Int × Int × Int × mS) ⊕ (Int × mS))) :=
  if l3 < 24 then 
    (gk 10 l0 σ).bind fun _ => (M_RW_sightsWrong l0 l3 σ).bind fun p1 =>
    if p1.1 < l2 then 
      some (.inl (l3, p1.1, w32 (l3 + 1), p1.2))
    else
      some (.inl (l1, l2, w32 (l3 + 1), p1.2))
  else
    some (.inr (l1, σ))
set_option maxRecDepth 100000 in
theorem E_RW_likely_8 (l0 l1 l2 l3 : Int) (σ : mS) : mblk c_RW_likely K_RW_likely (C_RW_likely) (F_RW_likely_8) (fun v σ => some (.inr (v, σ))) 27 8 ([(3, l0), (1, l1), (1, l2), (1, l3), (0, 0)]) [] σ = B_RW_likely_8 l0 l1 l2 l3 σ := rfl
def M_RW_likely_8 (l0 l1 l2 l3 : Int) (σ : mS) : Option (Int × mS) := miter (fun s : Int × Int × Int × mS => B_RW_likely_8 l0 s.1 s.2.1 s.2.2.1 s.2.2.2) mN (l1, l2, l3, σ)
def F_RW_likely_0 : Nat → List mV → List mV → mS → Option (Int × mS) := fun i L st σ => match i, L, st with
  | 8, [(3, l0), (1, l1), (1, l2), (1, l3), _], [] => M_RW_likely_8 l0 l1 l2 l3 σ
  | _, _, _ => none
def M_RW_likely (l0 : Int) (σ : mS) : Option (Int × mS) :=
  (gk 10 l0 σ).bind fun _ => (M_RW_sightsWrong l0 0 σ).bind fun p1 =>
  M_RW_likely_8 l0 0 p1.1 1 p1.2
set_option maxRecDepth 100000 in
theorem E_RW_likely_0 (l0 : Int) (σ : mS) : mblk c_RW_likely K_RW_likely (C_RW_likely) (F_RW_likely_0) (fun v σ => some (v, σ)) 27 0 (mInit 5 [(3, l0)]) [] σ = M_RW_likely l0 σ := rfl
def C_RW_tremble : Nat → List mV → mS → Option (Int × mS) := fun k as σ => match k, as with
  | 45, [(3, a0), (1, a1)] => M_RW_refuse a0 a1 σ
  | 46, [(3, a0), (1, a1)] => M_RW_accept a0 a1 σ
  | 47, [(1, a0), (1, a1), (1, a2)] => M_RW_isWithin a0 a1 a2 σ
  | 51, [(1, a0)] => M_RW_isAngle a0 σ
  | 188, [(3, a0)] => M_Light_standByTerms a0 σ
  | 190, [(3, a0), (1, a1)] => M_Light_send a0 a1 σ
  | _, _ => none
def K_RW_tremble : Nat → Bool := fun i => i.beq 49
def F_RW_tremble_49 : Nat → List mV → List mV → mS → Option (((Int × Int × mS) ⊕ (Int × mS))) := fun i L st σ => match i, L, st with
  | 49, [(3, l0), _, (1, l2), _, (1, l4), (1, l5), (1, l6), (1, l7), (1, l8)], [] => some (.inl (l7, l8, σ))
  | _, _, _ => none
def B_RW_tremble_49 (l0 l2 l4 l5 l6 l7 l8 : Int) (σ : mS) : Option (((Int × Int × mS) ⊕ (Int × mS))) :=
  if l8 < l4 then 
    (gf 10 6 l0 σ).bind fun v1 =>
    (gk 5 v1 σ).bind fun _ => (M_Light_send v1 l2 σ).bind fun p2 =>
    (gf 10 9 l0 p2.2).bind fun v3 =>
    (gf 10 6 l0 p2.2).bind fun v4 =>
    (gf 5 14 v4 p2.2).bind fun v5 =>
    (sd 100 v3 l8 v5 p2.2).bind fun σ =>
    (gf 10 10 l0 σ).bind fun v6 =>
    (gf 10 6 l0 σ).bind fun v7 =>
    (gf 5 11 v7 σ).bind fun v8 =>
    (sd 100 v6 l8 v8 σ).bind fun σ =>
    (gf 10 6 l0 σ).bind fun v9 =>
    (gf 5 14 v9 σ).bind fun v10 =>
    if v10 = l5 then 
      (gf 10 6 l0 σ).bind fun v11 =>
      (gf 5 15 v11 σ).bind fun v12 =>
      if v12 = l6 then 
        some (.inl (w32 (l7 + 1), w32 (l8 + 1), σ))
      else
        some (.inl (l7, w32 (l8 + 1), σ))
    else
      some (.inl (l7, w32 (l8 + 1), σ))
  else
    (pf 10 11 l0 l4 σ).bind fun σ =>
    (gk 10 l0 σ).bind fun _ => (M_RW_accept l0 l7 σ).bind fun p13 =>
    some (.inr (p13.1, p13.2))
set_option maxRecDepth 100000 in
theorem E_RW_tremble_49 (l0 l2 l4 l5 l6 l7 l8 : Int) (σ : mS) : mblk c_RW_tremble K_RW_tremble (C_RW_tremble) (F_RW_tremble_49) (fun v σ => some (.inr (v, σ))) 91 49 ([(3, l0), (0, 0), (1, l2), (0, 0), (1, l4), (1, l5), (1, l6), (1, l7), (1, l8)]) [] σ = B_RW_tremble_49 l0 l2 l4 l5 l6 l7 l8 σ := rfl
def M_RW_tremble_49 (l0 l2 l4 l5 l6 l7 l8 : Int) (σ : mS) : Option (Int × mS) := miter (fun s : Int × Int × mS => B_RW_tremble_49 l0 l2 l4 l5 l6 s.1 s.2.1 s.2.2) mN (l7, l8, σ)
def F_RW_tremble_0 : Nat → List mV → List mV → mS → Option (Int × mS) := fun i L st σ => match i, L, st with
  | 49, [(3, l0), _, (1, l2), _, (1, l4), (1, l5), (1, l6), (1, l7), (1, l8)], [] => M_RW_tremble_49 l0 l2 l4 l5 l6 l7 l8 σ
  | _, _, _ => none
def M_RW_tremble (l0 l1 l2 l3 l4 : Int) (σ : mS) : Option (Int × mS) :=
  (M_RW_isWithin l1 0 1000000 σ).bind fun p1 =>
  if p1.1 = 0 then 
    (gk 10 l0 p1.2).bind fun _ => (M_RW_refuse l0 (-1) p1.2).bind fun p2 =>
    some (p2.1, p2.2)
  else
    (M_RW_isAngle l2 p1.2).bind fun p3 =>
    if p3.1 = 0 then 
      (gk 10 l0 p3.2).bind fun _ => (M_RW_refuse l0 (-1) p3.2).bind fun p4 =>
      some (p4.1, p4.2)
    else
      (M_RW_isWithin l3 0 50 p3.2).bind fun p5 =>
      if p5.1 = 0 then 
        (gk 10 l0 p5.2).bind fun _ => (M_RW_refuse l0 (-1) p5.2).bind fun p6 =>
        some (p6.1, p6.2)
      else
        (M_RW_isWithin l4 1 40 p5.2).bind fun p7 =>
        if p7.1 = 0 then 
          (gk 10 l0 p7.2).bind fun _ => (M_RW_refuse l0 (-1) p7.2).bind fun p8 =>
          some (p8.1, p8.2)
        else
          (gf 10 6 l0 p7.2).bind fun v9 =>
          (gk 5 v9 p7.2).bind fun _ => (M_Light_standByTerms v9 p7.2).bind fun p10 =>
          (gf 10 6 l0 p10.2).bind fun v11 =>
          (gk 5 v11 p10.2).bind fun _ => (M_Light_send v11 l2 p10.2).bind fun p12 =>
          (gf 10 6 l0 p12.2).bind fun v13 =>
          (gf 5 14 v13 p12.2).bind fun v14 =>
          (gf 10 6 l0 p12.2).bind fun v15 =>
          (gf 5 15 v15 p12.2).bind fun v16 =>
          (gf 10 6 l0 p12.2).bind fun v17 =>
          (pf 5 9 v17 l1 p12.2).bind fun σ =>
          (gf 10 6 l0 σ).bind fun v18 =>
          (pf 5 8 v18 l3 σ).bind fun σ =>
          M_RW_tremble_49 l0 l2 l4 v14 v16 0 0 σ
set_option maxRecDepth 100000 in
theorem E_RW_tremble_0 (l0 l1 l2 l3 l4 : Int) (σ : mS) : mblk c_RW_tremble K_RW_tremble (C_RW_tremble) (F_RW_tremble_0) (fun v σ => some (v, σ)) 91 0 (mInit 9 [(3, l0), (1, l1), (1, l2), (1, l3), (1, l4)]) [] σ = M_RW_tremble l0 l1 l2 l3 l4 σ := rfl
def C_RW_trembled : Nat → List mV → mS → Option (Int × mS) := fun k as σ => match k, as with
  | 47, [(1, a0), (1, a1), (1, a2)] => M_RW_isWithin a0 a1 a2 σ
  | _, _ => none
def K_RW_trembled : Nat → Bool := fun i => false
def F_RW_trembled_0 : Nat → List mV → List mV → mS → Option (Int × mS) := fun i L st σ => match i, L, st with
  | _, _, _ => none
def M_RW_trembled (l0 l1 l2 : Int) (σ : mS) : Option (Int × mS) :=
  (gf 10 11 l0 σ).bind fun v1 =>
  (M_RW_isWithin l1 0 (w32 (v1 - 1)) σ).bind fun p2 =>
  if p2.1 = 0 then 
    some ((-1), p2.2)
  else
    if l2 = 0 then
      (gf 10 9 l0 p2.2).bind fun v3 =>
      (ld 100 v3 l1 p2.2).bind fun v4 =>
      some (v4, p2.2)
    else if l2 = 1 then
      (gf 10 10 l0 p2.2).bind fun v5 =>
      (ld 100 v5 l1 p2.2).bind fun v6 =>
      some (v6, p2.2)
    else 
      some ((-1), p2.2)
set_option maxRecDepth 100000 in
theorem E_RW_trembled_0 (l0 l1 l2 : Int) (σ : mS) : mblk c_RW_trembled K_RW_trembled (C_RW_trembled) (F_RW_trembled_0) (fun v σ => some (v, σ)) 25 0 (mInit 3 [(3, l0), (1, l1), (1, l2)]) [] σ = M_RW_trembled l0 l1 l2 σ := rfl
def C_Road_copyFrom : Nat → List mV → mS → Option (Int × mS) := fun k as σ => match k, as with
  | _, _ => none
def K_Road_copyFrom : Nat → Bool := fun i => i.beq 54
def F_Road_copyFrom_54 : Nat → List mV → List mV → mS → Option (((Int × mS) ⊕ (Int × mS))) := fun i L st σ => match i, L, st with
  | 54, [(3, l0), (3, l1), (1, l2)], [] => some (.inl (l2, σ))
  | _, _, _ => none
def B_Road_copyFrom_54 (l0 l1 l2 : Int) (σ : mS) : Option (((Int × mS) ⊕ (Int × mS))) :=
  if l2 < 6 then 
    (gf 7 7 l0 σ).bind fun v1 =>
    (gf 7 7 l1 σ).bind fun v2 =>
    (ld 204 v2 l2 σ).bind fun v3 =>
    (sr 4 v1 l2 v3 σ).bind fun σ =>
    some (.inl (w32 (l2 + 1), σ))
  else
    (gf 7 8 l1 σ).bind fun v4 =>
    (pf 7 8 l0 v4 σ).bind fun σ =>
    (gf 7 9 l1 σ).bind fun v5 =>
    (pf 7 9 l0 v5 σ).bind fun σ =>
    (gf 7 10 l1 σ).bind fun v6 =>
    (gf 7 10 l0 σ).bind fun v7 =>
    (cpy v6 0 v7 0 12 σ).bind fun σ =>
    (gf 7 11 l1 σ).bind fun v8 =>
    (gf 7 11 l0 σ).bind fun v9 =>
    (cpy v8 0 v9 0 12 σ).bind fun σ =>
    (gf 7 12 l1 σ).bind fun v10 =>
    (gf 7 12 l0 σ).bind fun v11 =>
    (cpy v10 0 v11 0 12 σ).bind fun σ =>
    (gf 7 13 l1 σ).bind fun v12 =>
    (pf 7 13 l0 v12 σ).bind fun σ =>
    some (.inr (0, σ))
set_option maxRecDepth 100000 in
theorem E_Road_copyFrom_54 (l0 l1 l2 : Int) (σ : mS) : mblk c_Road_copyFrom K_Road_copyFrom (C_Road_copyFrom) (F_Road_copyFrom_54) (fun v σ => some (.inr (v, σ))) 105 54 ([(3, l0), (3, l1), (1, l2)]) [] σ = B_Road_copyFrom_54 l0 l1 l2 σ := rfl
def M_Road_copyFrom_54 (l0 l1 l2 : Int) (σ : mS) : Option (Int × mS) := miter (fun s : Int × mS => B_Road_copyFrom_54 l0 l1 s.1 s.2) mN (l2, σ)
def F_Road_copyFrom_0 : Nat → List mV → List mV → mS → Option (Int × mS) := fun i L st σ => match i, L, st with
  | 54, [(3, l0), (3, l1), (1, l2)], [] => M_Road_copyFrom_54 l0 l1 l2 σ
  | _, _, _ => none
def M_Road_copyFrom (l0 l1 : Int) (σ : mS) : Option (Int × mS) :=
  (gf 7 0 l1 σ).bind fun v1 =>
  (gf 7 0 l0 σ).bind fun v2 =>
  (cpy v1 0 v2 0 64 σ).bind fun σ =>
  (gf 7 1 l1 σ).bind fun v3 =>
  (gf 7 1 l0 σ).bind fun v4 =>
  (cpy v3 0 v4 0 64 σ).bind fun σ =>
  (gf 7 2 l1 σ).bind fun v5 =>
  (gf 7 2 l0 σ).bind fun v6 =>
  (cpy v5 0 v6 0 64 σ).bind fun σ =>
  (gf 7 3 l1 σ).bind fun v7 =>
  (gf 7 3 l0 σ).bind fun v8 =>
  (cpy v7 0 v8 0 8 σ).bind fun σ =>
  (gf 7 4 l1 σ).bind fun v9 =>
  (gf 7 4 l0 σ).bind fun v10 =>
  (cpy v9 0 v10 0 8 σ).bind fun σ =>
  (gf 7 5 l1 σ).bind fun v11 =>
  (pf 7 5 l0 v11 σ).bind fun σ =>
  (gf 7 6 l1 σ).bind fun v12 =>
  (gf 7 6 l0 σ).bind fun v13 =>
  (cpy v12 0 v13 0 4 σ).bind fun σ =>
  M_Road_copyFrom_54 l0 l1 0 σ
set_option maxRecDepth 100000 in
theorem E_Road_copyFrom_0 (l0 l1 : Int) (σ : mS) : mblk c_Road_copyFrom K_Road_copyFrom (C_Road_copyFrom) (F_Road_copyFrom_0) (fun v σ => some (v, σ)) 105 0 (mInit 3 [(3, l0), (3, l1)]) [] σ = M_Road_copyFrom l0 l1 σ := rfl
def C_RW_image : Nat → List mV → mS → Option (Int × mS) := fun k as σ => match k, as with
  | 45, [(3, a0), (1, a1)] => M_RW_refuse a0 a1 σ
  | 46, [(3, a0), (1, a1)] => M_RW_accept a0 a1 σ
  | 47, [(1, a0), (1, a1), (1, a2)] => M_RW_isWithin a0 a1 a2 σ
  | 221, [(3, a0), (3, a1)] => M_Road_copyFrom a0 a1 σ
  | _, _ => none
def K_RW_image : Nat → Bool := fun i => false
def F_RW_image_0 : Nat → List mV → List mV → mS → Option (Int × mS) := fun i L st σ => match i, L, st with
  | _, _, _ => none
def M_RW_image (l0 l1 : Int) (σ : mS) : Option (Int × mS) :=
  (M_RW_isWithin l1 0 1 σ).bind fun p1 =>
  if p1.1 = 0 then 
    (gk 10 l0 p1.2).bind fun _ => (M_RW_refuse l0 (-1) p1.2).bind fun p2 =>
    some (p2.1, p2.2)
  else
    (gf 10 1 l0 p1.2).bind fun v3 =>
    (ld 207 v3 l1 p1.2).bind fun v4 =>
    (gf 10 0 l0 p1.2).bind fun v5 =>
    (gk 7 v4 p1.2).bind fun _ => (M_Road_copyFrom v4 v5 p1.2).bind fun p6 =>
    (gf 10 2 l0 p6.2).bind fun v7 =>
    (sd 102 v7 l1 1 p6.2).bind fun σ =>
    (gk 10 l0 σ).bind fun _ => (M_RW_accept l0 0 σ).bind fun p8 =>
    some (p8.1, p8.2)
set_option maxRecDepth 100000 in
theorem E_RW_image_0 (l0 l1 : Int) (σ : mS) : mblk c_RW_image K_RW_image (C_RW_image) (F_RW_image_0) (fun v σ => some (v, σ)) 26 0 (mInit 2 [(3, l0), (1, l1)]) [] σ = M_RW_image l0 l1 σ := rfl
def C_RW_back : Nat → List mV → mS → Option (Int × mS) := fun k as σ => match k, as with
  | 45, [(3, a0), (1, a1)] => M_RW_refuse a0 a1 σ
  | 46, [(3, a0), (1, a1)] => M_RW_accept a0 a1 σ
  | 47, [(1, a0), (1, a1), (1, a2)] => M_RW_isWithin a0 a1 a2 σ
  | 157, [(3, a0)] => M_Air_forgetAll a0 σ
  | 221, [(3, a0), (3, a1)] => M_Road_copyFrom a0 a1 σ
  | _, _ => none
def K_RW_back : Nat → Bool := fun i => false
def F_RW_back_0 : Nat → List mV → List mV → mS → Option (Int × mS) := fun i L st σ => match i, L, st with
  | _, _, _ => none
def M_RW_back (l0 l1 : Int) (σ : mS) : Option (Int × mS) :=
  (M_RW_isWithin l1 0 1 σ).bind fun p1 =>
  if p1.1 = 0 then 
    (gk 10 l0 p1.2).bind fun _ => (M_RW_refuse l0 (-1) p1.2).bind fun p2 =>
    some (p2.1, p2.2)
  else
    (gf 10 2 l0 p1.2).bind fun v3 =>
    (ld 102 v3 l1 p1.2).bind fun v4 =>
    if v4 = 0 then 
      (gk 10 l0 p1.2).bind fun _ => (M_RW_refuse l0 (-2) p1.2).bind fun p5 =>
      some (p5.1, p5.2)
    else
      (gf 10 0 l0 p1.2).bind fun v6 =>
      (gf 10 1 l0 p1.2).bind fun v7 =>
      (ld 207 v7 l1 p1.2).bind fun v8 =>
      (gk 7 v6 p1.2).bind fun _ => (M_Road_copyFrom v6 v8 p1.2).bind fun p9 =>
      (gf 10 5 l0 p9.2).bind fun v10 =>
      (gk 1 v10 p9.2).bind fun _ => (M_Air_forgetAll v10 p9.2).bind fun p11 =>
      (gk 10 l0 p11.2).bind fun _ => (M_RW_accept l0 0 p11.2).bind fun p12 =>
      some (p12.1, p12.2)
set_option maxRecDepth 100000 in
theorem E_RW_back_0 (l0 l1 : Int) (σ : mS) : mblk c_RW_back K_RW_back (C_RW_back) (F_RW_back_0) (fun v σ => some (v, σ)) 33 0 (mInit 2 [(3, l0), (1, l1)]) [] σ = M_RW_back l0 l1 σ := rfl
def C_Road_placesWithRise : Nat → List mV → mS → Option (Int × mS) := fun k as σ => match k, as with
  | _, _ => none
def K_Road_placesWithRise : Nat → Bool := fun i => i.beq 4
def F_Road_placesWithRise_4 : Nat → List mV → List mV → mS → Option (((Int × Int × mS) ⊕ (Int × mS))) := fun i L st σ => match i, L, st with
  | 4, [(3, l0), (1, l1), (1, l2)], [] => some (.inl (l1, l2, σ))
  | _, _, _ => none
def B_Road_placesWithRise_4 (l0 l1 l2 : Int) (σ : mS) : Option (((Int × Int × mS) ⊕ (Int × mS))) :=
  if l2 < 64 then 
    (gf 7 0 l0 σ).bind fun v1 =>
    (ld 100 v1 l2 σ).bind fun v2 =>
    if 0 < v2 then 
      some (.inl (w32 (l1 + 1), w32 (l2 + 1), σ))
    else
      some (.inl (l1, w32 (l2 + 1), σ))
  else
    some (.inr (l1, σ))
set_option maxRecDepth 100000 in
theorem E_Road_placesWithRise_4 (l0 l1 l2 : Int) (σ : mS) : mblk c_Road_placesWithRise K_Road_placesWithRise (C_Road_placesWithRise) (F_Road_placesWithRise_4) (fun v σ => some (.inr (v, σ))) 18 4 ([(3, l0), (1, l1), (1, l2)]) [] σ = B_Road_placesWithRise_4 l0 l1 l2 σ := rfl
def M_Road_placesWithRise_4 (l0 l1 l2 : Int) (σ : mS) : Option (Int × mS) := miter (fun s : Int × Int × mS => B_Road_placesWithRise_4 l0 s.1 s.2.1 s.2.2) mN (l1, l2, σ)
def F_Road_placesWithRise_0 : Nat → List mV → List mV → mS → Option (Int × mS) := fun i L st σ => match i, L, st with
  | 4, [(3, l0), (1, l1), (1, l2)], [] => M_Road_placesWithRise_4 l0 l1 l2 σ
  | _, _, _ => none
def M_Road_placesWithRise (l0 : Int) (σ : mS) : Option (Int × mS) :=
  M_Road_placesWithRise_4 l0 0 0 σ
set_option maxRecDepth 100000 in
theorem E_Road_placesWithRise_0 (l0 : Int) (σ : mS) : mblk c_Road_placesWithRise K_Road_placesWithRise (C_Road_placesWithRise) (F_Road_placesWithRise_0) (fun v σ => some (v, σ)) 18 0 (mInit 3 [(3, l0)]) [] σ = M_Road_placesWithRise l0 σ := rfl
def C_RW_count : Nat → List mV → mS → Option (Int × mS) := fun k as σ => match k, as with
  | 224, [(3, a0)] => M_Road_placesWithRise a0 σ
  | _, _ => none
def K_RW_count : Nat → Bool := fun i => false
def F_RW_count_0 : Nat → List mV → List mV → mS → Option (Int × mS) := fun i L st σ => match i, L, st with
  | _, _, _ => none
def M_RW_count (l0 l1 : Int) (σ : mS) : Option (Int × mS) :=
  if l1 = 0 then
    (gf 10 0 l0 σ).bind fun v1 =>
    (gf 7 5 v1 σ).bind fun v2 =>
    some (v2, σ)
  else if l1 = 1 then
    (gf 10 0 l0 σ).bind fun v3 =>
    (gf 7 8 v3 σ).bind fun v4 =>
    some (v4, σ)
  else if l1 = 2 then
    (gf 10 0 l0 σ).bind fun v5 =>
    (gf 7 13 v5 σ).bind fun v6 =>
    some (v6, σ)
  else if l1 = 3 then
    (gf 10 0 l0 σ).bind fun v7 =>
    (gk 7 v7 σ).bind fun _ => (M_Road_placesWithRise v7 σ).bind fun p8 =>
    some (p8.1, p8.2)
  else if l1 = 4 then
    (gf 10 3 l0 σ).bind fun v9 =>
    (gf 9 1 v9 σ).bind fun v10 =>
    some (v10, σ)
  else if l1 = 5 then
    (gf 10 15 l0 σ).bind fun v11 =>
    (ld 100 v11 1 σ).bind fun v12 =>
    some (v12, σ)
  else if l1 = 6 then
    (gf 10 15 l0 σ).bind fun v13 =>
    (ld 100 v13 2 σ).bind fun v14 =>
    some (v14, σ)
  else if l1 = 7 then
    (gf 10 15 l0 σ).bind fun v15 =>
    (ld 100 v15 3 σ).bind fun v16 =>
    some (v16, σ)
  else if l1 = 8 then
    (gf 10 15 l0 σ).bind fun v17 =>
    (ld 100 v17 5 σ).bind fun v18 =>
    some (v18, σ)
  else if l1 = 9 then
    (gf 10 15 l0 σ).bind fun v19 =>
    (ld 100 v19 6 σ).bind fun v20 =>
    some (v20, σ)
  else if l1 = 10 then
    (gf 10 0 l0 σ).bind fun v21 =>
    (gf 7 9 v21 σ).bind fun v22 =>
    some (v22, σ)
  else if l1 = 11 then
    (gf 10 0 l0 σ).bind fun v23 =>
    (gf 7 6 v23 σ).bind fun v24 =>
    (ld 100 v24 0 σ).bind fun v25 =>
    some (v25, σ)
  else if l1 = 12 then
    (gf 10 0 l0 σ).bind fun v26 =>
    (gf 7 6 v26 σ).bind fun v27 =>
    (ld 100 v27 1 σ).bind fun v28 =>
    some (v28, σ)
  else if l1 = 13 then
    (gf 10 0 l0 σ).bind fun v29 =>
    (gf 7 6 v29 σ).bind fun v30 =>
    (ld 100 v30 2 σ).bind fun v31 =>
    some (v31, σ)
  else if l1 = 14 then
    (gf 10 0 l0 σ).bind fun v32 =>
    (gf 7 6 v32 σ).bind fun v33 =>
    (ld 100 v33 3 σ).bind fun v34 =>
    some (v34, σ)
  else 
    some ((-1), σ)
set_option maxRecDepth 100000 in
theorem E_RW_count_0 (l0 l1 : Int) (σ : mS) : mblk c_RW_count K_RW_count (C_RW_count) (F_RW_count_0) (fun v σ => some (v, σ)) 78 0 (mInit 2 [(3, l0), (1, l1)]) [] σ = M_RW_count l0 l1 σ := rfl
def C_RW_status : Nat → List mV → mS → Option (Int × mS) := fun k as σ => match k, as with
  | _, _ => none
def K_RW_status : Nat → Bool := fun i => false
def F_RW_status_0 : Nat → List mV → List mV → mS → Option (Int × mS) := fun i L st σ => match i, L, st with
  | _, _, _ => none
def M_RW_status (l0 : Int) (σ : mS) : Option (Int × mS) :=
  (gf 10 14 l0 σ).bind fun v1 =>
  some (v1, σ)
set_option maxRecDepth 100000 in
theorem E_RW_status_0 (l0 : Int) (σ : mS) : mblk c_RW_status K_RW_status (C_RW_status) (F_RW_status_0) (fun v σ => some (v, σ)) 4 0 (mInit 1 [(3, l0)]) [] σ = M_RW_status l0 σ := rfl
def C_Mo_lies : Nat → List mV → mS → Option (Int × mS) := fun k as σ => match k, as with
  | _, _ => none
def K_Mo_lies : Nat → Bool := fun i => false
def F_Mo_lies_0 : Nat → List mV → List mV → mS → Option (Int × mS) := fun i L st σ => match i, L, st with
  | _, _, _ => none
def M_Mo_lies (l0 l1 l2 : Int) (σ : mS) : Option (Int × mS) :=
  if l0 < l1 then 
    if 0 = 0 ∨ 0 = 1 then some (0, σ) else none
  else
    if l2 < l0 then 
      if 0 = 0 ∨ 0 = 1 then some (0, σ) else none
    else
      if 1 = 0 ∨ 1 = 1 then some (1, σ) else none
set_option maxRecDepth 100000 in
theorem E_Mo_lies_0 (l0 l1 l2 : Int) (σ : mS) : mblk c_Mo_lies K_Mo_lies (C_Mo_lies) (F_Mo_lies_0) (fun v σ => some (v, σ)) 11 0 (mInit 3 [(1, l0), (1, l1), (1, l2)]) [] σ = M_Mo_lies l0 l1 l2 σ := rfl
def C_Mo_refuses : Nat → List mV → mS → Option (Int × mS) := fun k as σ => match k, as with
  | _, _ => none
def K_Mo_refuses : Nat → Bool := fun i => false
def F_Mo_refuses_0 : Nat → List mV → List mV → mS → Option (Int × mS) := fun i L st σ => match i, L, st with
  | _, _, _ => none
def M_Mo_refuses (l0 l1 : Int) (σ : mS) : Option (Int × mS) :=
  (pf 11 0 l0 l1 σ).bind fun σ =>
  (gf 11 2 l0 σ).bind fun v1 =>
  (ld 100 v1 (w32 (-l1)) σ).bind fun v2 =>
  (sd 100 v1 (w32 (-l1)) (w32 (v2 + 1)) σ).bind fun σ =>
  some (l1, σ)
set_option maxRecDepth 100000 in
theorem E_Mo_refuses_0 (l0 l1 : Int) (σ : mS) : mblk c_Mo_refuses K_Mo_refuses (C_Mo_refuses) (F_Mo_refuses_0) (fun v σ => some (v, σ)) 15 0 (mInit 2 [(3, l0), (1, l1)]) [] σ = M_Mo_refuses l0 l1 σ := rfl
def C_Mo_good : Nat → List mV → mS → Option (Int × mS) := fun k as σ => match k, as with
  | _, _ => none
def K_Mo_good : Nat → Bool := fun i => false
def F_Mo_good_0 : Nat → List mV → List mV → mS → Option (Int × mS) := fun i L st σ => match i, L, st with
  | _, _, _ => none
def M_Mo_good (l0 l1 : Int) (σ : mS) : Option (Int × mS) :=
  (pf 11 0 l0 0 σ).bind fun σ =>
  (gf 11 1 l0 σ).bind fun v1 =>
  (pf 11 1 l0 (w32 (v1 + 1)) σ).bind fun σ =>
  some (l1, σ)
set_option maxRecDepth 100000 in
theorem E_Mo_good_0 (l0 l1 : Int) (σ : mS) : mblk c_Mo_good K_Mo_good (C_Mo_good) (F_Mo_good_0) (fun v σ => some (v, σ)) 12 0 (mInit 2 [(3, l0), (1, l1)]) [] σ = M_Mo_good l0 l1 σ := rfl
def C_Mo_nearest : Nat → List mV → mS → Option (Int × mS) := fun k as σ => match k, as with
  | _, _ => none
def K_Mo_nearest : Nat → Bool := fun i => false
def F_Mo_nearest_0 : Nat → List mV → List mV → mS → Option (Int × mS) := fun i L st σ => match i, L, st with
  | _, _, _ => none
def M_Mo_nearest (l0 l1 l2 : Int) (σ : mS) : Option (Int × mS) :=
  if l0 < l1 then 
    some (l1, σ)
  else
    if l2 < l0 then 
      some (l2, σ)
    else
      some (l0, σ)
set_option maxRecDepth 100000 in
theorem E_Mo_nearest_0 (l0 l1 l2 : Int) (σ : mS) : mblk c_Mo_nearest K_Mo_nearest (C_Mo_nearest) (F_Mo_nearest_0) (fun v σ => some (v, σ)) 13 0 (mInit 3 [(1, l0), (1, l1), (1, l2)]) [] σ = M_Mo_nearest l0 l1 l2 σ := rfl
def C_Mo_far : Nat → List mV → mS → Option (Int × mS) := fun k as σ => match k, as with
  | _, _ => none
def K_Mo_far : Nat → Bool := fun i => false
def F_Mo_far_0 : Nat → List mV → List mV → mS → Option (Int × mS) := fun i L st σ => match i, L, st with
  | _, _, _ => none
def M_Mo_far (l0 : Int) (σ : mS) : Option (Int × mS) :=
  if l0 < 0 then 
    some (w32 (-l0), σ)
  else
    some (l0, σ)
set_option maxRecDepth 100000 in
theorem E_Mo_far_0 (l0 : Int) (σ : mS) : mblk c_Mo_far K_Mo_far (C_Mo_far) (F_Mo_far_0) (fun v σ => some (v, σ)) 8 0 (mInit 1 [(1, l0)]) [] σ = M_Mo_far l0 σ := rfl
def C_Mo_init : Nat → List mV → mS → Option (Int × mS) := fun k as σ => match k, as with
  | _, _ => none
def K_Mo_init : Nat → Bool := fun i => false
def F_Mo_init_0 : Nat → List mV → List mV → mS → Option (Int × mS) := fun i L st σ => match i, L, st with
  | _, _, _ => none
def M_Mo_init (l0 : Int) (σ : mS) : Option (Int × mS) :=
  (gk 11 l0 σ).bind fun _ =>
  (na 100 7 σ).bind fun σ =>
  mlet σ.2.2.1 fun v1 =>
  (pf 11 2 l0 v1 σ).bind fun σ =>
  (na 100 4994 σ).bind fun σ =>
  mlet σ.2.2.1 fun v2 =>
  (pf 11 3 l0 v2 σ).bind fun σ =>
  (na 100 9988 σ).bind fun σ =>
  mlet σ.2.2.1 fun v3 =>
  (pf 11 4 l0 v3 σ).bind fun σ =>
  (na 102 2 σ).bind fun σ =>
  mlet σ.2.2.1 fun v4 =>
  (pf 11 5 l0 v4 σ).bind fun σ =>
  (na 101 53 σ).bind fun σ =>
  mlet σ.2.2.1 fun v5 =>
  (sd 101 v5 0 119 σ).bind fun σ =>
  (sd 101 v5 1 97 σ).bind fun σ =>
  (sd 101 v5 2 114 σ).bind fun σ =>
  (sd 101 v5 3 109 σ).bind fun σ =>
  (sd 101 v5 4 32 σ).bind fun σ =>
  (sd 101 v5 5 105 σ).bind fun σ =>
  (sd 101 v5 6 102 σ).bind fun σ =>
  (sd 101 v5 7 32 σ).bind fun σ =>
  (sd 101 v5 8 111 σ).bind fun σ =>
  (sd 101 v5 9 114 σ).bind fun σ =>
  (sd 101 v5 10 32 σ).bind fun σ =>
  (sd 101 v5 11 97 σ).bind fun σ =>
  (sd 101 v5 12 110 σ).bind fun σ =>
  (sd 101 v5 13 100 σ).bind fun σ =>
  (sd 101 v5 14 32 σ).bind fun σ =>
  (sd 101 v5 15 110 σ).bind fun σ =>
  (sd 101 v5 16 111 σ).bind fun σ =>
  (sd 101 v5 17 116 σ).bind fun σ =>
  (sd 101 v5 18 32 σ).bind fun σ =>
  (sd 101 v5 19 105 σ).bind fun σ =>
  (sd 101 v5 20 110 σ).bind fun σ =>
  (sd 101 v5 21 99 σ).bind fun σ =>
  (sd 101 v5 22 104 σ).bind fun σ =>
  (sd 101 v5 23 32 σ).bind fun σ =>
  (sd 101 v5 24 97 σ).bind fun σ =>
  (sd 101 v5 25 98 σ).bind fun σ =>
  (sd 101 v5 26 111 σ).bind fun σ =>
  (sd 101 v5 27 118 σ).bind fun σ =>
  (sd 101 v5 28 101 σ).bind fun σ =>
  (sd 101 v5 29 32 σ).bind fun σ =>
  (sd 101 v5 30 112 σ).bind fun σ =>
  (sd 101 v5 31 108 σ).bind fun σ =>
  (sd 101 v5 32 97 σ).bind fun σ =>
  (sd 101 v5 33 99 σ).bind fun σ =>
  (sd 101 v5 34 101 σ).bind fun σ =>
  (sd 101 v5 35 32 σ).bind fun σ =>
  (sd 101 v5 36 103 σ).bind fun σ =>
  (sd 101 v5 37 114 σ).bind fun σ =>
  (sd 101 v5 38 111 σ).bind fun σ =>
  (sd 101 v5 39 117 σ).bind fun σ =>
  (sd 101 v5 40 110 σ).bind fun σ =>
  (sd 101 v5 41 100 σ).bind fun σ =>
  (sd 101 v5 42 32 σ).bind fun σ =>
  (sd 101 v5 43 114 σ).bind fun σ =>
  (sd 101 v5 44 105 σ).bind fun σ =>
  (sd 101 v5 45 115 σ).bind fun σ =>
  (sd 101 v5 46 101 σ).bind fun σ =>
  (sd 101 v5 47 32 σ).bind fun σ =>
  (sd 101 v5 48 104 σ).bind fun σ =>
  (sd 101 v5 49 111 σ).bind fun σ =>
  (sd 101 v5 50 117 σ).bind fun σ =>
  (sd 101 v5 51 114 σ).bind fun σ =>
  (sd 101 v5 52 32 σ).bind fun σ =>
  (pf 11 7 l0 v5 σ).bind fun σ =>
  (na 101 400 σ).bind fun σ =>
  mlet σ.2.2.1 fun v6 =>
  (pf 11 8 l0 v6 σ).bind fun σ =>
  (na 100 5 σ).bind fun σ =>
  mlet σ.2.2.1 fun v7 =>
  (pf 11 9 l0 v7 σ).bind fun σ =>
  (pf 11 11 l0 (-1) σ).bind fun σ =>
  (na 100 401 σ).bind fun σ =>
  mlet σ.2.2.1 fun v8 =>
  (pf 11 12 l0 v8 σ).bind fun σ =>
  (na 100 401 σ).bind fun σ =>
  mlet σ.2.2.1 fun v9 =>
  (pf 11 13 l0 v9 σ).bind fun σ =>
  (na 100 401 σ).bind fun σ =>
  mlet σ.2.2.1 fun v10 =>
  (pf 11 14 l0 v10 σ).bind fun σ =>
  (na 100 6 σ).bind fun σ =>
  mlet σ.2.2.1 fun v11 =>
  (pf 11 22 l0 v11 σ).bind fun σ =>
  (na 100 49152 σ).bind fun σ =>
  mlet σ.2.2.1 fun v12 =>
  (pf 11 23 l0 v12 σ).bind fun σ =>
  (na 100 24 σ).bind fun σ =>
  mlet σ.2.2.1 fun v13 =>
  (pf 11 24 l0 v13 σ).bind fun σ =>
  (na 100 64 σ).bind fun σ =>
  mlet σ.2.2.1 fun v14 =>
  (pf 11 26 l0 v14 σ).bind fun σ =>
  (na 100 201 σ).bind fun σ =>
  mlet σ.2.2.1 fun v15 =>
  (pf 11 35 l0 v15 σ).bind fun σ =>
  (na 100 201 σ).bind fun σ =>
  mlet σ.2.2.1 fun v16 =>
  (pf 11 36 l0 v16 σ).bind fun σ =>
  (na 100 64 σ).bind fun σ =>
  mlet σ.2.2.1 fun v17 =>
  (pf 11 37 l0 v17 σ).bind fun σ =>
  (na 100 64 σ).bind fun σ =>
  mlet σ.2.2.1 fun v18 =>
  (pf 11 38 l0 v18 σ).bind fun σ =>
  (na 100 64 σ).bind fun σ =>
  mlet σ.2.2.1 fun v19 =>
  (pf 11 39 l0 v19 σ).bind fun σ =>
  (na 102 64 σ).bind fun σ =>
  mlet σ.2.2.1 fun v20 =>
  (pf 11 40 l0 v20 σ).bind fun σ =>
  (na 100 40 σ).bind fun σ =>
  mlet σ.2.2.1 fun v21 =>
  (pf 11 41 l0 v21 σ).bind fun σ =>
  (na 100 40 σ).bind fun σ =>
  mlet σ.2.2.1 fun v22 =>
  (pf 11 42 l0 v22 σ).bind fun σ =>
  (gf 11 3 l0 σ).bind fun v23 =>
  (sd 100 v23 180 12 σ).bind fun σ =>
  (gf 11 3 l0 σ).bind fun v24 =>
  (sd 100 v24 181 1 σ).bind fun σ =>
  (gf 11 3 l0 σ).bind fun v25 =>
  (sd 100 v25 183 16 σ).bind fun σ =>
  (gf 11 3 l0 σ).bind fun v26 =>
  (sd 100 v26 187 (-1) σ).bind fun σ =>
  some (0, σ)
set_option maxRecDepth 100000 in
theorem E_Mo_init_0 (l0 : Int) (σ : mS) : mblk c_Mo_init K_Mo_init (C_Mo_init) (F_Mo_init_0) (fun v σ => some (v, σ)) 327 0 (mInit 1 [(3, l0)]) [] σ = M_Mo_init l0 σ := rfl
def C_Mo_image : Nat → List mV → mS → Option (Int × mS) := fun k as σ => match k, as with
  | 52, [(1, a0), (1, a1), (1, a2)] => M_Mo_lies a0 a1 a2 σ
  | 53, [(3, a0), (1, a1)] => M_Mo_refuses a0 a1 σ
  | 54, [(3, a0), (1, a1)] => M_Mo_good a0 a1 σ
  | _, _ => none
def K_Mo_image : Nat → Bool := fun i => i.beq 11
def F_Mo_image_11 : Nat → List mV → List mV → mS → Option (((Int × mS) ⊕ (Int × mS))) := fun i L st σ => match i, L, st with
  | 11, [(3, l0), (1, l1), (1, l2)], [] => some (.inl (l2, σ))
  | _, _, _ => none
def B_Mo_image_11 (l0 l1 l2 : Int) (σ : mS) : Option (((Int × mS) ⊕ (Int × mS))) :=
  if l2 < 4994 then 
    (gf 11 4 l0 σ).bind fun v1 =>
    (gf 11 3 l0 σ).bind fun v2 =>
    (ld 100 v2 l2 σ).bind fun v3 =>
    (sd 100 v1 (w32 ((w32 (4994 * l1)) + l2)) v3 σ).bind fun σ =>
    some (.inl (w32 (l2 + 1), σ))
  else
    (gf 11 5 l0 σ).bind fun v4 =>
    (sd 102 v4 l1 1 σ).bind fun σ =>
    (gk 11 l0 σ).bind fun _ => (M_Mo_good l0 0 σ).bind fun p5 =>
    some (.inr (p5.1, p5.2))
set_option maxRecDepth 100000 in
theorem E_Mo_image_11 (l0 l1 l2 : Int) (σ : mS) : mblk c_Mo_image K_Mo_image (C_Mo_image) (F_Mo_image_11) (fun v σ => some (.inr (v, σ))) 38 11 ([(3, l0), (1, l1), (1, l2)]) [] σ = B_Mo_image_11 l0 l1 l2 σ := rfl
def M_Mo_image_11 (l0 l1 l2 : Int) (σ : mS) : Option (Int × mS) := miter (fun s : Int × mS => B_Mo_image_11 l0 l1 s.1 s.2) mN (l2, σ)
def F_Mo_image_0 : Nat → List mV → List mV → mS → Option (Int × mS) := fun i L st σ => match i, L, st with
  | 11, [(3, l0), (1, l1), (1, l2)], [] => M_Mo_image_11 l0 l1 l2 σ
  | _, _, _ => none
def M_Mo_image (l0 l1 : Int) (σ : mS) : Option (Int × mS) :=
  (M_Mo_lies l1 0 1 σ).bind fun p1 =>
  if p1.1 = 0 then 
    (gk 11 l0 p1.2).bind fun _ => (M_Mo_refuses l0 (-1) p1.2).bind fun p2 =>
    some (p2.1, p2.2)
  else
    M_Mo_image_11 l0 l1 0 p1.2
set_option maxRecDepth 100000 in
theorem E_Mo_image_0 (l0 l1 : Int) (σ : mS) : mblk c_Mo_image K_Mo_image (C_Mo_image) (F_Mo_image_0) (fun v σ => some (v, σ)) 38 0 (mInit 3 [(3, l0), (1, l1)]) [] σ = M_Mo_image l0 l1 σ := rfl
def C_Mo_back : Nat → List mV → mS → Option (Int × mS) := fun k as σ => match k, as with
  | 52, [(1, a0), (1, a1), (1, a2)] => M_Mo_lies a0 a1 a2 σ
  | 53, [(3, a0), (1, a1)] => M_Mo_refuses a0 a1 σ
  | 54, [(3, a0), (1, a1)] => M_Mo_good a0 a1 σ
  | _, _ => none
def K_Mo_back : Nat → Bool := fun i => i.beq 20
def F_Mo_back_20 : Nat → List mV → List mV → mS → Option (((Int × mS) ⊕ (Int × mS))) := fun i L st σ => match i, L, st with
  | 20, [(3, l0), (1, l1), (1, l2)], [] => some (.inl (l2, σ))
  | _, _, _ => none
def B_Mo_back_20 (l0 l1 l2 : Int) (σ : mS) : Option (((Int × mS) ⊕ (Int × mS))) :=
  if l2 < 4994 then 
    (gf 11 3 l0 σ).bind fun v1 =>
    (gf 11 4 l0 σ).bind fun v2 =>
    (ld 100 v2 (w32 ((w32 (4994 * l1)) + l2)) σ).bind fun v3 =>
    (sd 100 v1 l2 v3 σ).bind fun σ =>
    some (.inl (w32 (l2 + 1), σ))
  else
    (gk 11 l0 σ).bind fun _ => (M_Mo_good l0 0 σ).bind fun p4 =>
    some (.inr (p4.1, p4.2))
set_option maxRecDepth 100000 in
theorem E_Mo_back_20 (l0 l1 l2 : Int) (σ : mS) : mblk c_Mo_back K_Mo_back (C_Mo_back) (F_Mo_back_20) (fun v σ => some (.inr (v, σ))) 42 20 ([(3, l0), (1, l1), (1, l2)]) [] σ = B_Mo_back_20 l0 l1 l2 σ := rfl
def M_Mo_back_20 (l0 l1 l2 : Int) (σ : mS) : Option (Int × mS) := miter (fun s : Int × mS => B_Mo_back_20 l0 l1 s.1 s.2) mN (l2, σ)
def F_Mo_back_0 : Nat → List mV → List mV → mS → Option (Int × mS) := fun i L st σ => match i, L, st with
  | 20, [(3, l0), (1, l1), (1, l2)], [] => M_Mo_back_20 l0 l1 l2 σ
  | _, _, _ => none
def M_Mo_back (l0 l1 : Int) (σ : mS) : Option (Int × mS) :=
  (M_Mo_lies l1 0 1 σ).bind fun p1 =>
  if p1.1 = 0 then 
    (gk 11 l0 p1.2).bind fun _ => (M_Mo_refuses l0 (-1) p1.2).bind fun p2 =>
    some (p2.1, p2.2)
  else
    (gf 11 5 l0 p1.2).bind fun v3 =>
    (ld 102 v3 l1 p1.2).bind fun v4 =>
    if v4 = 0 then 
      (gk 11 l0 p1.2).bind fun _ => (M_Mo_refuses l0 (-2) p1.2).bind fun p5 =>
      some (p5.1, p5.2)
    else
      M_Mo_back_20 l0 l1 0 p1.2
set_option maxRecDepth 100000 in
theorem E_Mo_back_0 (l0 l1 : Int) (σ : mS) : mblk c_Mo_back K_Mo_back (C_Mo_back) (F_Mo_back_0) (fun v σ => some (v, σ)) 42 0 (mInit 3 [(3, l0), (1, l1)]) [] σ = M_Mo_back l0 l1 σ := rfl
def C_Mo_isPlace : Nat → List mV → mS → Option (Int × mS) := fun k as σ => match k, as with
  | 52, [(1, a0), (1, a1), (1, a2)] => M_Mo_lies a0 a1 a2 σ
  | _, _ => none
def K_Mo_isPlace : Nat → Bool := fun i => false
def F_Mo_isPlace_0 : Nat → List mV → List mV → mS → Option (Int × mS) := fun i L st σ => match i, L, st with
  | _, _, _ => none
def M_Mo_isPlace (l0 : Int) (σ : mS) : Option (Int × mS) :=
  (M_Mo_lies l0 0 63 σ).bind fun p1 =>
  if p1.1 = 0 ∨ p1.1 = 1 then some (p1.1, p1.2) else none
set_option maxRecDepth 100000 in
theorem E_Mo_isPlace_0 (l0 : Int) (σ : mS) : mblk c_Mo_isPlace K_Mo_isPlace (C_Mo_isPlace) (F_Mo_isPlace_0) (fun v σ => some (v, σ)) 6 0 (mInit 1 [(1, l0)]) [] σ = M_Mo_isPlace l0 σ := rfl
def C_Mo_isInch : Nat → List mV → mS → Option (Int × mS) := fun k as σ => match k, as with
  | 52, [(1, a0), (1, a1), (1, a2)] => M_Mo_lies a0 a1 a2 σ
  | _, _ => none
def K_Mo_isInch : Nat → Bool := fun i => false
def F_Mo_isInch_0 : Nat → List mV → List mV → mS → Option (Int × mS) := fun i L st σ => match i, L, st with
  | _, _, _ => none
def M_Mo_isInch (l0 : Int) (σ : mS) : Option (Int × mS) :=
  (M_Mo_lies l0 0 31 σ).bind fun p1 =>
  if p1.1 = 0 ∨ p1.1 = 1 then some (p1.1, p1.2) else none
set_option maxRecDepth 100000 in
theorem E_Mo_isInch_0 (l0 : Int) (σ : mS) : mblk c_Mo_isInch K_Mo_isInch (C_Mo_isInch) (F_Mo_isInch_0) (fun v σ => some (v, σ)) 6 0 (mInit 1 [(1, l0)]) [] σ = M_Mo_isInch l0 σ := rfl
def C_Mo_isHour : Nat → List mV → mS → Option (Int × mS) := fun k as σ => match k, as with
  | 52, [(1, a0), (1, a1), (1, a2)] => M_Mo_lies a0 a1 a2 σ
  | _, _ => none
def K_Mo_isHour : Nat → Bool := fun i => false
def F_Mo_isHour_0 : Nat → List mV → List mV → mS → Option (Int × mS) := fun i L st σ => match i, L, st with
  | _, _, _ => none
def M_Mo_isHour (l0 : Int) (σ : mS) : Option (Int × mS) :=
  (M_Mo_lies l0 0 23 σ).bind fun p1 =>
  if p1.1 = 0 ∨ p1.1 = 1 then some (p1.1, p1.2) else none
set_option maxRecDepth 100000 in
theorem E_Mo_isHour_0 (l0 : Int) (σ : mS) : mblk c_Mo_isHour K_Mo_isHour (C_Mo_isHour) (F_Mo_isHour_0) (fun v σ => some (v, σ)) 6 0 (mInit 1 [(1, l0)]) [] σ = M_Mo_isHour l0 σ := rfl
def C_Mo_isAngle : Nat → List mV → mS → Option (Int × mS) := fun k as σ => match k, as with
  | 52, [(1, a0), (1, a1), (1, a2)] => M_Mo_lies a0 a1 a2 σ
  | _, _ => none
def K_Mo_isAngle : Nat → Bool := fun i => false
def F_Mo_isAngle_0 : Nat → List mV → List mV → mS → Option (Int × mS) := fun i L st σ => match i, L, st with
  | _, _, _ => none
def M_Mo_isAngle (l0 : Int) (σ : mS) : Option (Int × mS) :=
  (M_Mo_lies l0 (-500) 500 σ).bind fun p1 =>
  if p1.1 = 0 ∨ p1.1 = 1 then some (p1.1, p1.2) else none
set_option maxRecDepth 100000 in
theorem E_Mo_isAngle_0 (l0 : Int) (σ : mS) : mblk c_Mo_isAngle K_Mo_isAngle (C_Mo_isAngle) (F_Mo_isAngle_0) (fun v σ => some (v, σ)) 6 0 (mInit 1 [(1, l0)]) [] σ = M_Mo_isAngle l0 σ := rfl
def C_Mo_isThing : Nat → List mV → mS → Option (Int × mS) := fun k as σ => match k, as with
  | 52, [(1, a0), (1, a1), (1, a2)] => M_Mo_lies a0 a1 a2 σ
  | _, _ => none
def K_Mo_isThing : Nat → Bool := fun i => false
def F_Mo_isThing_0 : Nat → List mV → List mV → mS → Option (Int × mS) := fun i L st σ => match i, L, st with
  | _, _, _ => none
def M_Mo_isThing (l0 l1 : Int) (σ : mS) : Option (Int × mS) :=
  (gf 11 3 l0 σ).bind fun v1 =>
  (ld 100 v1 184 σ).bind fun v2 =>
  (M_Mo_lies l1 0 (w32 (v2 - 1)) σ).bind fun p3 =>
  if p3.1 = 0 ∨ p3.1 = 1 then some (p3.1, p3.2) else none
set_option maxRecDepth 100000 in
theorem E_Mo_isThing_0 (l0 l1 : Int) (σ : mS) : mblk c_Mo_isThing K_Mo_isThing (C_Mo_isThing) (F_Mo_isThing_0) (fun v σ => some (v, σ)) 11 0 (mInit 2 [(3, l0), (1, l1)]) [] σ = M_Mo_isThing l0 l1 σ := rfl
end
