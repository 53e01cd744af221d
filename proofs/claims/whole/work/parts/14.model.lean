/-! the methods as functions: written by gen/emit.py -/
noncomputable section
def C_Mo_warm : Nat → List mV → mS → Option (Int × mS) := fun k as σ => match k, as with
  | 60, [(1, a0)] => M_Mo_isPlace a0 σ
  | 61, [(1, a0)] => M_Mo_isInch a0 σ
  | 62, [(1, a0)] => M_Mo_isHour a0 σ
  | 109, [(3, a0), (1, a1), (1, a2), (1, a3)] => M_Mo_warmthOf a0 a1 a2 a3 σ
  | _, _ => none
def K_Mo_warm : Nat → Bool := fun i => false
def F_Mo_warm_0 : Nat → List mV → List mV → mS → Option (Int × mS) := fun i L st σ => match i, L, st with
  | _, _, _ => none
def M_Mo_warm (l0 l1 l2 l3 : Int) (σ : mS) : Option (Int × mS) :=
  (M_Mo_isPlace l1 σ).bind fun p1 =>
  if p1.1 = 0 then 
    some ((-1000000), p1.2)
  else
    (M_Mo_isInch l2 p1.2).bind fun p2 =>
    if p2.1 = 0 then 
      some ((-1000000), p2.2)
    else
      (M_Mo_isHour l3 p2.2).bind fun p3 =>
      if p3.1 = 0 then 
        some ((-1000000), p3.2)
      else
        (gk 11 l0 p3.2).bind fun _ => (M_Mo_warmthOf l0 l1 l2 l3 p3.2).bind fun p4 =>
        some (p4.1, p4.2)
set_option maxRecDepth 100000 in
theorem E_Mo_warm_0 (l0 l1 l2 l3 : Int) (σ : mS) : mblk c_Mo_warm K_Mo_warm (C_Mo_warm) (F_Mo_warm_0) (fun v σ => some (v, σ)) 18 0 (mInit 4 [(3, l0), (1, l1), (1, l2), (1, l3)]) [] σ = M_Mo_warm l0 l1 l2 l3 σ := rfl
def C_Mo_warmer : Nat → List mV → mS → Option (Int × mS) := fun k as σ => match k, as with
  | 55, [(1, a0), (1, a1), (1, a2)] => M_Mo_nearest a0 a1 a2 σ
  | _, _ => none
def K_Mo_warmer : Nat → Bool := fun i => false
def F_Mo_warmer_0 : Nat → List mV → List mV → mS → Option (Int × mS) := fun i L st σ => match i, L, st with
  | _, _, _ => none
def M_Mo_warmer (l0 l1 l2 l3 : Int) (σ : mS) : Option (Int × mS) :=
  (gf 11 23 l0 σ).bind fun v1 =>
  (M_Mo_nearest (w32 (l2 - 1)) 0 31 σ).bind fun p2 =>
  (ld 100 v1 (w32 ((w32 ((w32 ((w32 (64 * l3)) + l1)) * 32)) + p2.1)) p2.2).bind fun v3 =>
  (gf 11 23 l0 p2.2).bind fun v4 =>
  (M_Mo_nearest (w32 (l2 + 1)) 0 31 p2.2).bind fun p5 =>
  (ld 100 v4 (w32 ((w32 ((w32 ((w32 (64 * l3)) + l1)) * 32)) + p5.1)) p5.2).bind fun v6 =>
  some (w32 (v3 - v6), p5.2)
set_option maxRecDepth 100000 in
theorem E_Mo_warmer_0 (l0 l1 l2 l3 : Int) (σ : mS) : mblk c_Mo_warmer K_Mo_warmer (C_Mo_warmer) (F_Mo_warmer_0) (fun v σ => some (v, σ)) 33 0 (mInit 5 [(3, l0), (1, l1), (1, l2), (1, l3)]) [] σ = M_Mo_warmer l0 l1 l2 l3 σ := rfl
def C_Mo_draws : Nat → List mV → mS → Option (Int × mS) := fun k as σ => match k, as with
  | _, _ => none
def K_Mo_draws : Nat → Bool := fun i => false
def F_Mo_draws_0 : Nat → List mV → List mV → mS → Option (Int × mS) := fun i L st σ => match i, L, st with
  | _, _, _ => none
def M_Mo_draws (l0 l1 : Int) (σ : mS) : Option (Int × mS) :=
  (gf 11 34 l0 σ).bind fun v1 =>
  (lrm (w64 ((w64 (1103 * v1)) + 12345)) 1000003).bind fun v2 =>
  (pf 11 34 l0 (w32 v2) σ).bind fun σ =>
  (gf 11 34 l0 σ).bind fun v3 =>
  (irm v3 l1).bind fun v4 =>
  some (v4, σ)
set_option maxRecDepth 100000 in
theorem E_Mo_draws_0 (l0 l1 : Int) (σ : mS) : mblk c_Mo_draws K_Mo_draws (C_Mo_draws) (F_Mo_draws_0) (fun v σ => some (v, σ)) 18 0 (mInit 2 [(3, l0), (1, l1)]) [] σ = M_Mo_draws l0 l1 σ := rfl
def C_Mo_signOf : Nat → List mV → mS → Option (Int × mS) := fun k as σ => match k, as with
  | _, _ => none
def K_Mo_signOf : Nat → Bool := fun i => false
def F_Mo_signOf_0 : Nat → List mV → List mV → mS → Option (Int × mS) := fun i L st σ => match i, L, st with
  | _, _, _ => none
def M_Mo_signOf (l0 : Int) (σ : mS) : Option (Int × mS) :=
  if l0 < 0 then 
    some ((-1), σ)
  else
    if 0 < l0 then 
      some (1, σ)
    else
      some (0, σ)
set_option maxRecDepth 100000 in
theorem E_Mo_signOf_0 (l0 : Int) (σ : mS) : mblk c_Mo_signOf K_Mo_signOf (C_Mo_signOf) (F_Mo_signOf_0) (fun v σ => some (v, σ)) 11 0 (mInit 1 [(1, l0)]) [] σ = M_Mo_signOf l0 σ := rfl
def C_Mo_ends : Nat → List mV → mS → Option (Int × mS) := fun k as σ => match k, as with
  | _, _ => none
def K_Mo_ends : Nat → Bool := fun i => false
def F_Mo_ends_0 : Nat → List mV → List mV → mS → Option (Int × mS) := fun i L st σ => match i, L, st with
  | _, _, _ => none
def M_Mo_ends (l0 l1 l2 l3 l4 : Int) (σ : mS) : Option (Int × mS) :=
  (pf 11 27 l0 l1 σ).bind fun σ =>
  (pf 11 28 l0 l2 σ).bind fun σ =>
  (pf 11 29 l0 l3 σ).bind fun σ =>
  (pf 11 30 l0 l4 σ).bind fun σ =>
  some (0, σ)
set_option maxRecDepth 100000 in
theorem E_Mo_ends_0 (l0 l1 l2 l3 l4 : Int) (σ : mS) : mblk c_Mo_ends K_Mo_ends (C_Mo_ends) (F_Mo_ends_0) (fun v σ => some (v, σ)) 14 0 (mInit 5 [(3, l0), (1, l1), (1, l2), (1, l3), (1, l4)]) [] σ = M_Mo_ends l0 l1 l2 l3 l4 σ := rfl
def C_Mo_goes : Nat → List mV → mS → Option (Int × mS) := fun k as σ => match k, as with
  | 55, [(1, a0), (1, a1), (1, a2)] => M_Mo_nearest a0 a1 a2 σ
  | 65, [(3, a0), (1, a1)] => M_Mo_riseOf a0 a1 σ
  | 66, [(3, a0), (1, a1)] => M_Mo_thingAt a0 a1 σ
  | 110, [(3, a0), (1, a1)] => M_Mo_warms a0 a1 σ
  | 112, [(3, a0), (1, a1), (1, a2), (1, a3)] => M_Mo_warmer a0 a1 a2 a3 σ
  | 113, [(3, a0), (1, a1)] => M_Mo_draws a0 a1 σ
  | 114, [(1, a0)] => M_Mo_signOf a0 σ
  | 115, [(3, a0), (1, a1), (1, a2), (1, a3), (1, a4)] => M_Mo_ends a0 a1 a2 a3 a4 σ
  | _, _ => none
def K_Mo_goes : Nat → Bool := fun i => i.beq 44 || i.beq 66 || i.beq 80 || i.beq 88 || i.beq 147 || i.beq 190 || i.beq 191
def F_Mo_goes_191 : Nat → List mV → List mV → mS → Option (((Int × Int × Int × Int × mS) ⊕ (Int × mS))) := fun i L st σ => match i, L, st with
  | 44, [(3, l0), _, (1, l2), (1, l3), _, (1, l5), (1, l6), (1, l7), (1, l8), (1, l9), (1, l10), _, _], [] => some (.inl (l7, l8, l9, l10, σ))
  | _, _, _ => none
def M_Mo_goes_191 (l0 l2 l3 l5 l6 l7 l8 l9 l12 s2 s1 s0 : Int) (σ : mS) : Option (((Int × Int × Int × Int × mS) ⊕ (Int × mS))) :=
  (pf 11 32 s0 (w32 (s1 + s2)) σ).bind fun σ =>
  if l12 = 0 then 
    some (.inl (l7, l8, l9, 1, σ))
  else
    some (.inl (l7, l8, l12, 1, σ))
set_option maxRecDepth 100000 in
theorem E_Mo_goes_191 (l0 l2 l3 l5 l6 l7 l8 l9 l12 s2 s1 s0 : Int) (σ : mS) : mblk c_Mo_goes K_Mo_goes (C_Mo_goes) (F_Mo_goes_191) (fun v σ => some (.inr (v, σ))) 204 191 ([(3, l0), (0, 0), (1, l2), (1, l3), (0, 0), (1, l5), (1, l6), (1, l7), (1, l8), (1, l9), (0, 0), (0, 0), (1, l12)]) [(1, s2), (1, s1), (3, s0)] σ = M_Mo_goes_191 l0 l2 l3 l5 l6 l7 l8 l9 l12 s2 s1 s0 σ := rfl
def F_Mo_goes_190 : Nat → List mV → List mV → mS → Option (((Int × Int × Int × Int × mS) ⊕ (Int × mS))) := fun i L st σ => match i, L, st with
  | 191, [(3, l0), _, (1, l2), (1, l3), _, (1, l5), (1, l6), (1, l7), (1, l8), (1, l9), _, _, (1, l12)], [(1, s2), (1, s1), (3, s0)] => M_Mo_goes_191 l0 l2 l3 l5 l6 l7 l8 l9 l12 s2 s1 s0 σ
  | _, _, _ => none
def M_Mo_goes_190 (l0 l2 l3 l5 l6 l7 l8 l9 l12 s1 s0 : Int) (σ : mS) : Option (((Int × Int × Int × Int × mS) ⊕ (Int × mS))) :=
  M_Mo_goes_191 l0 l2 l3 l5 l6 l7 l8 l9 l12 0 s1 s0 σ
set_option maxRecDepth 100000 in
theorem E_Mo_goes_190 (l0 l2 l3 l5 l6 l7 l8 l9 l12 s1 s0 : Int) (σ : mS) : mblk c_Mo_goes K_Mo_goes (C_Mo_goes) (F_Mo_goes_190) (fun v σ => some (.inr (v, σ))) 204 190 ([(3, l0), (0, 0), (1, l2), (1, l3), (0, 0), (1, l5), (1, l6), (1, l7), (1, l8), (1, l9), (0, 0), (0, 0), (1, l12)]) [(1, s1), (3, s0)] σ = M_Mo_goes_190 l0 l2 l3 l5 l6 l7 l8 l9 l12 s1 s0 σ := rfl
def F_Mo_goes_147 : Nat → List mV → List mV → mS → Option (((Int × Int × Int × Int × mS) ⊕ (Int × mS))) := fun i L st σ => match i, L, st with
  | 44, [(3, l0), _, (1, l2), (1, l3), _, (1, l5), (1, l6), (1, l7), (1, l8), (1, l9), (1, l10), _, _], [] => some (.inl (l7, l8, l9, l10, σ))
  | 190, [(3, l0), _, (1, l2), (1, l3), _, (1, l5), (1, l6), (1, l7), (1, l8), (1, l9), _, _, (1, l12)], [(1, s1), (3, s0)] => M_Mo_goes_190 l0 l2 l3 l5 l6 l7 l8 l9 l12 s1 s0 σ
  | 191, [(3, l0), _, (1, l2), (1, l3), _, (1, l5), (1, l6), (1, l7), (1, l8), (1, l9), _, _, (1, l12)], [(1, s2), (1, s1), (3, s0)] => M_Mo_goes_191 l0 l2 l3 l5 l6 l7 l8 l9 l12 s2 s1 s0 σ
  | _, _, _ => none
def M_Mo_goes_147 (l0 l2 l3 l5 l6 l7 l8 l9 l10 : Int) (σ : mS) : Option (((Int × Int × Int × Int × mS) ⊕ (Int × mS))) :=
  if l7 = 63 then 
    (gk 11 l0 σ).bind fun _ => (M_Mo_ends l0 2 l7 (-1) (-1) σ).bind fun p1 =>
    some (.inl (l7, l8, l9, l10, p1.2))
  else
    (gf 11 33 l0 σ).bind fun v2 =>
    (idv l8 100).bind fun v3 =>
    (gk 11 l0 σ).bind fun _ => (M_Mo_warmer l0 l7 v3 l2 σ).bind fun p4 =>
    (M_Mo_nearest (w32 (v2 + (w32 (l3 * p4.1)))) (-2000) 2000 p4.2).bind fun p5 =>
    (pf 11 33 l0 p5.1 p5.2).bind fun σ =>
    (gf 11 33 l0 σ).bind fun v6 =>
    (M_Mo_signOf v6 σ).bind fun p7 =>
    (gf 11 32 l0 p7.2).bind fun v8 =>
    if p7.1 = 0 then 
      M_Mo_goes_190 l0 l2 l3 l5 l6 l7 l8 l9 p7.1 v8 l0 p7.2
    else
      if l9 = 0 then 
        M_Mo_goes_190 l0 l2 l3 l5 l6 l7 l8 l9 p7.1 v8 l0 p7.2
      else
        if p7.1 = l9 then 
          M_Mo_goes_190 l0 l2 l3 l5 l6 l7 l8 l9 p7.1 v8 l0 p7.2
        else
          M_Mo_goes_191 l0 l2 l3 l5 l6 l7 l8 l9 p7.1 1 v8 l0 p7.2
set_option maxRecDepth 100000 in
theorem E_Mo_goes_147 (l0 l2 l3 l5 l6 l7 l8 l9 l10 : Int) (σ : mS) : mblk c_Mo_goes K_Mo_goes (C_Mo_goes) (F_Mo_goes_147) (fun v σ => some (.inr (v, σ))) 204 147 ([(3, l0), (0, 0), (1, l2), (1, l3), (0, 0), (1, l5), (1, l6), (1, l7), (1, l8), (1, l9), (1, l10), (0, 0), (0, 0)]) [] σ = M_Mo_goes_147 l0 l2 l3 l5 l6 l7 l8 l9 l10 σ := rfl
def F_Mo_goes_88 : Nat → List mV → List mV → mS → Option (((Int × Int × Int × Int × mS) ⊕ (Int × mS))) := fun i L st σ => match i, L, st with
  | 44, [(3, l0), _, (1, l2), (1, l3), _, (1, l5), (1, l6), (1, l7), (1, l8), (1, l9), (1, l10), _, _], [] => some (.inl (l7, l8, l9, l10, σ))
  | 147, [(3, l0), _, (1, l2), (1, l3), _, (1, l5), (1, l6), (1, l7), (1, l8), (1, l9), (1, l10), _, _], [] => M_Mo_goes_147 l0 l2 l3 l5 l6 l7 l8 l9 l10 σ
  | _, _, _ => none
def M_Mo_goes_88 (l0 l2 l3 l5 l6 l7 l8 l9 s0 : Int) (σ : mS) : Option (((Int × Int × Int × Int × mS) ⊕ (Int × mS))) :=
  (gk 11 l0 σ).bind fun _ => (M_Mo_riseOf l0 l7 σ).bind fun p1 =>
  if l8 < (w32 (100 * p1.1)) then 
    (gk 11 l0 p1.2).bind fun _ => (M_Mo_ends l0 0 l7 (-1) (-1) p1.2).bind fun p2 =>
    some (.inl (l7, l8, l9, 0, p2.2))
  else
    if l8 < 3200 then 
      if s0 = (-1) then 
        M_Mo_goes_147 l0 l2 l3 l5 l6 l7 l8 l9 0 p1.2
      else
        (gk 11 l0 p1.2).bind fun _ => (M_Mo_riseOf l0 l7 p1.2).bind fun p3 =>
        (gf 11 3 l0 p3.2).bind fun v4 =>
        (ld 100 v4 (w32 (136 + s0)) p3.2).bind fun v5 =>
        if l8 < (w32 (100 * (w32 (p3.1 + v5)))) then 
          (gk 11 l0 p3.2).bind fun _ => (M_Mo_riseOf l0 l7 p3.2).bind fun p6 =>
          (idv (w32 (l8 - (w32 (100 * p6.1)))) 100).bind fun v7 =>
          (gk 11 l0 p6.2).bind fun _ => (M_Mo_ends l0 1 l7 s0 v7 p6.2).bind fun p8 =>
          some (.inl (l7, l8, l9, 0, p8.2))
        else
          M_Mo_goes_147 l0 l2 l3 l5 l6 l7 l8 l9 0 p3.2
    else
      (gk 11 l0 p1.2).bind fun _ => (M_Mo_ends l0 2 l7 (-1) (-1) p1.2).bind fun p9 =>
      some (.inl (l7, l8, l9, 0, p9.2))
set_option maxRecDepth 100000 in
theorem E_Mo_goes_88 (l0 l2 l3 l5 l6 l7 l8 l9 s0 : Int) (σ : mS) : mblk c_Mo_goes K_Mo_goes (C_Mo_goes) (F_Mo_goes_88) (fun v σ => some (.inr (v, σ))) 204 88 ([(3, l0), (0, 0), (1, l2), (1, l3), (0, 0), (1, l5), (1, l6), (1, l7), (1, l8), (1, l9), (0, 0), (0, 0), (0, 0)]) [(1, s0)] σ = M_Mo_goes_88 l0 l2 l3 l5 l6 l7 l8 l9 s0 σ := rfl
def F_Mo_goes_80 : Nat → List mV → List mV → mS → Option (((Int × Int × Int × Int × mS) ⊕ (Int × mS))) := fun i L st σ => match i, L, st with
  | 88, [(3, l0), _, (1, l2), (1, l3), _, (1, l5), (1, l6), (1, l7), (1, l8), (1, l9), _, _, _], [(1, s0)] => M_Mo_goes_88 l0 l2 l3 l5 l6 l7 l8 l9 s0 σ
  | _, _, _ => none
def M_Mo_goes_80 (l0 l2 l3 l5 l6 l7 l8 l9 s1 s0 : Int) (σ : mS) : Option (((Int × Int × Int × Int × mS) ⊕ (Int × mS))) :=
  (pf 11 31 s0 s1 σ).bind fun σ =>
  if l5 = 0 then 
    M_Mo_goes_88 l0 l2 l3 l5 l6 l7 l8 l9 (-1) σ
  else
    (gk 11 l0 σ).bind fun _ => (M_Mo_thingAt l0 l7 σ).bind fun p1 =>
    M_Mo_goes_88 l0 l2 l3 l5 l6 l7 l8 l9 p1.1 p1.2
set_option maxRecDepth 100000 in
theorem E_Mo_goes_80 (l0 l2 l3 l5 l6 l7 l8 l9 s1 s0 : Int) (σ : mS) : mblk c_Mo_goes K_Mo_goes (C_Mo_goes) (F_Mo_goes_80) (fun v σ => some (.inr (v, σ))) 204 80 ([(3, l0), (0, 0), (1, l2), (1, l3), (0, 0), (1, l5), (1, l6), (1, l7), (1, l8), (1, l9), (0, 0), (0, 0), (0, 0)]) [(1, s1), (3, s0)] σ = M_Mo_goes_80 l0 l2 l3 l5 l6 l7 l8 l9 s1 s0 σ := rfl
def F_Mo_goes_66 : Nat → List mV → List mV → mS → Option (((Int × Int × Int × Int × mS) ⊕ (Int × mS))) := fun i L st σ => match i, L, st with
  | 80, [(3, l0), _, (1, l2), (1, l3), _, (1, l5), (1, l6), (1, l7), (1, l8), (1, l9), _, _, _], [(1, s1), (3, s0)] => M_Mo_goes_80 l0 l2 l3 l5 l6 l7 l8 l9 s1 s0 σ
  | _, _, _ => none
def M_Mo_goes_66 (l0 l2 l3 l5 l6 l7 l8 l9 : Int) (σ : mS) : Option (((Int × Int × Int × Int × mS) ⊕ (Int × mS))) :=
  (gf 11 26 l0 σ).bind fun v1 =>
  (sd 100 v1 l7 l8 σ).bind fun σ =>
  (gf 11 31 l0 σ).bind fun v2 =>
  if l8 < v2 then 
    M_Mo_goes_80 l0 l2 l3 l5 l6 l7 l8 l9 l8 l0 σ
  else
    (gf 11 31 l0 σ).bind fun v3 =>
    M_Mo_goes_80 l0 l2 l3 l5 l6 l7 l8 l9 v3 l0 σ
set_option maxRecDepth 100000 in
theorem E_Mo_goes_66 (l0 l2 l3 l5 l6 l7 l8 l9 : Int) (σ : mS) : mblk c_Mo_goes K_Mo_goes (C_Mo_goes) (F_Mo_goes_66) (fun v σ => some (.inr (v, σ))) 204 66 ([(3, l0), (0, 0), (1, l2), (1, l3), (0, 0), (1, l5), (1, l6), (1, l7), (1, l8), (1, l9), (0, 0), (0, 0), (0, 0)]) [] σ = M_Mo_goes_66 l0 l2 l3 l5 l6 l7 l8 l9 σ := rfl
def F_Mo_goes_44 : Nat → List mV → List mV → mS → Option (((Int × Int × Int × Int × mS) ⊕ (Int × mS))) := fun i L st σ => match i, L, st with
  | 66, [(3, l0), _, (1, l2), (1, l3), _, (1, l5), (1, l6), (1, l7), (1, l8), (1, l9), _, _, _], [] => M_Mo_goes_66 l0 l2 l3 l5 l6 l7 l8 l9 σ
  | _, _, _ => none
def B_Mo_goes_44 (l0 l2 l3 l5 l6 l7 l8 l9 l10 : Int) (σ : mS) : Option (((Int × Int × Int × Int × mS) ⊕ (Int × mS))) :=
  if l10 = 0 then 
    some (.inr (0, σ))
  else
    (gf 11 33 l0 σ).bind fun v1 =>
    if l6 < 0 then 
      M_Mo_goes_66 l0 l2 l3 l5 l6 (w32 (l7 + 1)) (w32 (l8 + v1)) l9 σ
    else
      (gk 11 l0 σ).bind fun _ => (M_Mo_draws l0 (w32 ((w32 (2 * l6)) + 1)) σ).bind fun p2 =>
      M_Mo_goes_66 l0 l2 l3 l5 l6 (w32 (l7 + 1)) (w32 ((w32 (l8 + v1)) + (w32 (p2.1 - l6)))) l9 p2.2
set_option maxRecDepth 100000 in
theorem E_Mo_goes_44 (l0 l2 l3 l5 l6 l7 l8 l9 l10 : Int) (σ : mS) : mblk c_Mo_goes K_Mo_goes (C_Mo_goes) (F_Mo_goes_44) (fun v σ => some (.inr (v, σ))) 204 44 ([(3, l0), (0, 0), (1, l2), (1, l3), (0, 0), (1, l5), (1, l6), (1, l7), (1, l8), (1, l9), (1, l10), (0, 0), (0, 0)]) [] σ = B_Mo_goes_44 l0 l2 l3 l5 l6 l7 l8 l9 l10 σ := rfl
def M_Mo_goes_44 (l0 l2 l3 l5 l6 l7 l8 l9 l10 : Int) (σ : mS) : Option (Int × mS) := miter (fun s : Int × Int × Int × Int × mS => B_Mo_goes_44 l0 l2 l3 l5 l6 s.1 s.2.1 s.2.2.1 s.2.2.2.1 s.2.2.2.2) mN (l7, l8, l9, l10, σ)
def F_Mo_goes_0 : Nat → List mV → List mV → mS → Option (Int × mS) := fun i L st σ => match i, L, st with
  | 44, [(3, l0), _, (1, l2), (1, l3), _, (1, l5), (1, l6), (1, l7), (1, l8), (1, l9), (1, l10), _, _], [] => M_Mo_goes_44 l0 l2 l3 l5 l6 l7 l8 l9 l10 σ
  | _, _, _ => none
def M_Mo_goes (l0 l1 l2 l3 l4 l5 l6 : Int) (σ : mS) : Option (Int × mS) :=
  (gk 11 l0 σ).bind fun _ => (M_Mo_warms l0 l2 σ).bind fun p1 =>
  (gf 11 3 l0 p1.2).bind fun v2 =>
  (ld 100 v2 182 p1.2).bind fun v3 =>
  (gf 11 26 l0 p1.2).bind fun v4 =>
  (sd 100 v4 v3 (w32 ((w32 (100 * l4)) + 50)) p1.2).bind fun σ =>
  (pf 11 31 l0 (w32 ((w32 (100 * l4)) + 50)) σ).bind fun σ =>
  (pf 11 32 l0 0 σ).bind fun σ =>
  (pf 11 33 l0 l1 σ).bind fun σ =>
  (M_Mo_signOf l1 σ).bind fun p5 =>
  (gk 11 l0 p5.2).bind fun _ => (M_Mo_ends l0 2 v3 (-1) (-1) p5.2).bind fun p6 =>
  if v3 < 63 then 
    M_Mo_goes_44 l0 l2 l3 l5 l6 v3 (w32 ((w32 (100 * l4)) + 50)) p5.1 1 p6.2
  else
    M_Mo_goes_44 l0 l2 l3 l5 l6 v3 (w32 ((w32 (100 * l4)) + 50)) p5.1 0 p6.2
set_option maxRecDepth 100000 in
theorem E_Mo_goes_0 (l0 l1 l2 l3 l4 l5 l6 : Int) (σ : mS) : mblk c_Mo_goes K_Mo_goes (C_Mo_goes) (F_Mo_goes_0) (fun v σ => some (v, σ)) 204 0 (mInit 13 [(3, l0), (1, l1), (1, l2), (1, l3), (1, l4), (1, l5), (1, l6)]) [] σ = M_Mo_goes l0 l1 l2 l3 l4 l5 l6 σ := rfl
def C_Mo_goesNow : Nat → List mV → mS → Option (Int × mS) := fun k as σ => match k, as with
  | 116, [(3, a0), (1, a1), (1, a2), (1, a3), (1, a4), (1, a5), (1, a6)] => M_Mo_goes a0 a1 a2 a3 a4 a5 a6 σ
  | _, _ => none
def K_Mo_goesNow : Nat → Bool := fun i => false
def F_Mo_goesNow_0 : Nat → List mV → List mV → mS → Option (Int × mS) := fun i L st σ => match i, L, st with
  | _, _, _ => none
def M_Mo_goesNow (l0 l1 : Int) (σ : mS) : Option (Int × mS) :=
  (gf 11 3 l0 σ).bind fun v1 =>
  (ld 100 v1 180 σ).bind fun v2 =>
  (gf 11 3 l0 σ).bind fun v3 =>
  (ld 100 v3 181 σ).bind fun v4 =>
  (gf 11 3 l0 σ).bind fun v5 =>
  (ld 100 v5 183 σ).bind fun v6 =>
  (gk 11 l0 σ).bind fun _ => (M_Mo_goes l0 l1 v2 v4 v6 1 (-1) σ).bind fun p7 =>
  some (0, p7.2)
set_option maxRecDepth 100000 in
theorem E_Mo_goesNow_0 (l0 l1 : Int) (σ : mS) : mblk c_Mo_goesNow K_Mo_goesNow (C_Mo_goesNow) (F_Mo_goesNow_0) (fun v σ => some (v, σ)) 19 0 (mInit 2 [(3, l0), (1, l1)]) [] σ = M_Mo_goesNow l0 l1 σ := rfl
def C_Mo_ray : Nat → List mV → mS → Option (Int × mS) := fun k as σ => match k, as with
  | 52, [(1, a0), (1, a1), (1, a2)] => M_Mo_lies a0 a1 a2 σ
  | 63, [(1, a0)] => M_Mo_isAngle a0 σ
  | 117, [(3, a0), (1, a1)] => M_Mo_goesNow a0 a1 σ
  | _, _ => none
def K_Mo_ray : Nat → Bool := fun i => false
def F_Mo_ray_0 : Nat → List mV → List mV → mS → Option (Int × mS) := fun i L st σ => match i, L, st with
  | _, _, _ => none
def M_Mo_ray (l0 l1 l2 : Int) (σ : mS) : Option (Int × mS) :=
  (M_Mo_isAngle l1 σ).bind fun p1 =>
  if p1.1 = 0 then 
    some ((-1000000), p1.2)
  else
    (M_Mo_lies l2 0 7 p1.2).bind fun p2 =>
    if p2.1 = 0 then 
      some ((-1000000), p2.2)
    else
      (gk 11 l0 p2.2).bind fun _ => (M_Mo_goesNow l0 l1 p2.2).bind fun p3 =>
      if l2 = 0 then
        (gf 11 27 l0 p3.2).bind fun v4 =>
        some (v4, p3.2)
      else if l2 = 1 then
        (gf 11 28 l0 p3.2).bind fun v5 =>
        some (v5, p3.2)
      else if l2 = 2 then
        (gf 11 29 l0 p3.2).bind fun v6 =>
        some (v6, p3.2)
      else if l2 = 3 then
        (gf 11 30 l0 p3.2).bind fun v7 =>
        some (v7, p3.2)
      else if l2 = 4 then
        (gf 11 26 l0 p3.2).bind fun v8 =>
        (gf 11 28 l0 p3.2).bind fun v9 =>
        (ld 100 v8 v9 p3.2).bind fun v10 =>
        some (v10, p3.2)
      else if l2 = 5 then
        (gf 11 31 l0 p3.2).bind fun v11 =>
        some (v11, p3.2)
      else if l2 = 6 then
        (gf 11 32 l0 p3.2).bind fun v12 =>
        some (v12, p3.2)
      else 
        (gf 11 33 l0 p3.2).bind fun v13 =>
        some (v13, p3.2)
set_option maxRecDepth 100000 in
theorem E_Mo_ray_0 (l0 l1 l2 : Int) (σ : mS) : mblk c_Mo_ray K_Mo_ray (C_Mo_ray) (F_Mo_ray_0) (fun v σ => some (v, σ)) 43 0 (mInit 3 [(3, l0), (1, l1), (1, l2)]) [] σ = M_Mo_ray l0 l1 l2 σ := rfl
def C_Mo_at : Nat → List mV → mS → Option (Int × mS) := fun k as σ => match k, as with
  | 52, [(1, a0), (1, a1), (1, a2)] => M_Mo_lies a0 a1 a2 σ
  | 60, [(1, a0)] => M_Mo_isPlace a0 σ
  | 63, [(1, a0)] => M_Mo_isAngle a0 σ
  | 117, [(3, a0), (1, a1)] => M_Mo_goesNow a0 a1 σ
  | _, _ => none
def K_Mo_at : Nat → Bool := fun i => false
def F_Mo_at_0 : Nat → List mV → List mV → mS → Option (Int × mS) := fun i L st σ => match i, L, st with
  | _, _, _ => none
def M_Mo_at (l0 l1 l2 : Int) (σ : mS) : Option (Int × mS) :=
  (M_Mo_isAngle l1 σ).bind fun p1 =>
  if p1.1 = 0 then 
    some ((-1000000), p1.2)
  else
    (M_Mo_isPlace l2 p1.2).bind fun p2 =>
    if p2.1 = 0 then 
      some ((-1000000), p2.2)
    else
      (gk 11 l0 p2.2).bind fun _ => (M_Mo_goesNow l0 l1 p2.2).bind fun p3 =>
      (gf 11 3 l0 p3.2).bind fun v4 =>
      (ld 100 v4 182 p3.2).bind fun v5 =>
      (gf 11 28 l0 p3.2).bind fun v6 =>
      (M_Mo_lies l2 v5 v6 p3.2).bind fun p7 =>
      if p7.1 = 0 then 
        some ((-1000000), p7.2)
      else
        (gf 11 26 l0 p7.2).bind fun v8 =>
        (ld 100 v8 l2 p7.2).bind fun v9 =>
        some (v9, p7.2)
set_option maxRecDepth 100000 in
theorem E_Mo_at_0 (l0 l1 l2 : Int) (σ : mS) : mblk c_Mo_at K_Mo_at (C_Mo_at) (F_Mo_at_0) (fun v σ => some (v, σ)) 28 0 (mInit 3 [(3, l0), (1, l1), (1, l2)]) [] σ = M_Mo_at l0 l1 l2 σ := rfl
def C_Mo_looks : Nat → List mV → mS → Option (Int × mS) := fun k as σ => match k, as with
  | 116, [(3, a0), (1, a1), (1, a2), (1, a3), (1, a4), (1, a5), (1, a6)] => M_Mo_goes a0 a1 a2 a3 a4 a5 a6 σ
  | _, _ => none
def K_Mo_looks : Nat → Bool := fun i => i.beq 2
def F_Mo_looks_2 : Nat → List mV → List mV → mS → Option (((Int × mS) ⊕ (Int × mS))) := fun i L st σ => match i, L, st with
  | 2, [(3, l0), (1, l1), (1, l2), (1, l3), (1, l4)], [] => some (.inl (l4, σ))
  | _, _, _ => none
def B_Mo_looks_2 (l0 l1 l2 l3 l4 : Int) (σ : mS) : Option (((Int × mS) ⊕ (Int × mS))) :=
  if 200 < l4 then 
    some (.inr (0, σ))
  else
    (gk 11 l0 σ).bind fun _ => (M_Mo_goes l0 (w32 (l4 - 100)) l1 l2 l3 1 (-1) σ).bind fun p1 =>
    (gf 11 35 l0 p1.2).bind fun v2 =>
    (gf 11 29 l0 p1.2).bind fun v3 =>
    (sd 100 v2 l4 v3 p1.2).bind fun σ =>
    (gf 11 36 l0 σ).bind fun v4 =>
    (gf 11 30 l0 σ).bind fun v5 =>
    (sd 100 v4 l4 v5 σ).bind fun σ =>
    some (.inl (w32 (l4 + 1), σ))
set_option maxRecDepth 100000 in
theorem E_Mo_looks_2 (l0 l1 l2 l3 l4 : Int) (σ : mS) : mblk c_Mo_looks K_Mo_looks (C_Mo_looks) (F_Mo_looks_2) (fun v σ => some (.inr (v, σ))) 31 2 ([(3, l0), (1, l1), (1, l2), (1, l3), (1, l4)]) [] σ = B_Mo_looks_2 l0 l1 l2 l3 l4 σ := rfl
def M_Mo_looks_2 (l0 l1 l2 l3 l4 : Int) (σ : mS) : Option (Int × mS) := miter (fun s : Int × mS => B_Mo_looks_2 l0 l1 l2 l3 s.1 s.2) mN (l4, σ)
def F_Mo_looks_0 : Nat → List mV → List mV → mS → Option (Int × mS) := fun i L st σ => match i, L, st with
  | 2, [(3, l0), (1, l1), (1, l2), (1, l3), (1, l4)], [] => M_Mo_looks_2 l0 l1 l2 l3 l4 σ
  | _, _, _ => none
def M_Mo_looks (l0 l1 l2 l3 : Int) (σ : mS) : Option (Int × mS) :=
  M_Mo_looks_2 l0 l1 l2 l3 0 σ
set_option maxRecDepth 100000 in
theorem E_Mo_looks_0 (l0 l1 l2 l3 : Int) (σ : mS) : mblk c_Mo_looks K_Mo_looks (C_Mo_looks) (F_Mo_looks_0) (fun v σ => some (v, σ)) 31 0 (mInit 5 [(3, l0), (1, l1), (1, l2), (1, l3)]) [] σ = M_Mo_looks l0 l1 l2 l3 σ := rfl
def C_Mo_looksNow : Nat → List mV → mS → Option (Int × mS) := fun k as σ => match k, as with
  | 120, [(3, a0), (1, a1), (1, a2), (1, a3)] => M_Mo_looks a0 a1 a2 a3 σ
  | _, _ => none
def K_Mo_looksNow : Nat → Bool := fun i => false
def F_Mo_looksNow_0 : Nat → List mV → List mV → mS → Option (Int × mS) := fun i L st σ => match i, L, st with
  | _, _, _ => none
def M_Mo_looksNow (l0 : Int) (σ : mS) : Option (Int × mS) :=
  (gf 11 3 l0 σ).bind fun v1 =>
  (ld 100 v1 180 σ).bind fun v2 =>
  (gf 11 3 l0 σ).bind fun v3 =>
  (ld 100 v3 181 σ).bind fun v4 =>
  (gf 11 3 l0 σ).bind fun v5 =>
  (ld 100 v5 183 σ).bind fun v6 =>
  (gk 11 l0 σ).bind fun _ => (M_Mo_looks l0 v2 v4 v6 σ).bind fun p7 =>
  some (0, p7.2)
set_option maxRecDepth 100000 in
theorem E_Mo_looksNow_0 (l0 : Int) (σ : mS) : mblk c_Mo_looksNow K_Mo_looksNow (C_Mo_looksNow) (F_Mo_looksNow_0) (fun v σ => some (v, σ)) 16 0 (mInit 1 [(3, l0)]) [] σ = M_Mo_looksNow l0 σ := rfl
def C_Mo_seenNow : Nat → List mV → mS → Option (Int × mS) := fun k as σ => match k, as with
  | _, _ => none
def K_Mo_seenNow : Nat → Bool := fun i => i.beq 4
def F_Mo_seenNow_4 : Nat → List mV → List mV → mS → Option (((Int × Int × mS) ⊕ (Int × mS))) := fun i L st σ => match i, L, st with
  | 4, [(3, l0), (1, l1), (1, l2), (1, l3)], [] => some (.inl (l2, l3, σ))
  | _, _, _ => none
def B_Mo_seenNow_4 (l0 l1 l2 l3 : Int) (σ : mS) : Option (((Int × Int × mS) ⊕ (Int × mS))) :=
  if 200 < l3 then 
    some (.inr (l2, σ))
  else
    (gf 11 35 l0 σ).bind fun v1 =>
    (ld 100 v1 l3 σ).bind fun v2 =>
    if v2 = l1 then 
      some (.inl (w32 (l2 + 1), w32 (l3 + 1), σ))
    else
      some (.inl (w32 (l2 + 0), w32 (l3 + 1), σ))
set_option maxRecDepth 100000 in
theorem E_Mo_seenNow_4 (l0 l1 l2 l3 : Int) (σ : mS) : mblk c_Mo_seenNow K_Mo_seenNow (C_Mo_seenNow) (F_Mo_seenNow_4) (fun v σ => some (.inr (v, σ))) 24 4 ([(3, l0), (1, l1), (1, l2), (1, l3)]) [] σ = B_Mo_seenNow_4 l0 l1 l2 l3 σ := rfl
def M_Mo_seenNow_4 (l0 l1 l2 l3 : Int) (σ : mS) : Option (Int × mS) := miter (fun s : Int × Int × mS => B_Mo_seenNow_4 l0 l1 s.1 s.2.1 s.2.2) mN (l2, l3, σ)
def F_Mo_seenNow_0 : Nat → List mV → List mV → mS → Option (Int × mS) := fun i L st σ => match i, L, st with
  | 4, [(3, l0), (1, l1), (1, l2), (1, l3)], [] => M_Mo_seenNow_4 l0 l1 l2 l3 σ
  | _, _, _ => none
def M_Mo_seenNow (l0 l1 : Int) (σ : mS) : Option (Int × mS) :=
  M_Mo_seenNow_4 l0 l1 0 0 σ
set_option maxRecDepth 100000 in
theorem E_Mo_seenNow_0 (l0 l1 : Int) (σ : mS) : mblk c_Mo_seenNow K_Mo_seenNow (C_Mo_seenNow) (F_Mo_seenNow_0) (fun v σ => some (v, σ)) 24 0 (mInit 4 [(3, l0), (1, l1)]) [] σ = M_Mo_seenNow l0 l1 σ := rfl
def C_Mo_picturesNow : Nat → List mV → mS → Option (Int × mS) := fun k as σ => match k, as with
  | _, _ => none
def K_Mo_picturesNow : Nat → Bool := fun i => i.beq 4 || i.beq 24
def F_Mo_picturesNow_24 : Nat → List mV → List mV → mS → Option (((Int × Int × mS) ⊕ (Int × mS))) := fun i L st σ => match i, L, st with
  | 4, [(3, l0), (1, l1), (1, l2), (1, l3)], [] => some (.inl (l2, l3, σ))
  | _, _, _ => none
def M_Mo_picturesNow_24 (l0 l1 l3 s0 : Int) (σ : mS) : Option (((Int × Int × mS) ⊕ (Int × mS))) :=
  some (.inl (w32 (s0 + 1), w32 (l3 + 1), σ))
set_option maxRecDepth 100000 in
theorem E_Mo_picturesNow_24 (l0 l1 l3 s0 : Int) (σ : mS) : mblk c_Mo_picturesNow K_Mo_picturesNow (C_Mo_picturesNow) (F_Mo_picturesNow_24) (fun v σ => some (.inr (v, σ))) 34 24 ([(3, l0), (1, l1), (0, 0), (1, l3)]) [(1, s0)] σ = M_Mo_picturesNow_24 l0 l1 l3 s0 σ := rfl
def F_Mo_picturesNow_4 : Nat → List mV → List mV → mS → Option (((Int × Int × mS) ⊕ (Int × mS))) := fun i L st σ => match i, L, st with
  | 4, [(3, l0), (1, l1), (1, l2), (1, l3)], [] => some (.inl (l2, l3, σ))
  | 24, [(3, l0), (1, l1), _, (1, l3)], [(1, s0)] => M_Mo_picturesNow_24 l0 l1 l3 s0 σ
  | _, _, _ => none
def B_Mo_picturesNow_4 (l0 l1 l2 l3 : Int) (σ : mS) : Option (((Int × Int × mS) ⊕ (Int × mS))) :=
  if 200 < l3 then 
    some (.inr (l2, σ))
  else
    (gf 11 35 l0 σ).bind fun v1 =>
    (ld 100 v1 l3 σ).bind fun v2 =>
    if v2 = l1 then 
      if l3 = 0 then 
        M_Mo_picturesNow_24 l0 l1 l3 l2 σ
      else
        (gf 11 35 l0 σ).bind fun v3 =>
        (ld 100 v3 (w32 (l3 - 1)) σ).bind fun v4 =>
        if v4 = l1 then 
          some (.inl (w32 (l2 + 0), w32 (l3 + 1), σ))
        else
          M_Mo_picturesNow_24 l0 l1 l3 l2 σ
    else
      some (.inl (w32 (l2 + 0), w32 (l3 + 1), σ))
set_option maxRecDepth 100000 in
theorem E_Mo_picturesNow_4 (l0 l1 l2 l3 : Int) (σ : mS) : mblk c_Mo_picturesNow K_Mo_picturesNow (C_Mo_picturesNow) (F_Mo_picturesNow_4) (fun v σ => some (.inr (v, σ))) 34 4 ([(3, l0), (1, l1), (1, l2), (1, l3)]) [] σ = B_Mo_picturesNow_4 l0 l1 l2 l3 σ := rfl
def M_Mo_picturesNow_4 (l0 l1 l2 l3 : Int) (σ : mS) : Option (Int × mS) := miter (fun s : Int × Int × mS => B_Mo_picturesNow_4 l0 l1 s.1 s.2.1 s.2.2) mN (l2, l3, σ)
def F_Mo_picturesNow_0 : Nat → List mV → List mV → mS → Option (Int × mS) := fun i L st σ => match i, L, st with
  | 4, [(3, l0), (1, l1), (1, l2), (1, l3)], [] => M_Mo_picturesNow_4 l0 l1 l2 l3 σ
  | _, _, _ => none
def M_Mo_picturesNow (l0 l1 : Int) (σ : mS) : Option (Int × mS) :=
  M_Mo_picturesNow_4 l0 l1 0 0 σ
set_option maxRecDepth 100000 in
theorem E_Mo_picturesNow_0 (l0 l1 : Int) (σ : mS) : mblk c_Mo_picturesNow K_Mo_picturesNow (C_Mo_picturesNow) (F_Mo_picturesNow_0) (fun v σ => some (v, σ)) 34 0 (mInit 4 [(3, l0), (1, l1)]) [] σ = M_Mo_picturesNow l0 l1 σ := rfl
def C_Mo_hiddenNow : Nat → List mV → mS → Option (Int × mS) := fun k as σ => match k, as with
  | 71, [(3, a0), (1, a1), (1, a2)] => M_Mo_thereOf a0 a1 a2 σ
  | _, _ => none
def K_Mo_hiddenNow : Nat → Bool := fun i => i.beq 4 || i.beq 30
def F_Mo_hiddenNow_30 : Nat → List mV → List mV → mS → Option (((Int × Int × mS) ⊕ (Int × mS))) := fun i L st σ => match i, L, st with
  | 30, [(3, l0), (1, l1), (1, l2), (1, l3)], [] => some (.inl (l2, l3, σ))
  | _, _, _ => none
def B_Mo_hiddenNow_30 (l0 l1 l2 l3 : Int) (σ : mS) : Option (((Int × Int × mS) ⊕ (Int × mS))) :=
  if 200 < l3 then 
    some (.inr (l2, σ))
  else
    (gf 11 35 l0 σ).bind fun v1 =>
    (ld 100 v1 l3 σ).bind fun v2 =>
    if v2 = l1 then 
      (gf 11 36 l0 σ).bind fun v3 =>
      (ld 100 v3 l3 σ).bind fun v4 =>
      some (.inl (iand l2 (ixor (ishl 1 v4) (-1)), w32 (l3 + 1), σ))
    else
      some (.inl (l2, w32 (l3 + 1), σ))
set_option maxRecDepth 100000 in
theorem E_Mo_hiddenNow_30 (l0 l1 l2 l3 : Int) (σ : mS) : mblk c_Mo_hiddenNow K_Mo_hiddenNow (C_Mo_hiddenNow) (F_Mo_hiddenNow_30) (fun v σ => some (.inr (v, σ))) 55 30 ([(3, l0), (1, l1), (1, l2), (1, l3)]) [] σ = B_Mo_hiddenNow_30 l0 l1 l2 l3 σ := rfl
def M_Mo_hiddenNow_30 (l0 l1 l2 l3 : Int) (σ : mS) : Option (Int × mS) := miter (fun s : Int × Int × mS => B_Mo_hiddenNow_30 l0 l1 s.1 s.2.1 s.2.2) mN (l2, l3, σ)
def F_Mo_hiddenNow_4 : Nat → List mV → List mV → mS → Option (((Int × Int × mS) ⊕ (Int × mS))) := fun i L st σ => match i, L, st with
  | 4, [(3, l0), (1, l1), (1, l2), (1, l3)], [] => some (.inl (l2, l3, σ))
  | 30, [(3, l0), (1, l1), (1, l2), (1, l3)], [] => (M_Mo_hiddenNow_30 l0 l1 l2 l3 σ).bind fun z => some (.inr z)
  | _, _, _ => none
def B_Mo_hiddenNow_4 (l0 l1 l2 l3 : Int) (σ : mS) : Option (((Int × Int × mS) ⊕ (Int × mS))) :=
  (gf 11 3 l0 σ).bind fun v1 =>
  (ld 100 v1 (w32 (128 + l1)) σ).bind fun v2 =>
  (gf 11 3 l0 σ).bind fun v3 =>
  (ld 100 v3 (w32 (136 + l1)) σ).bind fun v4 =>
  (gk 11 l0 σ).bind fun _ => (M_Mo_thereOf l0 v2 v4 σ).bind fun p5 =>
  if l3 < p5.1 then 
    some (.inl (ior l2 (ishl 1 l3), w32 (l3 + 1), p5.2))
  else
    (M_Mo_hiddenNow_30 l0 l1 l2 0 p5.2).bind fun z => some (.inr z)
set_option maxRecDepth 100000 in
theorem E_Mo_hiddenNow_4 (l0 l1 l2 l3 : Int) (σ : mS) : mblk c_Mo_hiddenNow K_Mo_hiddenNow (C_Mo_hiddenNow) (F_Mo_hiddenNow_4) (fun v σ => some (.inr (v, σ))) 55 4 ([(3, l0), (1, l1), (1, l2), (1, l3)]) [] σ = B_Mo_hiddenNow_4 l0 l1 l2 l3 σ := rfl
def M_Mo_hiddenNow_4 (l0 l1 l2 l3 : Int) (σ : mS) : Option (Int × mS) := miter (fun s : Int × Int × mS => B_Mo_hiddenNow_4 l0 l1 s.1 s.2.1 s.2.2) mN (l2, l3, σ)
def F_Mo_hiddenNow_0 : Nat → List mV → List mV → mS → Option (Int × mS) := fun i L st σ => match i, L, st with
  | 4, [(3, l0), (1, l1), (1, l2), (1, l3)], [] => M_Mo_hiddenNow_4 l0 l1 l2 l3 σ
  | _, _, _ => none
def M_Mo_hiddenNow (l0 l1 : Int) (σ : mS) : Option (Int × mS) :=
  M_Mo_hiddenNow_4 l0 l1 0 0 σ
set_option maxRecDepth 100000 in
theorem E_Mo_hiddenNow_0 (l0 l1 : Int) (σ : mS) : mblk c_Mo_hiddenNow K_Mo_hiddenNow (C_Mo_hiddenNow) (F_Mo_hiddenNow_0) (fun v σ => some (v, σ)) 55 0 (mInit 4 [(3, l0), (1, l1)]) [] σ = M_Mo_hiddenNow l0 l1 σ := rfl
def C_Mo_seen : Nat → List mV → mS → Option (Int × mS) := fun k as σ => match k, as with
  | 64, [(3, a0), (1, a1)] => M_Mo_isThing a0 a1 σ
  | 121, [(3, a0)] => M_Mo_looksNow a0 σ
  | 122, [(3, a0), (1, a1)] => M_Mo_seenNow a0 a1 σ
  | _, _ => none
def K_Mo_seen : Nat → Bool := fun i => false
def F_Mo_seen_0 : Nat → List mV → List mV → mS → Option (Int × mS) := fun i L st σ => match i, L, st with
  | _, _, _ => none
def M_Mo_seen (l0 l1 : Int) (σ : mS) : Option (Int × mS) :=
  (gk 11 l0 σ).bind fun _ => (M_Mo_isThing l0 l1 σ).bind fun p1 =>
  if p1.1 = 0 then 
    some ((-1), p1.2)
  else
    (gk 11 l0 p1.2).bind fun _ => (M_Mo_looksNow l0 p1.2).bind fun p2 =>
    (gk 11 l0 p2.2).bind fun _ => (M_Mo_seenNow l0 l1 p2.2).bind fun p3 =>
    some (p3.1, p3.2)
set_option maxRecDepth 100000 in
theorem E_Mo_seen_0 (l0 l1 : Int) (σ : mS) : mblk c_Mo_seen K_Mo_seen (C_Mo_seen) (F_Mo_seen_0) (fun v σ => some (v, σ)) 13 0 (mInit 2 [(3, l0), (1, l1)]) [] σ = M_Mo_seen l0 l1 σ := rfl
def C_Mo_pictures : Nat → List mV → mS → Option (Int × mS) := fun k as σ => match k, as with
  | 64, [(3, a0), (1, a1)] => M_Mo_isThing a0 a1 σ
  | 121, [(3, a0)] => M_Mo_looksNow a0 σ
  | 123, [(3, a0), (1, a1)] => M_Mo_picturesNow a0 a1 σ
  | _, _ => none
def K_Mo_pictures : Nat → Bool := fun i => false
def F_Mo_pictures_0 : Nat → List mV → List mV → mS → Option (Int × mS) := fun i L st σ => match i, L, st with
  | _, _, _ => none
def M_Mo_pictures (l0 l1 : Int) (σ : mS) : Option (Int × mS) :=
  (gk 11 l0 σ).bind fun _ => (M_Mo_isThing l0 l1 σ).bind fun p1 =>
  if p1.1 = 0 then 
    some ((-1), p1.2)
  else
    (gk 11 l0 p1.2).bind fun _ => (M_Mo_looksNow l0 p1.2).bind fun p2 =>
    (gk 11 l0 p2.2).bind fun _ => (M_Mo_picturesNow l0 l1 p2.2).bind fun p3 =>
    some (p3.1, p3.2)
set_option maxRecDepth 100000 in
theorem E_Mo_pictures_0 (l0 l1 : Int) (σ : mS) : mblk c_Mo_pictures K_Mo_pictures (C_Mo_pictures) (F_Mo_pictures_0) (fun v σ => some (v, σ)) 13 0 (mInit 2 [(3, l0), (1, l1)]) [] σ = M_Mo_pictures l0 l1 σ := rfl
def C_Mo_picture : Nat → List mV → mS → Option (Int × mS) := fun k as σ => match k, as with
  | 52, [(1, a0), (1, a1), (1, a2)] => M_Mo_lies a0 a1 a2 σ
  | 64, [(3, a0), (1, a1)] => M_Mo_isThing a0 a1 σ
  | 121, [(3, a0)] => M_Mo_looksNow a0 σ
  | _, _ => none
def K_Mo_picture : Nat → Bool := fun i => i.beq 19 || i.beq 38 || i.beq 40 || i.beq 57 || i.beq 64 || i.beq 75 || i.beq 96 || i.beq 112
def F_Mo_picture_112 : Nat → List mV → List mV → mS → Option (Int × mS) := fun i L st σ => match i, L, st with
  | _, _, _ => none
def M_Mo_picture_112 (l0 l3 l4 l6 l7 l8 : Int) (σ : mS) : Option (Int × mS) :=
  if l3 = 2 then 
    (gf 11 36 l0 σ).bind fun v1 =>
    (ld 100 v1 (w32 (l6 + (-1))) σ).bind fun v2 =>
    (gf 11 36 l0 σ).bind fun v3 =>
    (ld 100 v3 l4 σ).bind fun v4 =>
    if v4 < v2 then 
      some (1, σ)
    else
      (gf 11 36 l0 σ).bind fun v5 =>
      (ld 100 v5 (w32 (l6 + (-1))) σ).bind fun v6 =>
      (gf 11 36 l0 σ).bind fun v7 =>
      (ld 100 v7 l4 σ).bind fun v8 =>
      if v6 < v8 then 
        some (2, σ)
      else
        some (0, σ)
  else
    if l3 = 0 then 
      some (w32 (l4 - 100), σ)
    else
      if l3 = 1 then 
        some (w32 ((w32 (l6 + (-1))) - 100), σ)
      else
        if l3 = 3 then 
          some (l7, σ)
        else
          some (l8, σ)
set_option maxRecDepth 100000 in
theorem E_Mo_picture_112 (l0 l3 l4 l6 l7 l8 : Int) (σ : mS) : mblk c_Mo_picture K_Mo_picture (C_Mo_picture) (F_Mo_picture_112) (fun v σ => some (v, σ)) 161 112 ([(3, l0), (0, 0), (0, 0), (1, l3), (1, l4), (0, 0), (1, l6), (1, l7), (1, l8)]) [] σ = M_Mo_picture_112 l0 l3 l4 l6 l7 l8 σ := rfl
def F_Mo_picture_96 : Nat → List mV → List mV → mS → Option (((Int × Int × Int × mS) ⊕ (Int × mS))) := fun i L st σ => match i, L, st with
  | 75, [(3, l0), (1, l1), _, (1, l3), (1, l4), _, (1, l6), (1, l7), (1, l8)], [] => some (.inl (l6, l7, l8, σ))
  | _, _, _ => none
def M_Mo_picture_96 (l0 l1 l3 l4 l6 l8 s0 : Int) (σ : mS) : Option (((Int × Int × Int × mS) ⊕ (Int × mS))) :=
  (gf 11 36 l0 σ).bind fun v1 =>
  (ld 100 v1 l6 σ).bind fun v2 =>
  if l8 < v2 then 
    (gf 11 36 l0 σ).bind fun v3 =>
    (ld 100 v3 l6 σ).bind fun v4 =>
    some (.inl (w32 (l6 + 1), s0, v4, σ))
  else
    some (.inl (w32 (l6 + 1), s0, l8, σ))
set_option maxRecDepth 100000 in
theorem E_Mo_picture_96 (l0 l1 l3 l4 l6 l8 s0 : Int) (σ : mS) : mblk c_Mo_picture K_Mo_picture (C_Mo_picture) (F_Mo_picture_96) (fun v σ => some (.inr (v, σ))) 161 96 ([(3, l0), (1, l1), (0, 0), (1, l3), (1, l4), (0, 0), (1, l6), (0, 0), (1, l8)]) [(1, s0)] σ = M_Mo_picture_96 l0 l1 l3 l4 l6 l8 s0 σ := rfl
def F_Mo_picture_75 : Nat → List mV → List mV → mS → Option (((Int × Int × Int × mS) ⊕ (Int × mS))) := fun i L st σ => match i, L, st with
  | 96, [(3, l0), (1, l1), _, (1, l3), (1, l4), _, (1, l6), _, (1, l8)], [(1, s0)] => M_Mo_picture_96 l0 l1 l3 l4 l6 l8 s0 σ
  | 112, [(3, l0), _, _, (1, l3), (1, l4), _, (1, l6), (1, l7), (1, l8)], [] => (M_Mo_picture_112 l0 l3 l4 l6 l7 l8 σ).bind fun z => some (.inr z)
  | _, _, _ => none
def B_Mo_picture_75 (l0 l1 l3 l4 l6 l7 l8 : Int) (σ : mS) : Option (((Int × Int × Int × mS) ⊕ (Int × mS))) :=
  if 200 < l6 then 
    (M_Mo_picture_112 l0 l3 l4 l6 l7 l8 σ).bind fun z => some (.inr z)
  else
    (gf 11 35 l0 σ).bind fun v1 =>
    (ld 100 v1 l6 σ).bind fun v2 =>
    if v2 = l1 then 
      (gf 11 36 l0 σ).bind fun v3 =>
      (ld 100 v3 l6 σ).bind fun v4 =>
      if v4 < l7 then 
        (gf 11 36 l0 σ).bind fun v5 =>
        (ld 100 v5 l6 σ).bind fun v6 =>
        M_Mo_picture_96 l0 l1 l3 l4 l6 l8 v6 σ
      else
        M_Mo_picture_96 l0 l1 l3 l4 l6 l8 l7 σ
    else
      (M_Mo_picture_112 l0 l3 l4 l6 l7 l8 σ).bind fun z => some (.inr z)
set_option maxRecDepth 100000 in
theorem E_Mo_picture_75 (l0 l1 l3 l4 l6 l7 l8 : Int) (σ : mS) : mblk c_Mo_picture K_Mo_picture (C_Mo_picture) (F_Mo_picture_75) (fun v σ => some (.inr (v, σ))) 161 75 ([(3, l0), (1, l1), (0, 0), (1, l3), (1, l4), (0, 0), (1, l6), (1, l7), (1, l8)]) [] σ = B_Mo_picture_75 l0 l1 l3 l4 l6 l7 l8 σ := rfl
def M_Mo_picture_75 (l0 l1 l3 l4 l6 l7 l8 : Int) (σ : mS) : Option (Int × mS) := miter (fun s : Int × Int × Int × mS => B_Mo_picture_75 l0 l1 l3 l4 s.1 s.2.1 s.2.2.1 s.2.2.2) mN (l6, l7, l8, σ)
def F_Mo_picture_64 : Nat → List mV → List mV → mS → Option (Int × mS) := fun i L st σ => match i, L, st with
  | 75, [(3, l0), (1, l1), _, (1, l3), (1, l4), _, (1, l6), (1, l7), (1, l8)], [] => M_Mo_picture_75 l0 l1 l3 l4 l6 l7 l8 σ
  | _, _, _ => none
def M_Mo_picture_64 (l0 l1 l3 l4 : Int) (σ : mS) : Option (Int × mS) :=
  if 200 < l4 then 
    some ((-1000000), σ)
  else
    M_Mo_picture_75 l0 l1 l3 l4 l4 32 (-1) σ
set_option maxRecDepth 100000 in
theorem E_Mo_picture_64 (l0 l1 l3 l4 : Int) (σ : mS) : mblk c_Mo_picture K_Mo_picture (C_Mo_picture) (F_Mo_picture_64) (fun v σ => some (v, σ)) 161 64 ([(3, l0), (1, l1), (0, 0), (1, l3), (1, l4), (0, 0), (0, 0), (0, 0), (0, 0)]) [] σ = M_Mo_picture_64 l0 l1 l3 l4 σ := rfl
def F_Mo_picture_57 : Nat → List mV → List mV → mS → Option (((Int × Int × mS) ⊕ (Int × mS))) := fun i L st σ => match i, L, st with
  | 19, [(3, l0), (1, l1), _, (1, l3), (1, l4), (1, l5), _, _, _], [] => some (.inl (l4, l5, σ))
  | _, _, _ => none
def M_Mo_picture_57 (l0 l1 l3 l4 s0 : Int) (σ : mS) : Option (((Int × Int × mS) ⊕ (Int × mS))) :=
  some (.inl (w32 (l4 + 1), w32 (s0 - 1), σ))
set_option maxRecDepth 100000 in
theorem E_Mo_picture_57 (l0 l1 l3 l4 s0 : Int) (σ : mS) : mblk c_Mo_picture K_Mo_picture (C_Mo_picture) (F_Mo_picture_57) (fun v σ => some (.inr (v, σ))) 161 57 ([(3, l0), (1, l1), (0, 0), (1, l3), (1, l4), (0, 0), (0, 0), (0, 0), (0, 0)]) [(1, s0)] σ = M_Mo_picture_57 l0 l1 l3 l4 s0 σ := rfl
def F_Mo_picture_40 : Nat → List mV → List mV → mS → Option (((Int × Int × mS) ⊕ (Int × mS))) := fun i L st σ => match i, L, st with
  | 19, [(3, l0), (1, l1), _, (1, l3), (1, l4), (1, l5), _, _, _], [] => some (.inl (l4, l5, σ))
  | 57, [(3, l0), (1, l1), _, (1, l3), (1, l4), _, _, _, _], [(1, s0)] => M_Mo_picture_57 l0 l1 l3 l4 s0 σ
  | _, _, _ => none
def M_Mo_picture_40 (l0 l1 l3 l4 l5 : Int) (σ : mS) : Option (((Int × Int × mS) ⊕ (Int × mS))) :=
  (gf 11 35 l0 σ).bind fun v1 =>
  (ld 100 v1 l4 σ).bind fun v2 =>
  if v2 = l1 then 
    if l4 = 0 then 
      M_Mo_picture_57 l0 l1 l3 l4 l5 σ
    else
      (gf 11 35 l0 σ).bind fun v3 =>
      (ld 100 v3 (w32 (l4 - 1)) σ).bind fun v4 =>
      if v4 = l1 then 
        some (.inl (w32 (l4 + 1), w32 (l5 - 0), σ))
      else
        M_Mo_picture_57 l0 l1 l3 l4 l5 σ
  else
    some (.inl (w32 (l4 + 1), w32 (l5 - 0), σ))
set_option maxRecDepth 100000 in
theorem E_Mo_picture_40 (l0 l1 l3 l4 l5 : Int) (σ : mS) : mblk c_Mo_picture K_Mo_picture (C_Mo_picture) (F_Mo_picture_40) (fun v σ => some (.inr (v, σ))) 161 40 ([(3, l0), (1, l1), (0, 0), (1, l3), (1, l4), (1, l5), (0, 0), (0, 0), (0, 0)]) [] σ = M_Mo_picture_40 l0 l1 l3 l4 l5 σ := rfl
def F_Mo_picture_38 : Nat → List mV → List mV → mS → Option (((Int × Int × mS) ⊕ (Int × mS))) := fun i L st σ => match i, L, st with
  | 40, [(3, l0), (1, l1), _, (1, l3), (1, l4), (1, l5), _, _, _], [] => M_Mo_picture_40 l0 l1 l3 l4 l5 σ
  | 64, [(3, l0), (1, l1), _, (1, l3), (1, l4), _, _, _, _], [] => (M_Mo_picture_64 l0 l1 l3 l4 σ).bind fun z => some (.inr z)
  | _, _, _ => none
def M_Mo_picture_38 (l0 l1 l3 l4 l5 : Int) (σ : mS) : Option (((Int × Int × mS) ⊕ (Int × mS))) :=
  if 0 < l5 then 
    M_Mo_picture_40 l0 l1 l3 l4 l5 σ
  else
    (M_Mo_picture_64 l0 l1 l3 l4 σ).bind fun z => some (.inr z)
set_option maxRecDepth 100000 in
theorem E_Mo_picture_38 (l0 l1 l3 l4 l5 : Int) (σ : mS) : mblk c_Mo_picture K_Mo_picture (C_Mo_picture) (F_Mo_picture_38) (fun v σ => some (.inr (v, σ))) 161 38 ([(3, l0), (1, l1), (0, 0), (1, l3), (1, l4), (1, l5), (0, 0), (0, 0), (0, 0)]) [] σ = M_Mo_picture_38 l0 l1 l3 l4 l5 σ := rfl
def F_Mo_picture_19 : Nat → List mV → List mV → mS → Option (((Int × Int × mS) ⊕ (Int × mS))) := fun i L st σ => match i, L, st with
  | 38, [(3, l0), (1, l1), _, (1, l3), (1, l4), (1, l5), _, _, _], [] => M_Mo_picture_38 l0 l1 l3 l4 l5 σ
  | 40, [(3, l0), (1, l1), _, (1, l3), (1, l4), (1, l5), _, _, _], [] => M_Mo_picture_40 l0 l1 l3 l4 l5 σ
  | 64, [(3, l0), (1, l1), _, (1, l3), (1, l4), _, _, _, _], [] => (M_Mo_picture_64 l0 l1 l3 l4 σ).bind fun z => some (.inr z)
  | _, _, _ => none
def B_Mo_picture_19 (l0 l1 l3 l4 l5 : Int) (σ : mS) : Option (((Int × Int × mS) ⊕ (Int × mS))) :=
  if 200 < l4 then 
    (M_Mo_picture_64 l0 l1 l3 l4 σ).bind fun z => some (.inr z)
  else
    (gf 11 35 l0 σ).bind fun v1 =>
    (ld 100 v1 l4 σ).bind fun v2 =>
    if v2 = l1 then 
      if 0 < l4 then 
        (gf 11 35 l0 σ).bind fun v3 =>
        (ld 100 v3 (w32 (l4 - 1)) σ).bind fun v4 =>
        if v4 = l1 then 
          M_Mo_picture_40 l0 l1 l3 l4 l5 σ
        else
          M_Mo_picture_38 l0 l1 l3 l4 l5 σ
      else
        M_Mo_picture_38 l0 l1 l3 l4 l5 σ
    else
      M_Mo_picture_40 l0 l1 l3 l4 l5 σ
set_option maxRecDepth 100000 in
theorem E_Mo_picture_19 (l0 l1 l3 l4 l5 : Int) (σ : mS) : mblk c_Mo_picture K_Mo_picture (C_Mo_picture) (F_Mo_picture_19) (fun v σ => some (.inr (v, σ))) 161 19 ([(3, l0), (1, l1), (0, 0), (1, l3), (1, l4), (1, l5), (0, 0), (0, 0), (0, 0)]) [] σ = B_Mo_picture_19 l0 l1 l3 l4 l5 σ := rfl
def M_Mo_picture_19 (l0 l1 l3 l4 l5 : Int) (σ : mS) : Option (Int × mS) := miter (fun s : Int × Int × mS => B_Mo_picture_19 l0 l1 l3 s.1 s.2.1 s.2.2) mN (l4, l5, σ)
def F_Mo_picture_0 : Nat → List mV → List mV → mS → Option (Int × mS) := fun i L st σ => match i, L, st with
  | 19, [(3, l0), (1, l1), _, (1, l3), (1, l4), (1, l5), _, _, _], [] => M_Mo_picture_19 l0 l1 l3 l4 l5 σ
  | _, _, _ => none
def M_Mo_picture (l0 l1 l2 l3 : Int) (σ : mS) : Option (Int × mS) :=
  (gk 11 l0 σ).bind fun _ => (M_Mo_isThing l0 l1 σ).bind fun p1 =>
  if p1.1 = 0 then 
    some ((-1000000), p1.2)
  else
    (M_Mo_lies l3 0 4 p1.2).bind fun p2 =>
    if p2.1 = 0 then 
      some ((-1000000), p2.2)
    else
      if l2 < 0 then 
        some ((-1000000), p2.2)
      else
        (gk 11 l0 p2.2).bind fun _ => (M_Mo_looksNow l0 p2.2).bind fun p3 =>
        M_Mo_picture_19 l0 l1 l3 0 l2 p3.2
set_option maxRecDepth 100000 in
theorem E_Mo_picture_0 (l0 l1 l2 l3 : Int) (σ : mS) : mblk c_Mo_picture K_Mo_picture (C_Mo_picture) (F_Mo_picture_0) (fun v σ => some (v, σ)) 161 0 (mInit 9 [(3, l0), (1, l1), (1, l2), (1, l3)]) [] σ = M_Mo_picture l0 l1 l2 l3 σ := rfl
def C_Mo_hidden : Nat → List mV → mS → Option (Int × mS) := fun k as σ => match k, as with
  | 64, [(3, a0), (1, a1)] => M_Mo_isThing a0 a1 σ
  | 121, [(3, a0)] => M_Mo_looksNow a0 σ
  | 124, [(3, a0), (1, a1)] => M_Mo_hiddenNow a0 a1 σ
  | _, _ => none
def K_Mo_hidden : Nat → Bool := fun i => false
def F_Mo_hidden_0 : Nat → List mV → List mV → mS → Option (Int × mS) := fun i L st σ => match i, L, st with
  | _, _, _ => none
def M_Mo_hidden (l0 l1 : Int) (σ : mS) : Option (Int × mS) :=
  (gk 11 l0 σ).bind fun _ => (M_Mo_isThing l0 l1 σ).bind fun p1 =>
  if p1.1 = 0 then 
    some ((-1), p1.2)
  else
    (gk 11 l0 p1.2).bind fun _ => (M_Mo_looksNow l0 p1.2).bind fun p2 =>
    (gk 11 l0 p2.2).bind fun _ => (M_Mo_hiddenNow l0 l1 p2.2).bind fun p3 =>
    some (p3.1, p3.2)
set_option maxRecDepth 100000 in
theorem E_Mo_hidden_0 (l0 l1 : Int) (σ : mS) : mblk c_Mo_hidden K_Mo_hidden (C_Mo_hidden) (F_Mo_hidden_0) (fun v σ => some (v, σ)) 13 0 (mInit 2 [(3, l0), (1, l1)]) [] σ = M_Mo_hidden l0 l1 σ := rfl
def C_Mo_water : Nat → List mV → mS → Option (Int × mS) := fun k as σ => match k, as with
  | 52, [(1, a0), (1, a1), (1, a2)] => M_Mo_lies a0 a1 a2 σ
  | 117, [(3, a0), (1, a1)] => M_Mo_goesNow a0 a1 σ
  | _, _ => none
def K_Mo_water : Nat → Bool := fun i => i.beq 15 || i.beq 46 || i.beq 63
def F_Mo_water_63 : Nat → List mV → List mV → mS → Option (((Int × Int × mS) ⊕ (Int × mS))) := fun i L st σ => match i, L, st with
  | 63, [(3, l0), _, _, _, _, (1, l5), (1, l6)], [] => some (.inl (l5, l6, σ))
  | _, _, _ => none
def B_Mo_water_63 (l0 l5 l6 : Int) (σ : mS) : Option (((Int × Int × mS) ⊕ (Int × mS))) :=
  (gf 11 28 l0 σ).bind fun v1 =>
  if v1 < l6 then 
    some (.inr (l5, σ))
  else
    (gf 11 26 l0 σ).bind fun v2 =>
    (ld 100 v2 l6 σ).bind fun v3 =>
    (gf 11 26 l0 σ).bind fun v4 =>
    (ld 100 v4 l5 σ).bind fun v5 =>
    if v3 < v5 then 
      some (.inl (l6, w32 (l6 + 1), σ))
    else
      some (.inl (l5, w32 (l6 + 1), σ))
set_option maxRecDepth 100000 in
theorem E_Mo_water_63 (l0 l5 l6 : Int) (σ : mS) : mblk c_Mo_water K_Mo_water (C_Mo_water) (F_Mo_water_63) (fun v σ => some (.inr (v, σ))) 83 63 ([(3, l0), (0, 0), (0, 0), (0, 0), (0, 0), (1, l5), (1, l6)]) [] σ = B_Mo_water_63 l0 l5 l6 σ := rfl
def M_Mo_water_63 (l0 l5 l6 : Int) (σ : mS) : Option (Int × mS) := miter (fun s : Int × Int × mS => B_Mo_water_63 l0 s.1 s.2.1 s.2.2) mN (l5, l6, σ)
def F_Mo_water_46 : Nat → List mV → List mV → mS → Option (Int × mS) := fun i L st σ => match i, L, st with
  | _, _, _ => none
def M_Mo_water_46 (l1 l3 l4 : Int) (σ : mS) : Option (Int × mS) :=
  if l1 = 1 then 
    some (l3, σ)
  else
    some (l4, σ)
set_option maxRecDepth 100000 in
theorem E_Mo_water_46 (l1 l3 l4 : Int) (σ : mS) : mblk c_Mo_water K_Mo_water (C_Mo_water) (F_Mo_water_46) (fun v σ => some (v, σ)) 83 46 ([(0, 0), (1, l1), (0, 0), (1, l3), (1, l4), (0, 0), (0, 0)]) [] σ = M_Mo_water_46 l1 l3 l4 σ := rfl
def F_Mo_water_15 : Nat → List mV → List mV → mS → Option (((Int × Int × Int × Int × mS) ⊕ (Int × mS))) := fun i L st σ => match i, L, st with
  | 15, [(3, l0), (1, l1), (1, l2), (1, l3), (1, l4), (1, l5), _], [] => some (.inl (l2, l3, l4, l5, σ))
  | 46, [_, (1, l1), _, (1, l3), (1, l4), _, _], [] => (M_Mo_water_46 l1 l3 l4 σ).bind fun z => some (.inr z)
  | 63, [(3, l0), _, _, _, _, (1, l5), (1, l6)], [] => (M_Mo_water_63 l0 l5 l6 σ).bind fun z => some (.inr z)
  | _, _, _ => none
def B_Mo_water_15 (l0 l1 l2 l3 l4 l5 : Int) (σ : mS) : Option (((Int × Int × Int × Int × mS) ⊕ (Int × mS))) :=
  if l5 < 0 then 
    (gk 11 l0 σ).bind fun _ => (M_Mo_goesNow l0 l5 σ).bind fun p1 =>
    (gf 11 27 l0 p1.2).bind fun v2 =>
    if v2 = 2 then 
      if l4 = (-1000000) then 
        some (.inl (w32 (l2 + 1), l5, l5, w32 (l5 + 1), p1.2))
      else
        some (.inl (w32 (l2 + 1), l5, l4, w32 (l5 + 1), p1.2))
    else
      some (.inl (l2, l3, l4, w32 (l5 + 1), p1.2))
  else
    if l1 = 0 then 
      some (.inr (l2, σ))
    else
      if l2 = 0 then 
        (M_Mo_water_46 l1 l3 l4 σ).bind fun z => some (.inr z)
      else
        if l1 < 3 then 
          (M_Mo_water_46 l1 l3 l4 σ).bind fun z => some (.inr z)
        else
          (gk 11 l0 σ).bind fun _ => (M_Mo_goesNow l0 l3 σ).bind fun p3 =>
          (gf 11 3 l0 p3.2).bind fun v4 =>
          (ld 100 v4 182 p3.2).bind fun v5 =>
          (M_Mo_water_63 l0 v5 v5 p3.2).bind fun z => some (.inr z)
set_option maxRecDepth 100000 in
theorem E_Mo_water_15 (l0 l1 l2 l3 l4 l5 : Int) (σ : mS) : mblk c_Mo_water K_Mo_water (C_Mo_water) (F_Mo_water_15) (fun v σ => some (.inr (v, σ))) 83 15 ([(3, l0), (1, l1), (1, l2), (1, l3), (1, l4), (1, l5), (0, 0)]) [] σ = B_Mo_water_15 l0 l1 l2 l3 l4 l5 σ := rfl
def M_Mo_water_15 (l0 l1 l2 l3 l4 l5 : Int) (σ : mS) : Option (Int × mS) := miter (fun s : Int × Int × Int × Int × mS => B_Mo_water_15 l0 l1 s.1 s.2.1 s.2.2.1 s.2.2.2.1 s.2.2.2.2) mN (l2, l3, l4, l5, σ)
def F_Mo_water_0 : Nat → List mV → List mV → mS → Option (Int × mS) := fun i L st σ => match i, L, st with
  | 15, [(3, l0), (1, l1), (1, l2), (1, l3), (1, l4), (1, l5), _], [] => M_Mo_water_15 l0 l1 l2 l3 l4 l5 σ
  | _, _, _ => none
def M_Mo_water (l0 l1 : Int) (σ : mS) : Option (Int × mS) :=
  (M_Mo_lies l1 0 3 σ).bind fun p1 =>
  if p1.1 = 0 then 
    some ((-1000000), p1.2)
  else
    M_Mo_water_15 l0 l1 0 (-1000000) (-1000000) (-100) p1.2
set_option maxRecDepth 100000 in
theorem E_Mo_water_0 (l0 l1 : Int) (σ : mS) : mblk c_Mo_water K_Mo_water (C_Mo_water) (F_Mo_water_0) (fun v σ => some (v, σ)) 83 0 (mInit 7 [(3, l0), (1, l1)]) [] σ = M_Mo_water l0 l1 σ := rfl
def C_Mo_horizon : Nat → List mV → mS → Option (Int × mS) := fun k as σ => match k, as with
  | 117, [(3, a0), (1, a1)] => M_Mo_goesNow a0 a1 σ
  | _, _ => none
def K_Mo_horizon : Nat → Bool := fun i => i.beq 2
def F_Mo_horizon_2 : Nat → List mV → List mV → mS → Option (((Int × mS) ⊕ (Int × mS))) := fun i L st σ => match i, L, st with
  | 2, [(3, l0), (1, l1)], [] => some (.inl (l1, σ))
  | _, _, _ => none
def B_Mo_horizon_2 (l0 l1 : Int) (σ : mS) : Option (((Int × mS) ⊕ (Int × mS))) :=
  if l1 < (-100) then 
    some (.inr ((-1000000), σ))
  else
    (gk 11 l0 σ).bind fun _ => (M_Mo_goesNow l0 l1 σ).bind fun p1 =>
    (gf 11 27 l0 p1.2).bind fun v2 =>
    if v2 = 0 then 
      some (.inr (l1, p1.2))
    else
      some (.inl (w32 (l1 + (-1)), p1.2))
set_option maxRecDepth 100000 in
theorem E_Mo_horizon_2 (l0 l1 : Int) (σ : mS) : mblk c_Mo_horizon K_Mo_horizon (C_Mo_horizon) (F_Mo_horizon_2) (fun v σ => some (.inr (v, σ))) 18 2 ([(3, l0), (1, l1)]) [] σ = B_Mo_horizon_2 l0 l1 σ := rfl
def M_Mo_horizon_2 (l0 l1 : Int) (σ : mS) : Option (Int × mS) := miter (fun s : Int × mS => B_Mo_horizon_2 l0 s.1 s.2) mN (l1, σ)
def F_Mo_horizon_0 : Nat → List mV → List mV → mS → Option (Int × mS) := fun i L st σ => match i, L, st with
  | 2, [(3, l0), (1, l1)], [] => M_Mo_horizon_2 l0 l1 σ
  | _, _, _ => none
def M_Mo_horizon (l0 : Int) (σ : mS) : Option (Int × mS) :=
  M_Mo_horizon_2 l0 100 σ
set_option maxRecDepth 100000 in
theorem E_Mo_horizon_0 (l0 : Int) (σ : mS) : mblk c_Mo_horizon K_Mo_horizon (C_Mo_horizon) (F_Mo_horizon_0) (fun v σ => some (v, σ)) 18 0 (mInit 2 [(3, l0)]) [] σ = M_Mo_horizon l0 σ := rfl
def C_Mo_aimAt : Nat → List mV → mS → Option (Int × mS) := fun k as σ => match k, as with
  | 116, [(3, a0), (1, a1), (1, a2), (1, a3), (1, a4), (1, a5), (1, a6)] => M_Mo_goes a0 a1 a2 a3 a4 a5 a6 σ
  | _, _ => none
def K_Mo_aimAt : Nat → Bool := fun i => i.beq 2
def F_Mo_aimAt_2 : Nat → List mV → List mV → mS → Option (((Int × mS) ⊕ (Int × mS))) := fun i L st σ => match i, L, st with
  | 2, [(3, l0), (1, l1), (1, l2), (1, l3), (1, l4)], [] => some (.inl (l4, σ))
  | _, _, _ => none
def B_Mo_aimAt_2 (l0 l1 l2 l3 l4 : Int) (σ : mS) : Option (((Int × mS) ⊕ (Int × mS))) :=
  if 100 < l4 then 
    some (.inr ((-1000000), σ))
  else
    (gf 11 3 l0 σ).bind fun v1 =>
    (ld 100 v1 180 σ).bind fun v2 =>
    (gf 11 3 l0 σ).bind fun v3 =>
    (ld 100 v3 183 σ).bind fun v4 =>
    (gk 11 l0 σ).bind fun _ => (M_Mo_goes l0 l4 v2 l3 v4 1 (-1) σ).bind fun p5 =>
    (gf 11 29 l0 p5.2).bind fun v6 =>
    if v6 = l1 then 
      (gf 11 30 l0 p5.2).bind fun v7 =>
      if v7 = l2 then 
        some (.inr (l4, p5.2))
      else
        some (.inl (w32 (l4 + 1), p5.2))
    else
      some (.inl (w32 (l4 + 1), p5.2))
set_option maxRecDepth 100000 in
theorem E_Mo_aimAt_2 (l0 l1 l2 l3 l4 : Int) (σ : mS) : mblk c_Mo_aimAt K_Mo_aimAt (C_Mo_aimAt) (F_Mo_aimAt_2) (fun v σ => some (.inr (v, σ))) 34 2 ([(3, l0), (1, l1), (1, l2), (1, l3), (1, l4)]) [] σ = B_Mo_aimAt_2 l0 l1 l2 l3 l4 σ := rfl
def M_Mo_aimAt_2 (l0 l1 l2 l3 l4 : Int) (σ : mS) : Option (Int × mS) := miter (fun s : Int × mS => B_Mo_aimAt_2 l0 l1 l2 l3 s.1 s.2) mN (l4, σ)
def F_Mo_aimAt_0 : Nat → List mV → List mV → mS → Option (Int × mS) := fun i L st σ => match i, L, st with
  | 2, [(3, l0), (1, l1), (1, l2), (1, l3), (1, l4)], [] => M_Mo_aimAt_2 l0 l1 l2 l3 l4 σ
  | _, _, _ => none
def M_Mo_aimAt (l0 l1 l2 l3 : Int) (σ : mS) : Option (Int × mS) :=
  M_Mo_aimAt_2 l0 l1 l2 l3 (-100) σ
set_option maxRecDepth 100000 in
theorem E_Mo_aimAt_0 (l0 l1 l2 l3 : Int) (σ : mS) : mblk c_Mo_aimAt K_Mo_aimAt (C_Mo_aimAt) (F_Mo_aimAt_0) (fun v σ => some (v, σ)) 34 0 (mInit 5 [(3, l0), (1, l1), (1, l2), (1, l3)]) [] σ = M_Mo_aimAt l0 l1 l2 l3 σ := rfl
def C_Mo_aim : Nat → List mV → mS → Option (Int × mS) := fun k as σ => match k, as with
  | 61, [(1, a0)] => M_Mo_isInch a0 σ
  | 64, [(3, a0), (1, a1)] => M_Mo_isThing a0 a1 σ
  | 131, [(3, a0), (1, a1), (1, a2), (1, a3)] => M_Mo_aimAt a0 a1 a2 a3 σ
  | _, _ => none
def K_Mo_aim : Nat → Bool := fun i => false
def F_Mo_aim_0 : Nat → List mV → List mV → mS → Option (Int × mS) := fun i L st σ => match i, L, st with
  | _, _, _ => none
def M_Mo_aim (l0 l1 l2 : Int) (σ : mS) : Option (Int × mS) :=
  (gk 11 l0 σ).bind fun _ => (M_Mo_isThing l0 l1 σ).bind fun p1 =>
  if p1.1 = 0 then 
    some ((-1000000), p1.2)
  else
    (M_Mo_isInch l2 p1.2).bind fun p2 =>
    if p2.1 = 0 then 
      some ((-1000000), p2.2)
    else
      (gf 11 3 l0 p2.2).bind fun v3 =>
      (ld 100 v3 181 p2.2).bind fun v4 =>
      (gk 11 l0 p2.2).bind fun _ => (M_Mo_aimAt l0 l1 l2 v4 p2.2).bind fun p5 =>
      some (p5.1, p5.2)
set_option maxRecDepth 100000 in
theorem E_Mo_aim_0 (l0 l1 l2 : Int) (σ : mS) : mblk c_Mo_aim K_Mo_aim (C_Mo_aim) (F_Mo_aim_0) (fun v σ => some (v, σ)) 19 0 (mInit 3 [(3, l0), (1, l1), (1, l2)]) [] σ = M_Mo_aim l0 l1 l2 σ := rfl
def C_Mo_loom : Nat → List mV → mS → Option (Int × mS) := fun k as σ => match k, as with
  | 131, [(3, a0), (1, a1), (1, a2), (1, a3)] => M_Mo_aimAt a0 a1 a2 a3 σ
  | 132, [(3, a0), (1, a1), (1, a2)] => M_Mo_aim a0 a1 a2 σ
  | _, _ => none
def K_Mo_loom : Nat → Bool := fun i => i.beq 15
def F_Mo_loom_15 : Nat → List mV → List mV → mS → Option (Int × mS) := fun i L st σ => match i, L, st with
  | _, _, _ => none
def M_Mo_loom_15 (l3 s0 : Int) (σ : mS) : Option (Int × mS) :=
  if s0 = (-1000000) then 
    some ((-1000000), σ)
  else
    some (w32 (l3 - s0), σ)
set_option maxRecDepth 100000 in
theorem E_Mo_loom_15 (l3 s0 : Int) (σ : mS) : mblk c_Mo_loom K_Mo_loom (C_Mo_loom) (F_Mo_loom_15) (fun v σ => some (v, σ)) 26 15 ([(0, 0), (0, 0), (0, 0), (1, l3), (0, 0)]) [(1, s0)] σ = M_Mo_loom_15 l3 s0 σ := rfl
def F_Mo_loom_0 : Nat → List mV → List mV → mS → Option (Int × mS) := fun i L st σ => match i, L, st with
  | 15, [_, _, _, (1, l3), _], [(1, s0)] => M_Mo_loom_15 l3 s0 σ
  | _, _, _ => none
def M_Mo_loom (l0 l1 l2 : Int) (σ : mS) : Option (Int × mS) :=
  (gk 11 l0 σ).bind fun _ => (M_Mo_aim l0 l1 l2 σ).bind fun p1 =>
  if p1.1 = (-1000000) then 
    M_Mo_loom_15 p1.1 (-1000000) p1.2
  else
    (gk 11 l0 p1.2).bind fun _ => (M_Mo_aimAt l0 l1 l2 0 p1.2).bind fun p2 =>
    M_Mo_loom_15 p1.1 p2.1 p2.2
set_option maxRecDepth 100000 in
theorem E_Mo_loom_0 (l0 l1 l2 : Int) (σ : mS) : mblk c_Mo_loom K_Mo_loom (C_Mo_loom) (F_Mo_loom_0) (fun v σ => some (v, σ)) 26 0 (mInit 5 [(3, l0), (1, l1), (1, l2)]) [] σ = M_Mo_loom l0 l1 l2 σ := rfl
def C_Mo_shade : Nat → List mV → mS → Option (Int × mS) := fun k as σ => match k, as with
  | 52, [(1, a0), (1, a1), (1, a2)] => M_Mo_lies a0 a1 a2 σ
  | 60, [(1, a0)] => M_Mo_isPlace a0 σ
  | 65, [(3, a0), (1, a1)] => M_Mo_riseOf a0 a1 σ
  | 117, [(3, a0), (1, a1)] => M_Mo_goesNow a0 a1 σ
  | _, _ => none
def K_Mo_shade : Nat → Bool := fun i => i.beq 9 || i.beq 44
def F_Mo_shade_44 : Nat → List mV → List mV → mS → Option (((Int × Int × mS) ⊕ (Int × mS))) := fun i L st σ => match i, L, st with
  | 9, [(3, l0), (1, l1), (1, l2), (1, l3)], [] => some (.inl (l2, l3, σ))
  | _, _, _ => none
def M_Mo_shade_44 (l0 l1 l3 : Int) (σ : mS) : Option (((Int × Int × mS) ⊕ (Int × mS))) :=
  (gf 11 26 l0 σ).bind fun v1 =>
  (ld 100 v1 l1 σ).bind fun v2 =>
  some (.inl (v2, w32 (l3 + 1), σ))
set_option maxRecDepth 100000 in
theorem E_Mo_shade_44 (l0 l1 l3 : Int) (σ : mS) : mblk c_Mo_shade K_Mo_shade (C_Mo_shade) (F_Mo_shade_44) (fun v σ => some (.inr (v, σ))) 56 44 ([(3, l0), (1, l1), (0, 0), (1, l3)]) [] σ = M_Mo_shade_44 l0 l1 l3 σ := rfl
def F_Mo_shade_9 : Nat → List mV → List mV → mS → Option (((Int × Int × mS) ⊕ (Int × mS))) := fun i L st σ => match i, L, st with
  | 9, [(3, l0), (1, l1), (1, l2), (1, l3)], [] => some (.inl (l2, l3, σ))
  | 44, [(3, l0), (1, l1), _, (1, l3)], [] => M_Mo_shade_44 l0 l1 l3 σ
  | _, _, _ => none
def B_Mo_shade_9 (l0 l1 l2 l3 : Int) (σ : mS) : Option (((Int × Int × mS) ⊕ (Int × mS))) :=
  if 100 < l3 then 
    some (.inr (l2, σ))
  else
    (gk 11 l0 σ).bind fun _ => (M_Mo_goesNow l0 l3 σ).bind fun p1 =>
    (gf 11 3 l0 p1.2).bind fun v2 =>
    (ld 100 v2 182 p1.2).bind fun v3 =>
    (gf 11 28 l0 p1.2).bind fun v4 =>
    (M_Mo_lies l1 v3 v4 p1.2).bind fun p5 =>
    if p5.1 = 0 then 
      some (.inl (l2, w32 (l3 + 1), p5.2))
    else
      (gf 11 26 l0 p5.2).bind fun v6 =>
      (ld 100 v6 l1 p5.2).bind fun v7 =>
      (gk 11 l0 p5.2).bind fun _ => (M_Mo_riseOf l0 l1 p5.2).bind fun p8 =>
      if v7 < (w32 (100 * p8.1)) then 
        some (.inl (l2, w32 (l3 + 1), p8.2))
      else
        if l2 = (-1000000) then 
          M_Mo_shade_44 l0 l1 l3 p8.2
        else
          (gf 11 26 l0 p8.2).bind fun v9 =>
          (ld 100 v9 l1 p8.2).bind fun v10 =>
          if v10 < l2 then 
            M_Mo_shade_44 l0 l1 l3 p8.2
          else
            some (.inl (l2, w32 (l3 + 1), p8.2))
set_option maxRecDepth 100000 in
theorem E_Mo_shade_9 (l0 l1 l2 l3 : Int) (σ : mS) : mblk c_Mo_shade K_Mo_shade (C_Mo_shade) (F_Mo_shade_9) (fun v σ => some (.inr (v, σ))) 56 9 ([(3, l0), (1, l1), (1, l2), (1, l3)]) [] σ = B_Mo_shade_9 l0 l1 l2 l3 σ := rfl
def M_Mo_shade_9 (l0 l1 l2 l3 : Int) (σ : mS) : Option (Int × mS) := miter (fun s : Int × Int × mS => B_Mo_shade_9 l0 l1 s.1 s.2.1 s.2.2) mN (l2, l3, σ)
def F_Mo_shade_0 : Nat → List mV → List mV → mS → Option (Int × mS) := fun i L st σ => match i, L, st with
  | 9, [(3, l0), (1, l1), (1, l2), (1, l3)], [] => M_Mo_shade_9 l0 l1 l2 l3 σ
  | _, _, _ => none
def M_Mo_shade (l0 l1 : Int) (σ : mS) : Option (Int × mS) :=
  (M_Mo_isPlace l1 σ).bind fun p1 =>
  if p1.1 = 0 then 
    some ((-1000000), p1.2)
  else
    M_Mo_shade_9 l0 l1 (-1000000) (-100) p1.2
set_option maxRecDepth 100000 in
theorem E_Mo_shade_0 (l0 l1 : Int) (σ : mS) : mblk c_Mo_shade K_Mo_shade (C_Mo_shade) (F_Mo_shade_0) (fun v σ => some (v, σ)) 56 0 (mInit 4 [(3, l0), (1, l1)]) [] σ = M_Mo_shade l0 l1 σ := rfl
def C_Mo_cross : Nat → List mV → mS → Option (Int × mS) := fun k as σ => match k, as with
  | 63, [(1, a0)] => M_Mo_isAngle a0 σ
  | 117, [(3, a0), (1, a1)] => M_Mo_goesNow a0 a1 σ
  | _, _ => none
def K_Mo_cross : Nat → Bool := fun i => i.beq 18 || i.beq 24 || i.beq 44 || i.beq 52
def F_Mo_cross_52 : Nat → List mV → List mV → mS → Option (((Int × mS) ⊕ (Int × mS))) := fun i L st σ => match i, L, st with
  | 52, [(3, l0), _, _, (1, l3), (1, l4)], [] => some (.inl (l4, σ))
  | _, _, _ => none
def B_Mo_cross_52 (l0 l3 l4 : Int) (σ : mS) : Option (((Int × mS) ⊕ (Int × mS))) :=
  if l3 < l4 then 
    some (.inr ((-1), σ))
  else
    (gf 11 28 l0 σ).bind fun v1 =>
    if v1 < l4 then 
      some (.inr ((-1), σ))
    else
      (gf 11 26 l0 σ).bind fun v2 =>
      (ld 100 v2 l4 σ).bind fun v3 =>
      (gf 11 37 l0 σ).bind fun v4 =>
      (ld 100 v4 l4 σ).bind fun v5 =>
      if v5 < v3 then 
        some (.inl (w32 (l4 + 1), σ))
      else
        some (.inr (l4, σ))
set_option maxRecDepth 100000 in
theorem E_Mo_cross_52 (l0 l3 l4 : Int) (σ : mS) : mblk c_Mo_cross K_Mo_cross (C_Mo_cross) (F_Mo_cross_52) (fun v σ => some (.inr (v, σ))) 75 52 ([(3, l0), (0, 0), (0, 0), (1, l3), (1, l4)]) [] σ = B_Mo_cross_52 l0 l3 l4 σ := rfl
def M_Mo_cross_52 (l0 l3 l4 : Int) (σ : mS) : Option (Int × mS) := miter (fun s : Int × mS => B_Mo_cross_52 l0 l3 s.1 s.2) mN (l4, σ)
def F_Mo_cross_44 : Nat → List mV → List mV → mS → Option (Int × mS) := fun i L st σ => match i, L, st with
  | 52, [(3, l0), _, _, (1, l3), (1, l4)], [] => M_Mo_cross_52 l0 l3 l4 σ
  | _, _, _ => none
def M_Mo_cross_44 (l0 l3 s1 s0 : Int) (σ : mS) : Option (Int × mS) :=
  (gk 11 s0 σ).bind fun _ => (M_Mo_goesNow s0 s1 σ).bind fun p1 =>
  (gf 11 3 l0 p1.2).bind fun v2 =>
  (ld 100 v2 182 p1.2).bind fun v3 =>
  M_Mo_cross_52 l0 l3 (w32 (v3 + 2)) p1.2
set_option maxRecDepth 100000 in
theorem E_Mo_cross_44 (l0 l3 s1 s0 : Int) (σ : mS) : mblk c_Mo_cross K_Mo_cross (C_Mo_cross) (F_Mo_cross_44) (fun v σ => some (v, σ)) 75 44 ([(3, l0), (0, 0), (0, 0), (1, l3), (0, 0)]) [(1, s1), (3, s0)] σ = M_Mo_cross_44 l0 l3 s1 s0 σ := rfl
def F_Mo_cross_24 : Nat → List mV → List mV → mS → Option (((Int × mS) ⊕ (Int × mS))) := fun i L st σ => match i, L, st with
  | 24, [(3, l0), (1, l1), (1, l2), (1, l3), (1, l4)], [] => some (.inl (l4, σ))
  | 44, [(3, l0), _, _, (1, l3), _], [(1, s1), (3, s0)] => (M_Mo_cross_44 l0 l3 s1 s0 σ).bind fun z => some (.inr z)
  | _, _, _ => none
def B_Mo_cross_24 (l0 l1 l2 l3 l4 : Int) (σ : mS) : Option (((Int × mS) ⊕ (Int × mS))) :=
  if l4 < 64 then 
    (gf 11 37 l0 σ).bind fun v1 =>
    (gf 11 26 l0 σ).bind fun v2 =>
    (ld 100 v2 l4 σ).bind fun v3 =>
    (sd 100 v1 l4 v3 σ).bind fun σ =>
    some (.inl (w32 (l4 + 1), σ))
  else
    if l1 < l2 then 
      (M_Mo_cross_44 l0 l3 l2 l0 σ).bind fun z => some (.inr z)
    else
      (M_Mo_cross_44 l0 l3 l1 l0 σ).bind fun z => some (.inr z)
set_option maxRecDepth 100000 in
theorem E_Mo_cross_24 (l0 l1 l2 l3 l4 : Int) (σ : mS) : mblk c_Mo_cross K_Mo_cross (C_Mo_cross) (F_Mo_cross_24) (fun v σ => some (.inr (v, σ))) 75 24 ([(3, l0), (1, l1), (1, l2), (1, l3), (1, l4)]) [] σ = B_Mo_cross_24 l0 l1 l2 l3 l4 σ := rfl
def M_Mo_cross_24 (l0 l1 l2 l3 l4 : Int) (σ : mS) : Option (Int × mS) := miter (fun s : Int × mS => B_Mo_cross_24 l0 l1 l2 l3 s.1 s.2) mN (l4, σ)
def F_Mo_cross_18 : Nat → List mV → List mV → mS → Option (Int × mS) := fun i L st σ => match i, L, st with
  | 24, [(3, l0), (1, l1), (1, l2), (1, l3), (1, l4)], [] => M_Mo_cross_24 l0 l1 l2 l3 l4 σ
  | _, _, _ => none
def M_Mo_cross_18 (l0 l1 l2 s1 s0 : Int) (σ : mS) : Option (Int × mS) :=
  (gk 11 s0 σ).bind fun _ => (M_Mo_goesNow s0 s1 σ).bind fun p1 =>
  (gf 11 28 l0 p1.2).bind fun v2 =>
  M_Mo_cross_24 l0 l1 l2 v2 0 p1.2
set_option maxRecDepth 100000 in
theorem E_Mo_cross_18 (l0 l1 l2 s1 s0 : Int) (σ : mS) : mblk c_Mo_cross K_Mo_cross (C_Mo_cross) (F_Mo_cross_18) (fun v σ => some (v, σ)) 75 18 ([(3, l0), (1, l1), (1, l2), (0, 0), (0, 0)]) [(1, s1), (3, s0)] σ = M_Mo_cross_18 l0 l1 l2 s1 s0 σ := rfl
def F_Mo_cross_0 : Nat → List mV → List mV → mS → Option (Int × mS) := fun i L st σ => match i, L, st with
  | 18, [(3, l0), (1, l1), (1, l2), _, _], [(1, s1), (3, s0)] => M_Mo_cross_18 l0 l1 l2 s1 s0 σ
  | _, _, _ => none
def M_Mo_cross (l0 l1 l2 : Int) (σ : mS) : Option (Int × mS) :=
  (M_Mo_isAngle l1 σ).bind fun p1 =>
  if p1.1 = 0 then 
    some ((-1), p1.2)
  else
    (M_Mo_isAngle l2 p1.2).bind fun p2 =>
    if p2.1 = 0 then 
      some ((-1), p2.2)
    else
      if l1 = l2 then 
        some ((-1), p2.2)
      else
        if l1 < l2 then 
          M_Mo_cross_18 l0 l1 l2 l1 l0 p2.2
        else
          M_Mo_cross_18 l0 l1 l2 l2 l0 p2.2
set_option maxRecDepth 100000 in
theorem E_Mo_cross_0 (l0 l1 l2 : Int) (σ : mS) : mblk c_Mo_cross K_Mo_cross (C_Mo_cross) (F_Mo_cross_0) (fun v σ => some (v, σ)) 75 0 (mInit 5 [(3, l0), (1, l1), (1, l2)]) [] σ = M_Mo_cross l0 l1 l2 σ := rfl
def C_Mo_hours : Nat → List mV → mS → Option (Int × mS) := fun k as σ => match k, as with
  | 64, [(3, a0), (1, a1)] => M_Mo_isThing a0 a1 σ
  | 120, [(3, a0), (1, a1), (1, a2), (1, a3)] => M_Mo_looks a0 a1 a2 a3 σ
  | 122, [(3, a0), (1, a1)] => M_Mo_seenNow a0 a1 σ
  | _, _ => none
def K_Mo_hours : Nat → Bool := fun i => i.beq 10
def F_Mo_hours_10 : Nat → List mV → List mV → mS → Option (((Int × Int × mS) ⊕ (Int × mS))) := fun i L st σ => match i, L, st with
  | 10, [(3, l0), (1, l1), (1, l2), (1, l3)], [] => some (.inl (l2, l3, σ))
  | _, _, _ => none
def B_Mo_hours_10 (l0 l1 l2 l3 : Int) (σ : mS) : Option (((Int × Int × mS) ⊕ (Int × mS))) :=
  if l3 < 24 then 
    (gf 11 3 l0 σ).bind fun v1 =>
    (ld 100 v1 181 σ).bind fun v2 =>
    (gf 11 3 l0 σ).bind fun v3 =>
    (ld 100 v3 183 σ).bind fun v4 =>
    (gk 11 l0 σ).bind fun _ => (M_Mo_looks l0 l3 v2 v4 σ).bind fun p5 =>
    (gk 11 l0 p5.2).bind fun _ => (M_Mo_seenNow l0 l1 p5.2).bind fun p6 =>
    if 0 < p6.1 then 
      some (.inl (ior l2 (ishl 1 l3), w32 (l3 + 1), p6.2))
    else
      some (.inl (ior l2 0, w32 (l3 + 1), p6.2))
  else
    some (.inr (l2, σ))
set_option maxRecDepth 100000 in
theorem E_Mo_hours_10 (l0 l1 l2 l3 : Int) (σ : mS) : mblk c_Mo_hours K_Mo_hours (C_Mo_hours) (F_Mo_hours_10) (fun v σ => some (.inr (v, σ))) 41 10 ([(3, l0), (1, l1), (1, l2), (1, l3)]) [] σ = B_Mo_hours_10 l0 l1 l2 l3 σ := rfl
def M_Mo_hours_10 (l0 l1 l2 l3 : Int) (σ : mS) : Option (Int × mS) := miter (fun s : Int × Int × mS => B_Mo_hours_10 l0 l1 s.1 s.2.1 s.2.2) mN (l2, l3, σ)
def F_Mo_hours_0 : Nat → List mV → List mV → mS → Option (Int × mS) := fun i L st σ => match i, L, st with
  | 10, [(3, l0), (1, l1), (1, l2), (1, l3)], [] => M_Mo_hours_10 l0 l1 l2 l3 σ
  | _, _, _ => none
def M_Mo_hours (l0 l1 : Int) (σ : mS) : Option (Int × mS) :=
  (gk 11 l0 σ).bind fun _ => (M_Mo_isThing l0 l1 σ).bind fun p1 =>
  if p1.1 = 0 then 
    some ((-1), p1.2)
  else
    M_Mo_hours_10 l0 l1 0 0 p1.2
set_option maxRecDepth 100000 in
theorem E_Mo_hours_0 (l0 l1 : Int) (σ : mS) : mblk c_Mo_hours K_Mo_hours (C_Mo_hours) (F_Mo_hours_0) (fun v σ => some (v, σ)) 41 0 (mInit 4 [(3, l0), (1, l1)]) [] σ = M_Mo_hours l0 l1 σ := rfl
def C_Mo_wouldSee : Nat → List mV → mS → Option (Int × mS) := fun k as σ => match k, as with
  | 52, [(1, a0), (1, a1), (1, a2)] => M_Mo_lies a0 a1 a2 σ
  | 65, [(3, a0), (1, a1)] => M_Mo_riseOf a0 a1 σ
  | _, _ => none
def K_Mo_wouldSee : Nat → Bool := fun i => false
def F_Mo_wouldSee_0 : Nat → List mV → List mV → mS → Option (Int × mS) := fun i L st σ => match i, L, st with
  | _, _, _ => none
def M_Mo_wouldSee (l0 l1 l2 : Int) (σ : mS) : Option (Int × mS) :=
  (gf 11 3 l0 σ).bind fun v1 =>
  (ld 100 v1 182 σ).bind fun v2 =>
  (gf 11 28 l0 σ).bind fun v3 =>
  (M_Mo_lies l1 v2 v3 σ).bind fun p4 =>
  if p4.1 = 0 then 
    if 0 = 0 ∨ 0 = 1 then some (0, p4.2) else none
  else
    (gf 11 26 l0 p4.2).bind fun v5 =>
    (ld 100 v5 l1 p4.2).bind fun v6 =>
    (gk 11 l0 p4.2).bind fun _ => (M_Mo_riseOf l0 l1 p4.2).bind fun p7 =>
    (M_Mo_lies v6 (w32 (100 * p7.1)) 3199 p7.2).bind fun p8 =>
    if p8.1 = 0 then 
      if 0 = 0 ∨ 0 = 1 then some (0, p8.2) else none
    else
      (gf 11 26 l0 p8.2).bind fun v9 =>
      (ld 100 v9 l1 p8.2).bind fun v10 =>
      (gk 11 l0 p8.2).bind fun _ => (M_Mo_riseOf l0 l1 p8.2).bind fun p11 =>
      if v10 < (w32 (100 * (w32 (p11.1 + l2)))) then 
        if 1 = 0 ∨ 1 = 1 then some (1, p11.2) else none
      else
        if 0 = 0 ∨ 0 = 1 then some (0, p11.2) else none
set_option maxRecDepth 100000 in
theorem E_Mo_wouldSee_0 (l0 l1 l2 : Int) (σ : mS) : mblk c_Mo_wouldSee K_Mo_wouldSee (C_Mo_wouldSee) (F_Mo_wouldSee_0) (fun v σ => some (v, σ)) 38 0 (mInit 3 [(3, l0), (1, l1), (1, l2)]) [] σ = M_Mo_wouldSee l0 l1 l2 σ := rfl
def C_Mo_ones : Nat → List mV → mS → Option (Int × mS) := fun k as σ => match k, as with
  | _, _ => none
def K_Mo_ones : Nat → Bool := fun i => i.beq 4
def F_Mo_ones_4 : Nat → List mV → List mV → mS → Option (((Int × Int × mS) ⊕ (Int × mS))) := fun i L st σ => match i, L, st with
  | 4, [(1, l0), (1, l1), (1, l2)], [] => some (.inl (l1, l2, σ))
  | _, _, _ => none
def B_Mo_ones_4 (l0 l1 l2 : Int) (σ : mS) : Option (((Int × Int × mS) ⊕ (Int × mS))) :=
  if l2 < 24 then 
    some (.inl (w32 (l1 + (iand (ishr l0 l2) 1)), w32 (l2 + 1), σ))
  else
    some (.inr (l1, σ))
set_option maxRecDepth 100000 in
theorem E_Mo_ones_4 (l0 l1 l2 : Int) (σ : mS) : mblk c_Mo_ones K_Mo_ones (C_Mo_ones) (F_Mo_ones_4) (fun v σ => some (.inr (v, σ))) 20 4 ([(1, l0), (1, l1), (1, l2)]) [] σ = B_Mo_ones_4 l0 l1 l2 σ := rfl
def M_Mo_ones_4 (l0 l1 l2 : Int) (σ : mS) : Option (Int × mS) := miter (fun s : Int × Int × mS => B_Mo_ones_4 l0 s.1 s.2.1 s.2.2) mN (l1, l2, σ)
def F_Mo_ones_0 : Nat → List mV → List mV → mS → Option (Int × mS) := fun i L st σ => match i, L, st with
  | 4, [(1, l0), (1, l1), (1, l2)], [] => M_Mo_ones_4 l0 l1 l2 σ
  | _, _, _ => none
def M_Mo_ones (l0 : Int) (σ : mS) : Option (Int × mS) :=
  M_Mo_ones_4 l0 0 0 σ
set_option maxRecDepth 100000 in
theorem E_Mo_ones_0 (l0 : Int) (σ : mS) : mblk c_Mo_ones K_Mo_ones (C_Mo_ones) (F_Mo_ones_0) (fun v σ => some (v, σ)) 20 0 (mInit 3 [(1, l0)]) [] σ = M_Mo_ones l0 σ := rfl
def C_Mo_mark : Nat → List mV → mS → Option (Int × mS) := fun k as σ => match k, as with
  | 52, [(1, a0), (1, a1), (1, a2)] => M_Mo_lies a0 a1 a2 σ
  | 66, [(3, a0), (1, a1)] => M_Mo_thingAt a0 a1 σ
  | 116, [(3, a0), (1, a1), (1, a2), (1, a3), (1, a4), (1, a5), (1, a6)] => M_Mo_goes a0 a1 a2 a3 a4 a5 a6 σ
  | 137, [(3, a0), (1, a1), (1, a2)] => M_Mo_wouldSee a0 a1 a2 σ
  | 139, [(1, a0)] => M_Mo_ones a0 σ
  | _, _ => none
def K_Mo_mark : Nat → Bool := fun i => i.beq 14 || i.beq 26 || i.beq 31 || i.beq 55 || i.beq 89
def F_Mo_mark_89 : Nat → List mV → List mV → mS → Option (((Int × Int × mS) ⊕ (Int × mS))) := fun i L st σ => match i, L, st with
  | 89, [(3, l0), _, (1, l2), (1, l3), (1, l4), _], [] => some (.inl (l3, l4, σ))
  | _, _, _ => none
def B_Mo_mark_89 (l0 l2 l3 l4 : Int) (σ : mS) : Option (((Int × Int × mS) ⊕ (Int × mS))) :=
  if l4 < 64 then 
    (gk 11 l0 σ).bind fun _ => (M_Mo_thingAt l0 l4 σ).bind fun p1 =>
    if p1.1 = (-1) then 
      if l3 = (-1) then 
        some (.inl (l4, w32 (l4 + 1), p1.2))
      else
        (gf 11 38 l0 p1.2).bind fun v2 =>
        (ld 100 v2 l4 p1.2).bind fun v3 =>
        (M_Mo_ones v3 p1.2).bind fun p4 =>
        (gf 11 38 l0 p4.2).bind fun v5 =>
        (ld 100 v5 l3 p4.2).bind fun v6 =>
        (M_Mo_ones v6 p4.2).bind fun p7 =>
        if p7.1 < p4.1 then 
          some (.inl (l4, w32 (l4 + 1), p7.2))
        else
          some (.inl (l3, w32 (l4 + 1), p7.2))
    else
      some (.inl (l3, w32 (l4 + 1), p1.2))
  else
    if l3 = (-1) then 
      some (.inr (l3, σ))
    else
      if l2 = 0 then 
        some (.inr (l3, σ))
      else
        (gf 11 38 l0 σ).bind fun v8 =>
        (ld 100 v8 l3 σ).bind fun v9 =>
        (M_Mo_ones v9 σ).bind fun p10 =>
        some (.inr (p10.1, p10.2))
set_option maxRecDepth 100000 in
theorem E_Mo_mark_89 (l0 l2 l3 l4 : Int) (σ : mS) : mblk c_Mo_mark K_Mo_mark (C_Mo_mark) (F_Mo_mark_89) (fun v σ => some (.inr (v, σ))) 129 89 ([(3, l0), (0, 0), (1, l2), (1, l3), (1, l4), (0, 0)]) [] σ = B_Mo_mark_89 l0 l2 l3 l4 σ := rfl
def M_Mo_mark_89 (l0 l2 l3 l4 : Int) (σ : mS) : Option (Int × mS) := miter (fun s : Int × Int × mS => B_Mo_mark_89 l0 l2 s.1 s.2.1 s.2.2) mN (l3, l4, σ)
def F_Mo_mark_55 : Nat → List mV → List mV → mS → Option (((Int × mS) ⊕ ((Int × mS) ⊕ ((Int × mS) ⊕ (Int × mS))))) := fun i L st σ => match i, L, st with
  | 31, [(3, l0), (1, l1), (1, l2), (1, l3), (1, l4), _], [] => some (.inr (.inl (l4, σ)))
  | 55, [(3, l0), (1, l1), (1, l2), (1, l3), (1, l4), (1, l5)], [] => some (.inl (l5, σ))
  | _, _, _ => none
def B_Mo_mark_55 (l0 l1 l2 l3 l4 l5 : Int) (σ : mS) : Option (((Int × mS) ⊕ ((Int × mS) ⊕ ((Int × mS) ⊕ (Int × mS))))) :=
  (gf 11 28 l0 σ).bind fun v1 =>
  if v1 < l5 then 
    some (.inr (.inl (w32 (l4 + 1), σ)))
  else
    (gk 11 l0 σ).bind fun _ => (M_Mo_wouldSee l0 l5 l1 σ).bind fun p2 =>
    if p2.1 = 0 then 
      some (.inl (w32 (l5 + 1), p2.2))
    else
      (gf 11 38 l0 p2.2).bind fun v3 =>
      (ld 100 v3 l5 p2.2).bind fun v4 =>
      (sd 100 v3 l5 (ior v4 (ishl 1 l3)) p2.2).bind fun σ =>
      some (.inl (w32 (l5 + 1), σ))
set_option maxRecDepth 100000 in
theorem E_Mo_mark_55 (l0 l1 l2 l3 l4 l5 : Int) (σ : mS) : mblk c_Mo_mark K_Mo_mark (C_Mo_mark) (F_Mo_mark_55) (fun v σ => some (.inr (.inr (.inr (v, σ))))) 129 55 ([(3, l0), (1, l1), (1, l2), (1, l3), (1, l4), (1, l5)]) [] σ = B_Mo_mark_55 l0 l1 l2 l3 l4 l5 σ := rfl
def M_Mo_mark_55 (l0 l1 l2 l3 l4 l5 : Int) (σ : mS) : Option (((Int × mS) ⊕ ((Int × mS) ⊕ (Int × mS)))) := miter (fun s : Int × mS => B_Mo_mark_55 l0 l1 l2 l3 l4 s.1 s.2) mN (l5, σ)
def F_Mo_mark_31 : Nat → List mV → List mV → mS → Option (((Int × mS) ⊕ ((Int × mS) ⊕ (Int × mS)))) := fun i L st σ => match i, L, st with
  | 26, [(3, l0), (1, l1), (1, l2), (1, l3), _, _], [] => some (.inr (.inl (l3, σ)))
  | 55, [(3, l0), (1, l1), (1, l2), (1, l3), (1, l4), (1, l5)], [] => M_Mo_mark_55 l0 l1 l2 l3 l4 l5 σ
  | _, _, _ => none
def B_Mo_mark_31 (l0 l1 l2 l3 l4 : Int) (σ : mS) : Option (((Int × mS) ⊕ ((Int × mS) ⊕ (Int × mS)))) :=
  if 100 < l4 then 
    some (.inr (.inl (w32 (l3 + 1), σ)))
  else
    (gf 11 3 l0 σ).bind fun v1 =>
    (ld 100 v1 181 σ).bind fun v2 =>
    (gf 11 3 l0 σ).bind fun v3 =>
    (ld 100 v3 183 σ).bind fun v4 =>
    (gk 11 l0 σ).bind fun _ => (M_Mo_goes l0 l4 l3 v2 v4 0 (-1) σ).bind fun p5 =>
    (gf 11 3 l0 p5.2).bind fun v6 =>
    (ld 100 v6 182 p5.2).bind fun v7 =>
    M_Mo_mark_55 l0 l1 l2 l3 l4 (w32 (v7 + 1)) p5.2
set_option maxRecDepth 100000 in
theorem E_Mo_mark_31 (l0 l1 l2 l3 l4 : Int) (σ : mS) : mblk c_Mo_mark K_Mo_mark (C_Mo_mark) (F_Mo_mark_31) (fun v σ => some (.inr (.inr (v, σ)))) 129 31 ([(3, l0), (1, l1), (1, l2), (1, l3), (1, l4), (0, 0)]) [] σ = B_Mo_mark_31 l0 l1 l2 l3 l4 σ := rfl
def M_Mo_mark_31 (l0 l1 l2 l3 l4 : Int) (σ : mS) : Option (((Int × mS) ⊕ (Int × mS))) := miter (fun s : Int × mS => B_Mo_mark_31 l0 l1 l2 l3 s.1 s.2) mN (l4, σ)
def F_Mo_mark_26 : Nat → List mV → List mV → mS → Option (((Int × mS) ⊕ (Int × mS))) := fun i L st σ => match i, L, st with
  | 31, [(3, l0), (1, l1), (1, l2), (1, l3), (1, l4), _], [] => M_Mo_mark_31 l0 l1 l2 l3 l4 σ
  | 89, [(3, l0), _, (1, l2), (1, l3), (1, l4), _], [] => (M_Mo_mark_89 l0 l2 l3 l4 σ).bind fun z => some (.inr z)
  | _, _, _ => none
def B_Mo_mark_26 (l0 l1 l2 l3 : Int) (σ : mS) : Option (((Int × mS) ⊕ (Int × mS))) :=
  if l3 < 24 then 
    M_Mo_mark_31 l0 l1 l2 l3 (-100) σ
  else
    (gf 11 3 l0 σ).bind fun v1 =>
    (ld 100 v1 182 σ).bind fun v2 =>
    (M_Mo_mark_89 l0 l2 (-1) (w32 (v2 + 1)) σ).bind fun z => some (.inr z)
set_option maxRecDepth 100000 in
theorem E_Mo_mark_26 (l0 l1 l2 l3 : Int) (σ : mS) : mblk c_Mo_mark K_Mo_mark (C_Mo_mark) (F_Mo_mark_26) (fun v σ => some (.inr (v, σ))) 129 26 ([(3, l0), (1, l1), (1, l2), (1, l3), (0, 0), (0, 0)]) [] σ = B_Mo_mark_26 l0 l1 l2 l3 σ := rfl
def M_Mo_mark_26 (l0 l1 l2 l3 : Int) (σ : mS) : Option (Int × mS) := miter (fun s : Int × mS => B_Mo_mark_26 l0 l1 l2 s.1 s.2) mN (l3, σ)
def F_Mo_mark_14 : Nat → List mV → List mV → mS → Option (((Int × mS) ⊕ (Int × mS))) := fun i L st σ => match i, L, st with
  | 14, [(3, l0), (1, l1), (1, l2), (1, l3), _, _], [] => some (.inl (l3, σ))
  | 26, [(3, l0), (1, l1), (1, l2), (1, l3), _, _], [] => (M_Mo_mark_26 l0 l1 l2 l3 σ).bind fun z => some (.inr z)
  | _, _, _ => none
def B_Mo_mark_14 (l0 l1 l2 l3 : Int) (σ : mS) : Option (((Int × mS) ⊕ (Int × mS))) :=
  if l3 < 64 then 
    (gf 11 38 l0 σ).bind fun v1 =>
    (sd 100 v1 l3 0 σ).bind fun σ =>
    some (.inl (w32 (l3 + 1), σ))
  else
    (M_Mo_mark_26 l0 l1 l2 0 σ).bind fun z => some (.inr z)
set_option maxRecDepth 100000 in
theorem E_Mo_mark_14 (l0 l1 l2 l3 : Int) (σ : mS) : mblk c_Mo_mark K_Mo_mark (C_Mo_mark) (F_Mo_mark_14) (fun v σ => some (.inr (v, σ))) 129 14 ([(3, l0), (1, l1), (1, l2), (1, l3), (0, 0), (0, 0)]) [] σ = B_Mo_mark_14 l0 l1 l2 l3 σ := rfl
def M_Mo_mark_14 (l0 l1 l2 l3 : Int) (σ : mS) : Option (Int × mS) := miter (fun s : Int × mS => B_Mo_mark_14 l0 l1 l2 s.1 s.2) mN (l3, σ)
def F_Mo_mark_0 : Nat → List mV → List mV → mS → Option (Int × mS) := fun i L st σ => match i, L, st with
  | 14, [(3, l0), (1, l1), (1, l2), (1, l3), _, _], [] => M_Mo_mark_14 l0 l1 l2 l3 σ
  | _, _, _ => none
def M_Mo_mark (l0 l1 l2 : Int) (σ : mS) : Option (Int × mS) :=
  (M_Mo_lies l1 1 31 σ).bind fun p1 =>
  if p1.1 = 0 then 
    some ((-1), p1.2)
  else
    (M_Mo_lies l2 0 1 p1.2).bind fun p2 =>
    if p2.1 = 0 then 
      some ((-1), p2.2)
    else
      M_Mo_mark_14 l0 l1 l2 0 p2.2
set_option maxRecDepth 100000 in
theorem E_Mo_mark_0 (l0 l1 l2 : Int) (σ : mS) : mblk c_Mo_mark K_Mo_mark (C_Mo_mark) (F_Mo_mark_0) (fun v σ => some (v, σ)) 129 0 (mInit 6 [(3, l0), (1, l1), (1, l2)]) [] σ = M_Mo_mark l0 l1 l2 σ := rfl
def C_Mo_errorIn : Nat → List mV → mS → Option (Int × mS) := fun k as σ => match k, as with
  | 116, [(3, a0), (1, a1), (1, a2), (1, a3), (1, a4), (1, a5), (1, a6)] => M_Mo_goes a0 a1 a2 a3 a4 a5 a6 σ
  | _, _ => none
def K_Mo_errorIn : Nat → Bool := fun i => false
def F_Mo_errorIn_0 : Nat → List mV → List mV → mS → Option (Int × mS) := fun i L st σ => match i, L, st with
  | _, _, _ => none
def M_Mo_errorIn (l0 l1 l2 : Int) (σ : mS) : Option (Int × mS) :=
  (gf 11 3 l0 σ).bind fun v1 =>
  (ld 100 v1 182 σ).bind fun v2 =>
  if v2 < l1 then 
    (gf 11 3 l0 σ).bind fun v3 =>
    (ld 100 v3 181 σ).bind fun v4 =>
    (gf 11 3 l0 σ).bind fun v5 =>
    (ld 100 v5 183 σ).bind fun v6 =>
    (gk 11 l0 σ).bind fun _ => (M_Mo_goes l0 0 l2 v4 v6 1 (-1) σ).bind fun p7 =>
    (gf 11 28 l0 p7.2).bind fun v8 =>
    if v8 < l1 then 
      some ((-1000000), p7.2)
    else
      (gf 11 26 l0 p7.2).bind fun v9 =>
      (ld 100 v9 l1 p7.2).bind fun v10 =>
      (gf 11 26 l0 p7.2).bind fun v11 =>
      (gf 11 3 l0 p7.2).bind fun v12 =>
      (ld 100 v12 182 p7.2).bind fun v13 =>
      (ld 100 v11 v13 p7.2).bind fun v14 =>
      some (w32 (v10 - v14), p7.2)
  else
    some ((-1000000), σ)
set_option maxRecDepth 100000 in
theorem E_Mo_errorIn_0 (l0 l1 l2 : Int) (σ : mS) : mblk c_Mo_errorIn K_Mo_errorIn (C_Mo_errorIn) (F_Mo_errorIn_0) (fun v σ => some (v, σ)) 42 0 (mInit 3 [(3, l0), (1, l1), (1, l2)]) [] σ = M_Mo_errorIn l0 l1 l2 σ := rfl
def C_Mo_level : Nat → List mV → mS → Option (Int × mS) := fun k as σ => match k, as with
  | 60, [(1, a0)] => M_Mo_isPlace a0 σ
  | 140, [(3, a0), (1, a1), (1, a2)] => M_Mo_errorIn a0 a1 a2 σ
  | _, _ => none
def K_Mo_level : Nat → Bool := fun i => false
def F_Mo_level_0 : Nat → List mV → List mV → mS → Option (Int × mS) := fun i L st σ => match i, L, st with
  | _, _, _ => none
def M_Mo_level (l0 l1 : Int) (σ : mS) : Option (Int × mS) :=
  (M_Mo_isPlace l1 σ).bind fun p1 =>
  if p1.1 = 0 then 
    some ((-1000000), p1.2)
  else
    (gf 11 3 l0 p1.2).bind fun v2 =>
    (ld 100 v2 180 p1.2).bind fun v3 =>
    (gk 11 l0 p1.2).bind fun _ => (M_Mo_errorIn l0 l1 v3 p1.2).bind fun p4 =>
    some (p4.1, p4.2)
set_option maxRecDepth 100000 in
theorem E_Mo_level_0 (l0 l1 : Int) (σ : mS) : mblk c_Mo_level K_Mo_level (C_Mo_level) (F_Mo_level_0) (fun v σ => some (v, σ)) 14 0 (mInit 2 [(3, l0), (1, l1)]) [] σ = M_Mo_level l0 l1 σ := rfl
def C_Mo_best : Nat → List mV → mS → Option (Int × mS) := fun k as σ => match k, as with
  | 56, [(1, a0)] => M_Mo_far a0 σ
  | 60, [(1, a0)] => M_Mo_isPlace a0 σ
  | 140, [(3, a0), (1, a1), (1, a2)] => M_Mo_errorIn a0 a1 a2 σ
  | _, _ => none
def K_Mo_best : Nat → Bool := fun i => i.beq 11 || i.beq 30
def F_Mo_best_30 : Nat → List mV → List mV → mS → Option (((Int × Int × Int × mS) ⊕ (Int × mS))) := fun i L st σ => match i, L, st with
  | 11, [(3, l0), (1, l1), (1, l2), (1, l3), (1, l4), _], [] => some (.inl (l2, l3, l4, σ))
  | _, _, _ => none
def M_Mo_best_30 (l0 l1 l4 l5 : Int) (σ : mS) : Option (((Int × Int × Int × mS) ⊕ (Int × mS))) :=
  (M_Mo_far l5 σ).bind fun p1 =>
  some (.inl (l4, p1.1, w32 (l4 + 1), p1.2))
set_option maxRecDepth 100000 in
theorem E_Mo_best_30 (l0 l1 l4 l5 : Int) (σ : mS) : mblk c_Mo_best K_Mo_best (C_Mo_best) (F_Mo_best_30) (fun v σ => some (.inr (v, σ))) 40 30 ([(3, l0), (1, l1), (0, 0), (0, 0), (1, l4), (1, l5)]) [] σ = M_Mo_best_30 l0 l1 l4 l5 σ := rfl
def F_Mo_best_11 : Nat → List mV → List mV → mS → Option (((Int × Int × Int × mS) ⊕ (Int × mS))) := fun i L st σ => match i, L, st with
  | 11, [(3, l0), (1, l1), (1, l2), (1, l3), (1, l4), _], [] => some (.inl (l2, l3, l4, σ))
  | 30, [(3, l0), (1, l1), _, _, (1, l4), (1, l5)], [] => M_Mo_best_30 l0 l1 l4 l5 σ
  | _, _, _ => none
def B_Mo_best_11 (l0 l1 l2 l3 l4 : Int) (σ : mS) : Option (((Int × Int × Int × mS) ⊕ (Int × mS))) :=
  if l4 < 24 then 
    (gk 11 l0 σ).bind fun _ => (M_Mo_errorIn l0 l1 l4 σ).bind fun p1 =>
    if p1.1 = (-1000000) then 
      some (.inl (l2, l3, w32 (l4 + 1), p1.2))
    else
      if l2 = (-1) then 
        M_Mo_best_30 l0 l1 l4 p1.1 p1.2
      else
        (M_Mo_far p1.1 p1.2).bind fun p2 =>
        if p2.1 < l3 then 
          M_Mo_best_30 l0 l1 l4 p1.1 p2.2
        else
          some (.inl (l2, l3, w32 (l4 + 1), p2.2))
  else
    some (.inr (l2, σ))
set_option maxRecDepth 100000 in
theorem E_Mo_best_11 (l0 l1 l2 l3 l4 : Int) (σ : mS) : mblk c_Mo_best K_Mo_best (C_Mo_best) (F_Mo_best_11) (fun v σ => some (.inr (v, σ))) 40 11 ([(3, l0), (1, l1), (1, l2), (1, l3), (1, l4), (0, 0)]) [] σ = B_Mo_best_11 l0 l1 l2 l3 l4 σ := rfl
def M_Mo_best_11 (l0 l1 l2 l3 l4 : Int) (σ : mS) : Option (Int × mS) := miter (fun s : Int × Int × Int × mS => B_Mo_best_11 l0 l1 s.1 s.2.1 s.2.2.1 s.2.2.2) mN (l2, l3, l4, σ)
def F_Mo_best_0 : Nat → List mV → List mV → mS → Option (Int × mS) := fun i L st σ => match i, L, st with
  | 11, [(3, l0), (1, l1), (1, l2), (1, l3), (1, l4), _], [] => M_Mo_best_11 l0 l1 l2 l3 l4 σ
  | _, _, _ => none
def M_Mo_best (l0 l1 : Int) (σ : mS) : Option (Int × mS) :=
  (M_Mo_isPlace l1 σ).bind fun p1 =>
  if p1.1 = 0 then 
    some ((-1), p1.2)
  else
    M_Mo_best_11 l0 l1 (-1) 0 0 p1.2
set_option maxRecDepth 100000 in
theorem E_Mo_best_0 (l0 l1 : Int) (σ : mS) : mblk c_Mo_best K_Mo_best (C_Mo_best) (F_Mo_best_0) (fun v σ => some (v, σ)) 40 0 (mInit 6 [(3, l0), (1, l1)]) [] σ = M_Mo_best l0 l1 σ := rfl
def C_Mo_eyes : Nat → List mV → mS → Option (Int × mS) := fun k as σ => match k, as with
  | 52, [(1, a0), (1, a1), (1, a2)] => M_Mo_lies a0 a1 a2 σ
  | 64, [(3, a0), (1, a1)] => M_Mo_isThing a0 a1 σ
  | 120, [(3, a0), (1, a1), (1, a2), (1, a3)] => M_Mo_looks a0 a1 a2 a3 σ
  | 122, [(3, a0), (1, a1)] => M_Mo_seenNow a0 a1 σ
  | 123, [(3, a0), (1, a1)] => M_Mo_picturesNow a0 a1 σ
  | 124, [(3, a0), (1, a1)] => M_Mo_hiddenNow a0 a1 σ
  | _, _ => none
def K_Mo_eyes : Nat → Bool := fun i => i.beq 15 || i.beq 50
def F_Mo_eyes_50 : Nat → List mV → List mV → mS → Option (((Int × Int × mS) ⊕ (Int × mS))) := fun i L st σ => match i, L, st with
  | 15, [(3, l0), (1, l1), (1, l2), (1, l3), (1, l4)], [] => some (.inl (l3, l4, σ))
  | _, _, _ => none
def M_Mo_eyes_50 (l0 l1 l2 l4 s0 : Int) (σ : mS) : Option (((Int × Int × mS) ⊕ (Int × mS))) :=
  some (.inl (w32 (s0 + 1), w32 (l4 + 1), σ))
set_option maxRecDepth 100000 in
theorem E_Mo_eyes_50 (l0 l1 l2 l4 s0 : Int) (σ : mS) : mblk c_Mo_eyes K_Mo_eyes (C_Mo_eyes) (F_Mo_eyes_50) (fun v σ => some (.inr (v, σ))) 60 50 ([(3, l0), (1, l1), (1, l2), (0, 0), (1, l4)]) [(1, s0)] σ = M_Mo_eyes_50 l0 l1 l2 l4 s0 σ := rfl
def F_Mo_eyes_15 : Nat → List mV → List mV → mS → Option (((Int × Int × mS) ⊕ (Int × mS))) := fun i L st σ => match i, L, st with
  | 15, [(3, l0), (1, l1), (1, l2), (1, l3), (1, l4)], [] => some (.inl (l3, l4, σ))
  | 50, [(3, l0), (1, l1), (1, l2), _, (1, l4)], [(1, s0)] => M_Mo_eyes_50 l0 l1 l2 l4 s0 σ
  | _, _, _ => none
def B_Mo_eyes_15 (l0 l1 l2 l3 l4 : Int) (σ : mS) : Option (((Int × Int × mS) ⊕ (Int × mS))) :=
  if l4 < 32 then 
    (gf 11 3 l0 σ).bind fun v1 =>
    (ld 100 v1 180 σ).bind fun v2 =>
    (gf 11 3 l0 σ).bind fun v3 =>
    (ld 100 v3 181 σ).bind fun v4 =>
    (gk 11 l0 σ).bind fun _ => (M_Mo_looks l0 v2 v4 l4 σ).bind fun p5 =>
    if l2 = 0 then 
      (gk 11 l0 p5.2).bind fun _ => (M_Mo_seenNow l0 l1 p5.2).bind fun p6 =>
      if 0 < p6.1 then 
        M_Mo_eyes_50 l0 l1 l2 l4 l3 p6.2
      else
        some (.inl (w32 (l3 + 0), w32 (l4 + 1), p6.2))
    else
      if l2 = 1 then 
        (gk 11 l0 p5.2).bind fun _ => (M_Mo_hiddenNow l0 l1 p5.2).bind fun p7 =>
        if p7.1 = 0 then 
          M_Mo_eyes_50 l0 l1 l2 l4 l3 p7.2
        else
          some (.inl (w32 (l3 + 0), w32 (l4 + 1), p7.2))
      else
        (gk 11 l0 p5.2).bind fun _ => (M_Mo_picturesNow l0 l1 p5.2).bind fun p8 =>
        if 1 < p8.1 then 
          M_Mo_eyes_50 l0 l1 l2 l4 l3 p8.2
        else
          some (.inl (w32 (l3 + 0), w32 (l4 + 1), p8.2))
  else
    some (.inr (l3, σ))
set_option maxRecDepth 100000 in
theorem E_Mo_eyes_15 (l0 l1 l2 l3 l4 : Int) (σ : mS) : mblk c_Mo_eyes K_Mo_eyes (C_Mo_eyes) (F_Mo_eyes_15) (fun v σ => some (.inr (v, σ))) 60 15 ([(3, l0), (1, l1), (1, l2), (1, l3), (1, l4)]) [] σ = B_Mo_eyes_15 l0 l1 l2 l3 l4 σ := rfl
def M_Mo_eyes_15 (l0 l1 l2 l3 l4 : Int) (σ : mS) : Option (Int × mS) := miter (fun s : Int × Int × mS => B_Mo_eyes_15 l0 l1 l2 s.1 s.2.1 s.2.2) mN (l3, l4, σ)
def F_Mo_eyes_0 : Nat → List mV → List mV → mS → Option (Int × mS) := fun i L st σ => match i, L, st with
  | 15, [(3, l0), (1, l1), (1, l2), (1, l3), (1, l4)], [] => M_Mo_eyes_15 l0 l1 l2 l3 l4 σ
  | _, _, _ => none
def M_Mo_eyes (l0 l1 l2 : Int) (σ : mS) : Option (Int × mS) :=
  (gk 11 l0 σ).bind fun _ => (M_Mo_isThing l0 l1 σ).bind fun p1 =>
  if p1.1 = 0 then 
    some ((-1), p1.2)
  else
    (M_Mo_lies l2 0 2 p1.2).bind fun p2 =>
    if p2.1 = 0 then 
      some ((-1), p2.2)
    else
      M_Mo_eyes_15 l0 l1 l2 0 0 p2.2
set_option maxRecDepth 100000 in
theorem E_Mo_eyes_0 (l0 l1 l2 : Int) (σ : mS) : mblk c_Mo_eyes K_Mo_eyes (C_Mo_eyes) (F_Mo_eyes_0) (fun v σ => some (v, σ)) 60 0 (mInit 5 [(3, l0), (1, l1), (1, l2)]) [] σ = M_Mo_eyes l0 l1 l2 σ := rfl
def C_Mo_where : Nat → List mV → mS → Option (Int × mS) := fun k as σ => match k, as with
  | 52, [(1, a0), (1, a1), (1, a2)] => M_Mo_lies a0 a1 a2 σ
  | 66, [(3, a0), (1, a1)] => M_Mo_thingAt a0 a1 σ
  | 116, [(3, a0), (1, a1), (1, a2), (1, a3), (1, a4), (1, a5), (1, a6)] => M_Mo_goes a0 a1 a2 a3 a4 a5 a6 σ
  | 137, [(3, a0), (1, a1), (1, a2)] => M_Mo_wouldSee a0 a1 a2 σ
  | _, _ => none
def K_Mo_where : Nat → Bool := fun i => i.beq 14 || i.beq 31 || i.beq 58 || i.beq 80 || i.beq 81 || i.beq 99
def F_Mo_where_99 : Nat → List mV → List mV → mS → Option (((Int × mS) ⊕ (Int × mS))) := fun i L st σ => match i, L, st with
  | 99, [(3, l0), _, (1, l2), (1, l3), _, _], [] => some (.inl (l3, σ))
  | _, _, _ => none
def B_Mo_where_99 (l0 l2 l3 : Int) (σ : mS) : Option (((Int × mS) ⊕ (Int × mS))) :=
  if l3 < 64 then 
    (gk 11 l0 σ).bind fun _ => (M_Mo_thingAt l0 l3 σ).bind fun p1 =>
    if p1.1 = (-1) then 
      (gf 11 39 l0 p1.2).bind fun v2 =>
      (ld 100 v2 l3 p1.2).bind fun v3 =>
      if v3 = l2 then 
        some (.inr (l3, p1.2))
      else
        some (.inl (w32 (l3 + 1), p1.2))
    else
      some (.inl (w32 (l3 + 1), p1.2))
  else
    some (.inr ((-1), σ))
set_option maxRecDepth 100000 in
theorem E_Mo_where_99 (l0 l2 l3 : Int) (σ : mS) : mblk c_Mo_where K_Mo_where (C_Mo_where) (F_Mo_where_99) (fun v σ => some (.inr (v, σ))) 120 99 ([(3, l0), (0, 0), (1, l2), (1, l3), (0, 0), (0, 0)]) [] σ = B_Mo_where_99 l0 l2 l3 σ := rfl
def M_Mo_where_99 (l0 l2 l3 : Int) (σ : mS) : Option (Int × mS) := miter (fun s : Int × mS => B_Mo_where_99 l0 l2 s.1 s.2) mN (l3, σ)
def F_Mo_where_81 : Nat → List mV → List mV → mS → Option (((Int × mS) ⊕ ((Int × mS) ⊕ (Int × mS)))) := fun i L st σ => match i, L, st with
  | 58, [(3, l0), (1, l1), (1, l2), (1, l3), (1, l4), _], [] => some (.inl (l4, σ))
  | _, _, _ => none
def M_Mo_where_81 (l0 l1 l2 l3 l4 l5 s3 s2 s1 s0 : Int) (σ : mS) : Option (((Int × mS) ⊕ ((Int × mS) ⊕ (Int × mS)))) :=
  (sd 100 s0 s1 (w32 (s2 + s3)) σ).bind fun σ =>
  (gf 11 40 l0 σ).bind fun v1 =>
  (sd 102 v1 l4 l5 σ).bind fun σ =>
  some (.inl (w32 (l4 + 1), σ))
set_option maxRecDepth 100000 in
theorem E_Mo_where_81 (l0 l1 l2 l3 l4 l5 s3 s2 s1 s0 : Int) (σ : mS) : mblk c_Mo_where K_Mo_where (C_Mo_where) (F_Mo_where_81) (fun v σ => some (.inr (.inr (v, σ)))) 120 81 ([(3, l0), (1, l1), (1, l2), (1, l3), (1, l4), (1, l5)]) [(1, s3), (1, s2), (1, s1), (3, s0)] σ = M_Mo_where_81 l0 l1 l2 l3 l4 l5 s3 s2 s1 s0 σ := rfl
def F_Mo_where_80 : Nat → List mV → List mV → mS → Option (((Int × mS) ⊕ ((Int × mS) ⊕ (Int × mS)))) := fun i L st σ => match i, L, st with
  | 81, [(3, l0), (1, l1), (1, l2), (1, l3), (1, l4), (1, l5)], [(1, s3), (1, s2), (1, s1), (3, s0)] => M_Mo_where_81 l0 l1 l2 l3 l4 l5 s3 s2 s1 s0 σ
  | _, _, _ => none
def M_Mo_where_80 (l0 l1 l2 l3 l4 l5 s2 s1 s0 : Int) (σ : mS) : Option (((Int × mS) ⊕ ((Int × mS) ⊕ (Int × mS)))) :=
  M_Mo_where_81 l0 l1 l2 l3 l4 l5 0 s2 s1 s0 σ
set_option maxRecDepth 100000 in
theorem E_Mo_where_80 (l0 l1 l2 l3 l4 l5 s2 s1 s0 : Int) (σ : mS) : mblk c_Mo_where K_Mo_where (C_Mo_where) (F_Mo_where_80) (fun v σ => some (.inr (.inr (v, σ)))) 120 80 ([(3, l0), (1, l1), (1, l2), (1, l3), (1, l4), (1, l5)]) [(1, s2), (1, s1), (3, s0)] σ = M_Mo_where_80 l0 l1 l2 l3 l4 l5 s2 s1 s0 σ := rfl
def F_Mo_where_58 : Nat → List mV → List mV → mS → Option (((Int × mS) ⊕ ((Int × mS) ⊕ (Int × mS)))) := fun i L st σ => match i, L, st with
  | 31, [(3, l0), (1, l1), (1, l2), (1, l3), _, _], [] => some (.inr (.inl (l3, σ)))
  | 80, [(3, l0), (1, l1), (1, l2), (1, l3), (1, l4), (1, l5)], [(1, s2), (1, s1), (3, s0)] => M_Mo_where_80 l0 l1 l2 l3 l4 l5 s2 s1 s0 σ
  | 81, [(3, l0), (1, l1), (1, l2), (1, l3), (1, l4), (1, l5)], [(1, s3), (1, s2), (1, s1), (3, s0)] => M_Mo_where_81 l0 l1 l2 l3 l4 l5 s3 s2 s1 s0 σ
  | _, _, _ => none
def B_Mo_where_58 (l0 l1 l2 l3 l4 : Int) (σ : mS) : Option (((Int × mS) ⊕ ((Int × mS) ⊕ (Int × mS)))) :=
  if l4 < 64 then 
    (gk 11 l0 σ).bind fun _ => (M_Mo_wouldSee l0 l4 l1 σ).bind fun p1 =>
    (gf 11 39 l0 p1.2).bind fun v2 =>
    (ld 100 v2 l4 p1.2).bind fun v3 =>
    if p1.1 = 0 then 
      M_Mo_where_80 l0 l1 l2 l3 l4 p1.1 v3 l4 v2 p1.2
    else
      (gf 11 40 l0 p1.2).bind fun v4 =>
      (ld 102 v4 l4 p1.2).bind fun v5 =>
      if v5 = 0 then 
        M_Mo_where_81 l0 l1 l2 l3 l4 p1.1 1 v3 l4 v2 p1.2
      else
        M_Mo_where_80 l0 l1 l2 l3 l4 p1.1 v3 l4 v2 p1.2
  else
    some (.inr (.inl (w32 (l3 + 1), σ)))
set_option maxRecDepth 100000 in
theorem E_Mo_where_58 (l0 l1 l2 l3 l4 : Int) (σ : mS) : mblk c_Mo_where K_Mo_where (C_Mo_where) (F_Mo_where_58) (fun v σ => some (.inr (.inr (v, σ)))) 120 58 ([(3, l0), (1, l1), (1, l2), (1, l3), (1, l4), (0, 0)]) [] σ = B_Mo_where_58 l0 l1 l2 l3 l4 σ := rfl
def M_Mo_where_58 (l0 l1 l2 l3 l4 : Int) (σ : mS) : Option (((Int × mS) ⊕ (Int × mS))) := miter (fun s : Int × mS => B_Mo_where_58 l0 l1 l2 l3 s.1 s.2) mN (l4, σ)
def F_Mo_where_31 : Nat → List mV → List mV → mS → Option (((Int × mS) ⊕ (Int × mS))) := fun i L st σ => match i, L, st with
  | 58, [(3, l0), (1, l1), (1, l2), (1, l3), (1, l4), _], [] => M_Mo_where_58 l0 l1 l2 l3 l4 σ
  | 99, [(3, l0), _, (1, l2), (1, l3), _, _], [] => (M_Mo_where_99 l0 l2 l3 σ).bind fun z => some (.inr z)
  | _, _, _ => none
def B_Mo_where_31 (l0 l1 l2 l3 : Int) (σ : mS) : Option (((Int × mS) ⊕ (Int × mS))) :=
  if 100 < l3 then 
    (gf 11 3 l0 σ).bind fun v1 =>
    (ld 100 v1 182 σ).bind fun v2 =>
    (M_Mo_where_99 l0 l2 (w32 (v2 + 1)) σ).bind fun z => some (.inr z)
  else
    (gf 11 3 l0 σ).bind fun v3 =>
    (ld 100 v3 180 σ).bind fun v4 =>
    (gf 11 3 l0 σ).bind fun v5 =>
    (ld 100 v5 181 σ).bind fun v6 =>
    (gf 11 3 l0 σ).bind fun v7 =>
    (ld 100 v7 183 σ).bind fun v8 =>
    (gk 11 l0 σ).bind fun _ => (M_Mo_goes l0 l3 v4 v6 v8 0 (-1) σ).bind fun p9 =>
    (gf 11 3 l0 p9.2).bind fun v10 =>
    (ld 100 v10 182 p9.2).bind fun v11 =>
    M_Mo_where_58 l0 l1 l2 l3 (w32 (v11 + 1)) p9.2
set_option maxRecDepth 100000 in
theorem E_Mo_where_31 (l0 l1 l2 l3 : Int) (σ : mS) : mblk c_Mo_where K_Mo_where (C_Mo_where) (F_Mo_where_31) (fun v σ => some (.inr (v, σ))) 120 31 ([(3, l0), (1, l1), (1, l2), (1, l3), (0, 0), (0, 0)]) [] σ = B_Mo_where_31 l0 l1 l2 l3 σ := rfl
def M_Mo_where_31 (l0 l1 l2 l3 : Int) (σ : mS) : Option (Int × mS) := miter (fun s : Int × mS => B_Mo_where_31 l0 l1 l2 s.1 s.2) mN (l3, σ)
def F_Mo_where_14 : Nat → List mV → List mV → mS → Option (((Int × mS) ⊕ (Int × mS))) := fun i L st σ => match i, L, st with
  | 14, [(3, l0), (1, l1), (1, l2), (1, l3), _, _], [] => some (.inl (l3, σ))
  | 31, [(3, l0), (1, l1), (1, l2), (1, l3), _, _], [] => (M_Mo_where_31 l0 l1 l2 l3 σ).bind fun z => some (.inr z)
  | _, _, _ => none
def B_Mo_where_14 (l0 l1 l2 l3 : Int) (σ : mS) : Option (((Int × mS) ⊕ (Int × mS))) :=
  if l3 < 64 then 
    (gf 11 39 l0 σ).bind fun v1 =>
    (sd 100 v1 l3 0 σ).bind fun σ =>
    (gf 11 40 l0 σ).bind fun v2 =>
    (sd 102 v2 l3 0 σ).bind fun σ =>
    some (.inl (w32 (l3 + 1), σ))
  else
    (M_Mo_where_31 l0 l1 l2 (-100) σ).bind fun z => some (.inr z)
set_option maxRecDepth 100000 in
theorem E_Mo_where_14 (l0 l1 l2 l3 : Int) (σ : mS) : mblk c_Mo_where K_Mo_where (C_Mo_where) (F_Mo_where_14) (fun v σ => some (.inr (v, σ))) 120 14 ([(3, l0), (1, l1), (1, l2), (1, l3), (0, 0), (0, 0)]) [] σ = B_Mo_where_14 l0 l1 l2 l3 σ := rfl
def M_Mo_where_14 (l0 l1 l2 l3 : Int) (σ : mS) : Option (Int × mS) := miter (fun s : Int × mS => B_Mo_where_14 l0 l1 l2 s.1 s.2) mN (l3, σ)
def F_Mo_where_0 : Nat → List mV → List mV → mS → Option (Int × mS) := fun i L st σ => match i, L, st with
  | 14, [(3, l0), (1, l1), (1, l2), (1, l3), _, _], [] => M_Mo_where_14 l0 l1 l2 l3 σ
  | _, _, _ => none
def M_Mo_where (l0 l1 l2 : Int) (σ : mS) : Option (Int × mS) :=
  (M_Mo_lies l1 1 31 σ).bind fun p1 =>
  if p1.1 = 0 then 
    some ((-1), p1.2)
  else
    (M_Mo_lies l2 0 9 p1.2).bind fun p2 =>
    if p2.1 = 0 then 
      some ((-1), p2.2)
    else
      M_Mo_where_14 l0 l1 l2 0 p2.2
set_option maxRecDepth 100000 in
theorem E_Mo_where_0 (l0 l1 l2 : Int) (σ : mS) : mblk c_Mo_where K_Mo_where (C_Mo_where) (F_Mo_where_0) (fun v σ => some (v, σ)) 120 0 (mInit 6 [(3, l0), (1, l1), (1, l2)]) [] σ = M_Mo_where l0 l1 l2 σ := rfl
def C_Mo_sight : Nat → List mV → mS → Option (Int × mS) := fun k as σ => match k, as with
  | 52, [(1, a0), (1, a1), (1, a2)] => M_Mo_lies a0 a1 a2 σ
  | 53, [(3, a0), (1, a1)] => M_Mo_refuses a0 a1 σ
  | 54, [(3, a0), (1, a1)] => M_Mo_good a0 a1 σ
  | 63, [(1, a0)] => M_Mo_isAngle a0 σ
  | 64, [(3, a0), (1, a1)] => M_Mo_isThing a0 a1 σ
  | _, _ => none
def K_Mo_sight : Nat → Bool := fun i => false
def F_Mo_sight_0 : Nat → List mV → List mV → mS → Option (Int × mS) := fun i L st σ => match i, L, st with
  | _, _, _ => none
def M_Mo_sight (l0 l1 l2 l3 : Int) (σ : mS) : Option (Int × mS) :=
  (M_Mo_isAngle l1 σ).bind fun p1 =>
  if p1.1 = 0 then 
    (gk 11 l0 p1.2).bind fun _ => (M_Mo_refuses l0 (-1) p1.2).bind fun p2 =>
    some (p2.1, p2.2)
  else
    (M_Mo_lies l3 (-1) 31 p1.2).bind fun p3 =>
    if p3.1 = 0 then 
      (gk 11 l0 p3.2).bind fun _ => (M_Mo_refuses l0 (-1) p3.2).bind fun p4 =>
      some (p4.1, p4.2)
    else
      (gk 11 l0 p3.2).bind fun _ => (M_Mo_isThing l0 l2 p3.2).bind fun p5 =>
      if p5.1 = 0 then 
        (gk 11 l0 p5.2).bind fun _ => (M_Mo_refuses l0 (-2) p5.2).bind fun p6 =>
        some (p6.1, p6.2)
      else
        (gf 11 3 l0 p5.2).bind fun v7 =>
        (ld 100 v7 185 p5.2).bind fun v8 =>
        if v8 = 12 then 
          (gk 11 l0 p5.2).bind fun _ => (M_Mo_refuses l0 (-5) p5.2).bind fun p9 =>
          some (p9.1, p9.2)
        else
          (gf 11 3 l0 p5.2).bind fun v10 =>
          (ld 100 v10 185 p5.2).bind fun v11 =>
          (gf 11 3 l0 p5.2).bind fun v12 =>
          (sd 100 v12 (w32 (144 + (w32 (3 * v11)))) l1 p5.2).bind fun σ =>
          (gf 11 3 l0 σ).bind fun v13 =>
          (sd 100 v13 (w32 ((w32 (144 + (w32 (3 * v11)))) + 1)) l2 σ).bind fun σ =>
          (gf 11 3 l0 σ).bind fun v14 =>
          (sd 100 v14 (w32 ((w32 (144 + (w32 (3 * v11)))) + 2)) l3 σ).bind fun σ =>
          (gf 11 3 l0 σ).bind fun v15 =>
          (ld 100 v15 185 σ).bind fun v16 =>
          (sd 100 v15 185 (w32 (v16 + 1)) σ).bind fun σ =>
          (gf 11 3 l0 σ).bind fun v17 =>
          (ld 100 v17 185 σ).bind fun v18 =>
          (gk 11 l0 σ).bind fun _ => (M_Mo_good l0 v18 σ).bind fun p19 =>
          some (p19.1, p19.2)
set_option maxRecDepth 100000 in
theorem E_Mo_sight_0 (l0 l1 l2 l3 : Int) (σ : mS) : mblk c_Mo_sight K_Mo_sight (C_Mo_sight) (F_Mo_sight_0) (fun v σ => some (v, σ)) 74 0 (mInit 5 [(3, l0), (1, l1), (1, l2), (1, l3)]) [] σ = M_Mo_sight l0 l1 l2 l3 σ := rfl
def C_Mo_drop : Nat → List mV → mS → Option (Int × mS) := fun k as σ => match k, as with
  | 52, [(1, a0), (1, a1), (1, a2)] => M_Mo_lies a0 a1 a2 σ
  | 53, [(3, a0), (1, a1)] => M_Mo_refuses a0 a1 σ
  | 54, [(3, a0), (1, a1)] => M_Mo_good a0 a1 σ
  | _, _ => none
def K_Mo_drop : Nat → Bool := fun i => i.beq 26
def F_Mo_drop_26 : Nat → List mV → List mV → mS → Option (((Int × mS) ⊕ (Int × mS))) := fun i L st σ => match i, L, st with
  | 26, [(3, l0), _, (1, l2)], [] => some (.inl (l2, σ))
  | _, _, _ => none
def B_Mo_drop_26 (l0 l2 : Int) (σ : mS) : Option (((Int × mS) ⊕ (Int × mS))) :=
  (gf 11 3 l0 σ).bind fun v1 =>
  (ld 100 v1 185 σ).bind fun v2 =>
  if l2 < (w32 (3 * v2)) then 
    (gf 11 3 l0 σ).bind fun v3 =>
    (gf 11 3 l0 σ).bind fun v4 =>
    (ld 100 v4 (w32 ((w32 (144 + l2)) + 3)) σ).bind fun v5 =>
    (sd 100 v3 (w32 (144 + l2)) v5 σ).bind fun σ =>
    some (.inl (w32 (l2 + 1), σ))
  else
    (gf 11 3 l0 σ).bind fun v6 =>
    (ld 100 v6 185 σ).bind fun v7 =>
    (gk 11 l0 σ).bind fun _ => (M_Mo_good l0 v7 σ).bind fun p8 =>
    some (.inr (p8.1, p8.2))
set_option maxRecDepth 100000 in
theorem E_Mo_drop_26 (l0 l2 : Int) (σ : mS) : mblk c_Mo_drop K_Mo_drop (C_Mo_drop) (F_Mo_drop_26) (fun v σ => some (.inr (v, σ))) 58 26 ([(3, l0), (0, 0), (1, l2)]) [] σ = B_Mo_drop_26 l0 l2 σ := rfl
def M_Mo_drop_26 (l0 l2 : Int) (σ : mS) : Option (Int × mS) := miter (fun s : Int × mS => B_Mo_drop_26 l0 s.1 s.2) mN (l2, σ)
def F_Mo_drop_0 : Nat → List mV → List mV → mS → Option (Int × mS) := fun i L st σ => match i, L, st with
  | 26, [(3, l0), _, (1, l2)], [] => M_Mo_drop_26 l0 l2 σ
  | _, _, _ => none
def M_Mo_drop (l0 l1 : Int) (σ : mS) : Option (Int × mS) :=
  (gf 11 3 l0 σ).bind fun v1 =>
  (ld 100 v1 185 σ).bind fun v2 =>
  (M_Mo_lies l1 0 (w32 (v2 - 1)) σ).bind fun p3 =>
  if p3.1 = 0 then 
    (gk 11 l0 p3.2).bind fun _ => (M_Mo_refuses l0 (-2) p3.2).bind fun p4 =>
    some (p4.1, p4.2)
  else
    (gf 11 3 l0 p3.2).bind fun v5 =>
    (ld 100 v5 185 p3.2).bind fun v6 =>
    (sd 100 v5 185 (w32 (v6 - 1)) p3.2).bind fun σ =>
    M_Mo_drop_26 l0 (w32 (3 * l1)) σ
set_option maxRecDepth 100000 in
theorem E_Mo_drop_0 (l0 l1 : Int) (σ : mS) : mblk c_Mo_drop K_Mo_drop (C_Mo_drop) (F_Mo_drop_0) (fun v σ => some (v, σ)) 58 0 (mInit 3 [(3, l0), (1, l1)]) [] σ = M_Mo_drop l0 l1 σ := rfl
def C_Mo_wrongIn : Nat → List mV → mS → Option (Int × mS) := fun k as σ => match k, as with
  | 116, [(3, a0), (1, a1), (1, a2), (1, a3), (1, a4), (1, a5), (1, a6)] => M_Mo_goes a0 a1 a2 a3 a4 a5 a6 σ
  | _, _ => none
def K_Mo_wrongIn : Nat → Bool := fun i => i.beq 4 || i.beq 45
def F_Mo_wrongIn_45 : Nat → List mV → List mV → mS → Option (((Int × Int × mS) ⊕ (Int × mS))) := fun i L st σ => match i, L, st with
  | 4, [(3, l0), (1, l1), (1, l2), (1, l3), _, _], [] => some (.inl (l2, l3, σ))
  | _, _, _ => none
def M_Mo_wrongIn_45 (l0 l1 l2 l3 l4 s0 : Int) (σ : mS) : Option (((Int × Int × mS) ⊕ (Int × mS))) :=
  (gf 11 3 l0 σ).bind fun v1 =>
  (ld 100 v1 (w32 (l4 + 2)) σ).bind fun v2 =>
  if v2 = (-1) then 
    if s0 = 0 then 
      some (.inl (w32 (l2 + 0), w32 (l3 + 1), σ))
    else
      some (.inl (w32 (l2 + 1), w32 (l3 + 1), σ))
  else
    if s0 = 0 then 
      some (.inl (w32 (l2 + 1), w32 (l3 + 1), σ))
    else
      (gf 11 30 l0 σ).bind fun v3 =>
      (gf 11 3 l0 σ).bind fun v4 =>
      (ld 100 v4 (w32 (l4 + 2)) σ).bind fun v5 =>
      if v3 = v5 then 
        some (.inl (w32 (l2 + 0), w32 (l3 + 1), σ))
      else
        some (.inl (w32 (l2 + 1), w32 (l3 + 1), σ))
set_option maxRecDepth 100000 in
theorem E_Mo_wrongIn_45 (l0 l1 l2 l3 l4 s0 : Int) (σ : mS) : mblk c_Mo_wrongIn K_Mo_wrongIn (C_Mo_wrongIn) (F_Mo_wrongIn_45) (fun v σ => some (.inr (v, σ))) 82 45 ([(3, l0), (1, l1), (1, l2), (1, l3), (1, l4), (0, 0)]) [(1, s0)] σ = M_Mo_wrongIn_45 l0 l1 l2 l3 l4 s0 σ := rfl
def F_Mo_wrongIn_4 : Nat → List mV → List mV → mS → Option (((Int × Int × mS) ⊕ (Int × mS))) := fun i L st σ => match i, L, st with
  | 45, [(3, l0), (1, l1), (1, l2), (1, l3), (1, l4), _], [(1, s0)] => M_Mo_wrongIn_45 l0 l1 l2 l3 l4 s0 σ
  | _, _, _ => none
def B_Mo_wrongIn_4 (l0 l1 l2 l3 : Int) (σ : mS) : Option (((Int × Int × mS) ⊕ (Int × mS))) :=
  (gf 11 3 l0 σ).bind fun v1 =>
  (ld 100 v1 185 σ).bind fun v2 =>
  if l3 < v2 then 
    (gf 11 3 l0 σ).bind fun v3 =>
    (ld 100 v3 (w32 (144 + (w32 (3 * l3)))) σ).bind fun v4 =>
    (gf 11 3 l0 σ).bind fun v5 =>
    (ld 100 v5 181 σ).bind fun v6 =>
    (gf 11 3 l0 σ).bind fun v7 =>
    (ld 100 v7 183 σ).bind fun v8 =>
    (gk 11 l0 σ).bind fun _ => (M_Mo_goes l0 v4 l1 v6 v8 1 (-1) σ).bind fun p9 =>
    (gf 11 29 l0 p9.2).bind fun v10 =>
    (gf 11 3 l0 p9.2).bind fun v11 =>
    (ld 100 v11 (w32 ((w32 (144 + (w32 (3 * l3)))) + 1)) p9.2).bind fun v12 =>
    if v10 = v12 then 
      M_Mo_wrongIn_45 l0 l1 l2 l3 (w32 (144 + (w32 (3 * l3)))) 1 p9.2
    else
      M_Mo_wrongIn_45 l0 l1 l2 l3 (w32 (144 + (w32 (3 * l3)))) 0 p9.2
  else
    some (.inr (l2, σ))
set_option maxRecDepth 100000 in
theorem E_Mo_wrongIn_4 (l0 l1 l2 l3 : Int) (σ : mS) : mblk c_Mo_wrongIn K_Mo_wrongIn (C_Mo_wrongIn) (F_Mo_wrongIn_4) (fun v σ => some (.inr (v, σ))) 82 4 ([(3, l0), (1, l1), (1, l2), (1, l3), (0, 0), (0, 0)]) [] σ = B_Mo_wrongIn_4 l0 l1 l2 l3 σ := rfl
def M_Mo_wrongIn_4 (l0 l1 l2 l3 : Int) (σ : mS) : Option (Int × mS) := miter (fun s : Int × Int × mS => B_Mo_wrongIn_4 l0 l1 s.1 s.2.1 s.2.2) mN (l2, l3, σ)
def F_Mo_wrongIn_0 : Nat → List mV → List mV → mS → Option (Int × mS) := fun i L st σ => match i, L, st with
  | 4, [(3, l0), (1, l1), (1, l2), (1, l3), _, _], [] => M_Mo_wrongIn_4 l0 l1 l2 l3 σ
  | _, _, _ => none
def M_Mo_wrongIn (l0 l1 : Int) (σ : mS) : Option (Int × mS) :=
  M_Mo_wrongIn_4 l0 l1 0 0 σ
set_option maxRecDepth 100000 in
theorem E_Mo_wrongIn_0 (l0 l1 : Int) (σ : mS) : mblk c_Mo_wrongIn K_Mo_wrongIn (C_Mo_wrongIn) (F_Mo_wrongIn_0) (fun v σ => some (v, σ)) 82 0 (mInit 6 [(3, l0), (1, l1)]) [] σ = M_Mo_wrongIn l0 l1 σ := rfl
end
