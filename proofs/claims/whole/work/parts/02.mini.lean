/-! THE SMALL MACHINE. Values are pairs (tag, number): tag 1 int, 2 long, 3 reference (0 null; n > 0 the n-th cell made; n < 0 a cell that was there before), 0 nothing. -/
def w32 (x : Int) : Int := (x + 2147483648) % 4294967296 - 2147483648
def w64 (x : Int) : Int := (x + 9223372036854775808) % 18446744073709551616 - 9223372036854775808
def w8 (x : Int) : Int := (x + 128) % 256 - 128
abbrev mV : Type := Nat × Int
/-- contents by cell and slot; kind and length by cell; how many cells; how many slots -/
abbrev mS : Type := (Int → Int → Int) × (Int → Int × Int) × Int × Int
/-- an instruction: kind, two numbers, a constant, a table -/
abbrev mI : Type := Nat × Nat × Nat × Int × List (Int × Nat)
def mup (h : Int → Int → Int) (r i v : Int) : Int → Int → Int := fun r' i' => if r' = r then (if i' = i then v else h r' i') else h r' i'
/-- a field of an object of the kind a -/
def gf (a b r : Int) (σ : mS) : Option Int := if (σ.2.1 r).1 = a then some (σ.1 r b) else none
/-- is it a cell of that kind? -/
def gk (a r : Int) (σ : mS) : Option Unit := if (σ.2.1 r).1 = a then some () else none
/-- two references that may be compared -/
def nng (x y : Int) : Option Unit := if 0 ≤ x ∧ 0 ≤ y then some () else none
def pf (a b r v : Int) (σ : mS) : Option mS := if (σ.2.1 r).1 = a ∧ 0 < r then some (mup σ.1 r b v, σ.2) else none
/-- a boolean field -/
def pz (a b r v : Int) (σ : mS) : Option mS := if (σ.2.1 r).1 = a ∧ 0 < r ∧ (v = 0 ∨ v = 1) then some (mup σ.1 r b v, σ.2) else none
/-- arrays: kind 100 int, 101 byte, 102 boolean, 200 + a references to kind a -/
def ld (k r i : Int) (σ : mS) : Option Int := if (σ.2.1 r).1 = k ∧ 0 ≤ i ∧ i < (σ.2.1 r).2 then some (σ.1 r i) else none
def mnar (k v : Int) : Int := if k = 101 then w8 v else if k = 102 then v % 2 else v
def sd (k r i v : Int) (σ : mS) : Option mS := if (σ.2.1 r).1 = k ∧ 0 < r ∧ 0 ≤ i ∧ i < (σ.2.1 r).2 then some (mup σ.1 r i (mnar k v), σ.2) else none
/-- a store of a reference: to a cell of the kind that the array holds -/
def sr (k r i v : Int) (σ : mS) : Option mS := if (σ.2.1 r).1 = 200 + k ∧ 0 < r ∧ 0 ≤ i ∧ i < (σ.2.1 r).2 ∧ (v = 0 ∨ 0 < v ∧ (σ.2.1 v).1 = k) then some (mup σ.1 r i v, σ.2) else none
def ln (r : Int) (σ : mS) : Option Int := if 100 ≤ (σ.2.1 r).1 ∧ (σ.2.1 r).1 < 300 then some (σ.2.1 r).2 else none
/-- a new cell of kind k and length n: its contents are 0; its number is the count of cells -/
def mnew (k n : Int) (σ : mS) : mS := ((fun r i => if r = σ.2.2.1 + 1 then 0 else σ.1 r i), (fun r => if r = σ.2.2.1 + 1 then (k, n) else σ.2.1 r), σ.2.2.1 + 1, σ.2.2.2 + n)
def na (k n : Int) (σ : mS) : Option mS := if 0 ≤ n ∧ n ≤ 1000000 then some (mnew k n σ) else none
/-- System.arraycopy of int arrays, two different ones -/
def cpy (r p r' p' n : Int) (σ : mS) : Option mS := if (σ.2.1 r).1 = 100 ∧ (σ.2.1 r').1 = 100 ∧ 0 < r' ∧ r ≠ r' ∧ 0 ≤ p ∧ 0 ≤ p' ∧ 0 ≤ n ∧ p + n ≤ (σ.2.1 r).2 ∧ p' + n ≤ (σ.2.1 r').2 then some ((fun q i => if q = r' then (if p' ≤ i ∧ i < p' + n then σ.1 r (p + (i - p')) else σ.1 q i) else σ.1 q i), σ.2) else none
/-- clone of an int array, and a cast to int[] of what it is already -/
def cln (r : Int) (σ : mS) : Option mS := if (σ.2.1 r).1 = 100 ∧ 0 < r then some ((fun q i => if q = σ.2.2.1 + 1 then σ.1 r i else σ.1 q i), (fun q => if q = σ.2.2.1 + 1 then (100, (σ.2.1 r).2) else σ.2.1 q), σ.2.2.1 + 1, σ.2.2.2 + (σ.2.1 r).2) else none
def cki (r : Int) (σ : mS) : Option Int := if (σ.2.1 r).1 = 100 ∧ 0 < r then some r else none
/-- a constant text: kind 300 -/
def tln (r : Int) (σ : mS) : Option Int := if (σ.2.1 r).1 = 300 then some (σ.2.1 r).2 else none
def tch (r i : Int) (σ : mS) : Option Int := if (σ.2.1 r).1 = 300 ∧ 0 ≤ i ∧ i < (σ.2.1 r).2 then some (σ.1 r i) else none
def iand (x y : Int) : Int := (Int32.ofInt x &&& Int32.ofInt y).toInt
def ior (x y : Int) : Int := (Int32.ofInt x ||| Int32.ofInt y).toInt
def ixor (x y : Int) : Int := (Int32.ofInt x ^^^ Int32.ofInt y).toInt
def ishl (x y : Int) : Int := (Int32.ofInt x <<< (Int32.ofInt y &&& 31)).toInt
def ishr (x y : Int) : Int := (Int32.ofInt x >>> (Int32.ofInt y &&& 31)).toInt
def iushr (x y : Int) : Int := ((Int32.ofInt x).toUInt32 >>> ((Int32.ofInt y).toUInt32 &&& Int32.toUInt32 31)).toInt32.toInt
def idv (x y : Int) : Option Int := if y = 0 then none else some (w32 (Int.tdiv x y))
def irm (x y : Int) : Option Int := if y = 0 then none else some (Int.tmod x y)
def ldv (x y : Int) : Option Int := if y = 0 then none else some (w64 (Int.tdiv x y))
def lrm (x y : Int) : Option Int := if y = 0 then none else some (Int.tmod x y)
/-- Math.max, min, abs -/
def jmax (x y : Int) : Int := if x < y then y else x
def jmin (x y : Int) : Int := if y < x then y else x
def jabs (x : Int) : Int := if 0 ≤ x then x else w32 (0 - x)
def lcp (x y : Int) : Int := if x < y then -1 else if x = y then 0 else 1
def mset (L : List mV) (a : Nat) (v : mV) : List mV :=
  match a with
  | 0 => cond (v.1.beq 2) ((L.set 0 v).set 1 (0, 0)) (L.set 0 v)
  | b + 1 => match L[b]? with
    | some (2, _) => cond (v.1.beq 2) (((L.set b (0, 0)).set (b + 1) v).set (b + 2) (0, 0)) ((L.set b (0, 0)).set (b + 1) v)
    | _ => cond (v.1.beq 2) ((L.set (b + 1) v).set (b + 2) (0, 0)) (L.set (b + 1) v)
def mcat : List mV → Nat
  | [] => 0
  | (2, _) :: r => 2 + mcat r
  | _ :: r => 1 + mcat r
def mpush (t : Nat) (v : Int) (st : List mV) : List mV := match t with
  | 0 => st
  | t + 1 => (t + 1, v) :: st
def mexp : List mV → List mV
  | [] => []
  | (2, v) :: r => (2, v) :: (0, 0) :: mexp r
  | v :: r => v :: mexp r
def mInit (n : Nat) (as : List mV) : List mV := mexp as ++ List.replicate (n - (mexp as).length) (0, 0)
def msw {β : Type} (N : Nat → Option β) (d : Nat) (x : Int) : List (Int × Nat) → Option β
  | [] => N d
  | (v, t) :: r => if x = v then N t else msw N d x r
def mbin {β : Type} (a : Nat) (x y : Int) (K : Int → Option β) : Option β := match a with
  | 0 => K (w32 (x + y))
  | 1 => K (w32 (x - y))
  | 2 => K (w32 (x * y))
  | 3 => (idv x y).bind K
  | 4 => (irm x y).bind K
  | 5 => K (iand x y)
  | 6 => K (ior x y)
  | 7 => K (ixor x y)
  | 8 => K (ishl x y)
  | 9 => K (ishr x y)
  | 10 => K (iushr x y)
  | _ => none
def mlbin {β : Type} (a : Nat) (x y : Int) (K : Int → Option β) : Option β := match a with
  | 0 => K (w64 (x + y))
  | 1 => K (w64 (x - y))
  | 2 => K (w64 (x * y))
  | 3 => (ldv x y).bind K
  | 4 => (lrm x y).bind K
  | _ => none
def mif {β : Type} (a : Nat) (x y : Int) (T F : Option β) : Option β := match a with
  | 0 => if x = y then T else F
  | 1 => if x = y then F else T
  | 2 => if x < y then T else F
  | 3 => if x < y then F else T
  | 4 => if y < x then T else F
  | _ => if y < x then F else T
/-- one instruction: C calls, N goes on, R returns -/
def mstep {β : Type} (C : Nat → List mV → mS → Option (Int × mS)) (N : Nat → List mV → List mV → mS → Option β) (R : Int → mS → Option β) (mi : mI) (i : Nat) (L st : List mV) (σ : mS) : Option β :=
  match mi with
  | (0, a, _, c, _) => N (i + 1) L ((a, c) :: st) σ
  | (1, a, b, _, _) => match L[a]? with
    | some (t, v) => cond (t.beq b) (N (i + 1) L ((b, v) :: st) σ) none
    | none => none
  | (2, a, b, _, _) => match st with
    | (t, v) :: st => cond (t.beq b && (a + (cond (b.beq 2) 1 0)).blt L.length) (N (i + 1) (mset L a (b, v)) st σ) none
    | [] => none
  | (3, a, _, c, _) => match L[a]? with
    | some (1, v) => N (i + 1) (mset L a (1, w32 (v + c))) st σ
    | _ => none
  | (4, a, _, _, _) => match st with
    | (1, y) :: (1, x) :: st => mbin a x y (fun v => N (i + 1) L ((1, v) :: st) σ)
    | _ => none
  | (5, a, _, _, _) => match st with
    | (2, y) :: (2, x) :: st => mlbin a x y (fun v => N (i + 1) L ((2, v) :: st) σ)
    | _ => none
  | (6, a, _, _, _) => match a, st with
    | 0, (1, x) :: st => N (i + 1) L ((1, w32 (-x)) :: st) σ
    | 1, (1, x) :: st => N (i + 1) L ((2, x) :: st) σ
    | 2, (2, x) :: st => N (i + 1) L ((1, w32 x) :: st) σ
    | 3, (1, x) :: st => N (i + 1) L ((1, w8 x) :: st) σ
    | 4, (2, y) :: (2, x) :: st => N (i + 1) L ((1, lcp x y) :: st) σ
    | _, _ => none
  | (7, a, b, _, _) => match st with
    | (1, x) :: st => mif a x 0 (N b L st σ) (N (i + 1) L st σ)
    | _ => none
  | (8, a, b, _, _) => match st with
    | (1, y) :: (1, x) :: st => mif a x y (N b L st σ) (N (i + 1) L st σ)
    | _ => none
  | (9, _, b, _, _) => N b L st σ
  | (10, a, b, _, _) => match st with
    | (3, x) :: st => mif a x 0 (N b L st σ) (N (i + 1) L st σ)
    | _ => none
  | (11, a, b, _, _) => match st with
    | (3, y) :: (3, x) :: st => (nng x y).bind fun _ => mif a x y (N b L st σ) (N (i + 1) L st σ)
    | _ => none
  | (12, _, b, _, t) => match st with
    | (1, x) :: st => msw (fun j => N j L st σ) b x t
    | _ => none
  | (13, a, b, c, _) => match st with
    | (3, r) :: st => (gf a b r σ).bind fun v => N (i + 1) L ((c.toNat, v) :: st) σ
    | _ => none
  | (14, a, b, c, _) => match c, st with
    | 4, (1, v) :: (3, r) :: st => (pz a b r v σ).bind fun σ => N (i + 1) L st σ
    | 1, (1, v) :: (3, r) :: st => (pf a b r v σ).bind fun σ => N (i + 1) L st σ
    | 3, (3, v) :: (3, r) :: st => (pf a b r v σ).bind fun σ => N (i + 1) L st σ
    | _, _ => none
  | (15, a, b, _, _) => match st with
    | (1, j) :: (3, r) :: st => (ld a r j σ).bind fun v => N (i + 1) L ((b, v) :: st) σ
    | _ => none
  | (16, a, b, _, _) => match b, st with
    | 1, (1, v) :: (1, j) :: (3, r) :: st => (sd a r j v σ).bind fun σ => N (i + 1) L st σ
    | 3, (3, v) :: (1, j) :: (3, r) :: st => (sr a r j v σ).bind fun σ => N (i + 1) L st σ
    | _, _ => none
  | (17, _, _, _, _) => match st with
    | (3, r) :: st => (ln r σ).bind fun v => N (i + 1) L ((1, v) :: st) σ
    | _ => none
  | (18, a, b, _, _) => N (i + 1) L ((3, σ.2.2.1 + 1) :: st) (mnew a b σ)
  | (19, a, _, _, _) => match st with
    | (1, n) :: st => (na a n σ).bind fun σ' => N (i + 1) L ((3, σ'.2.2.1) :: st) σ'
    | _ => none
  | (20, a, b, c, t) => cond ((mcat (st.drop b)).ble 8 && (st.take b).length.beq b) (match t, (st.take b).reverse with
    | [], as => (C a as σ).bind fun p => N (i + 1) L (mpush c.toNat p.1 (st.drop b)) p.2
    | (kd, _) :: _, (3, r) :: as => (gk kd r σ).bind fun _ => (C a ((3, r) :: as) σ).bind fun p => N (i + 1) L (mpush c.toNat p.1 (st.drop b)) p.2
    | _, _ => none) none
  | (21, a, _, _, _) => match a, st with
    | 0, [] => R 0 σ
    | 4, [(1, v)] => if v = 0 ∨ v = 1 then R v σ else none
    | 1, [(1, v)] => R v σ
    | 2, [(2, v)] => R v σ
    | 3, [(3, v)] => R v σ
    | _, _ => none
  | (22, a, _, _, _) => match a, st with
    | 0, (1, v) :: st => N (i + 1) L ((1, v) :: (1, v) :: st) σ
    | 0, (3, v) :: st => N (i + 1) L ((3, v) :: (3, v) :: st) σ
    | 1, (1, v) :: (3, u) :: st => N (i + 1) L ((1, v) :: (3, u) :: (1, v) :: (3, u) :: st) σ
    | 2, (1, _) :: st => N (i + 1) L st σ
    | 2, (3, _) :: st => N (i + 1) L st σ
    | _, _ => none
  | (23, _, _, _, _) => match st with
    | (1, n) :: (1, p') :: (3, r') :: (1, p) :: (3, r) :: st => cond ((mcat st).ble 8) ((cpy r p r' p' n σ).bind fun σ => N (i + 1) L st σ) none
    | _ => none
  | (24, a, _, _, _) => match st with
    | (3, r) :: st => cond ((mcat st).ble 8) ((gk a r σ).bind fun _ => N (i + 1) L st σ) none
    | _ => none
  | (25, _, _, _, _) => match st with
    | (3, r) :: st => cond ((mcat st).ble 8) ((tln r σ).bind fun v => N (i + 1) L ((1, v) :: st) σ) none
    | _ => none
  | (26, _, _, _, _) => match st with
    | (1, j) :: (3, r) :: st => cond ((mcat st).ble 8) ((tch r j σ).bind fun v => N (i + 1) L ((1, v) :: st) σ) none
    | _ => none
  | (27, _, _, _, _) => match st with
    | (3, r) :: st => cond ((mcat st).ble 8) ((cln r σ).bind fun σ' => N (i + 1) L ((3, σ'.2.2.1) :: st) σ') none
    | _ => none
  | (28, _, _, _, _) => match st with
    | (3, r) :: st => (cki r σ).bind fun v => N (i + 1) L ((3, v) :: st) σ
    | _ => none
  | (29, a, _, _, _) => match a, st with
    | 0, (1, y) :: (1, x) :: st => cond ((mcat st).ble 8) (N (i + 1) L ((1, jmax x y) :: st) σ) none
    | 1, (1, y) :: (1, x) :: st => cond ((mcat st).ble 8) (N (i + 1) L ((1, jmin x y) :: st) σ) none
    | 2, (1, x) :: st => cond ((mcat st).ble 8) (N (i + 1) L ((1, jabs x) :: st) σ) none
    | _, _ => none
  | _ => none
abbrev mP : Type := Nat → List mI × Nat
/-- the machine: n instructions at most, calls within one another at most d -/
def mgo (P : mP) : Nat → Nat → Nat → Nat → List mV → List mV → mS → Option (Int × mS)
  | 0, _, _, _, _, _, _ => none
  | n + 1, d, k, i, L, st, σ => match (P k).1[i]? with
    | none => none
    | some mi => mstep (fun k' as σ => match d with
      | 0 => none
      | d' + 1 => mgo P n d' k' 0 (mInit (P k').2 as) [] σ) (fun i L st σ => mgo P n d k i L st σ) (fun v σ => some (v, σ)) mi i L st σ
/-- a stretch of a method up to its cuts -/
def mblk {β : Type} (cd : List mI) (cut : Nat → Bool) (C : Nat → List mV → mS → Option (Int × mS)) (F : Nat → List mV → List mV → mS → Option β) (R : Int → mS → Option β) : Nat → Nat → List mV → List mV → mS → Option β
  | 0, _, _, _, _ => none
  | n + 1, i, L, st, σ => match cd[i]? with
    | none => none
    | some mi => mstep C (fun i L st σ => cond (cut i) (F i L st σ) (mblk cd cut C F R n i L st σ)) R mi i L st σ
def mlet {α β : Type} (x : α) (f : α → β) : β := f x
/-- a loop: f tells where to go on, or the end; n rounds at most -/
def miter {α β : Type} (f : α → Option (α ⊕ β)) : Nat → α → Option β
  | 0, _ => none
  | n + 1, a => (f a).bind fun x => match x with
    | .inl a => miter f n a
    | .inr b => some b
theorem mN_ex : ∃ n : Nat, n = 100000 := ⟨_, rfl⟩
/-- how often a loop goes round at most: a number that does not unfold -/
noncomputable def mN : Nat := mN_ex.choose
theorem mN_eq : mN = 100000 := mN_ex.choose_spec
theorem mD_ex : ∃ n : Nat, n = 60 := ⟨_, rfl⟩
/-- how deep methods that call themselves go at most -/
noncomputable def mD : Nat := mD_ex.choose
theorem mD_eq : mD = 60 := mD_ex.choose_spec
