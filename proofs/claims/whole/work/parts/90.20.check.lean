/-! what the small machine's code must be beside the class files: a check of every instruction, by the kernel -/
def lw_g : List Cond := lw_tbl.filter goodWord
theorem lw_g_in {w : Cond} (h1 : w ∈ lw_tbl) (h2 : goodWord w = true) : w ∈ lw_g := List.mem_filter.mpr ⟨h1, h2⟩
theorem lw_g_good : ∀ w ∈ lw_g, (w.onTables && w.keeps) = true ∨ ∃ ty, w = .arrayClass ty := fun _ h => good_of_word (List.mem_filter.mp h).2
abbrev mI0 (k : Nat) : Nat × MethodName × ByteArray × Nat × Option FieldType := mInf.getD k (99, ⟨"", "", ""⟩, ByteArray.empty, 0, none)
abbrev mYn (k : Nat) : MethodName := (mI0 k).2.1
abbrev mBy (k : Nat) : ByteArray := (mI0 k).2.2.1
abbrev mMx (k : Nat) : Nat := (mI0 k).2.2.2.1
abbrev mRt (k : Nat) : Option FieldType := (mI0 k).2.2.2.2
def mPc (k i : Nat) : Nat := (mPcs.getD k []).getD i 0
def mnx (k i len n : Nat) : Bool := len.beq n && (mPc k (i + 1)).beq (mPc k i + n)
def mtg (k i : Nat) (off : Int) (t : Nat) : Bool := decide (((mPc k i : Nat) : Int) + off = ((mPc k t : Nat) : Int))
def mcn : Jvm.ClassFile.Cond → Nat
  | .eq => 0
  | .ne => 1
  | .lt => 2
  | .ge => 3
  | .gt => 4
  | .le => 5
def mac : ACond → Nat
  | .eq => 0
  | .ne => 1
/-- the tag of what a method returns -/
def mrt : Option FieldType → Nat
  | none => 0
  | some .int => 1
  | some .boolean => 4
  | some .long => 2
  | some (.object _) => 3
  | some (.array _) => 3
  | _ => 9
/-- the tag that a call of it leaves on the stack -/
def mrs : Option FieldType → Int
  | none => 0
  | some .int => 1
  | some .boolean => 1
  | some .long => 2
  | some (.object _) => 3
  | some (.array _) => 3
  | _ => 9
def mparN (k : Nat) : Nat := match parseMethodDescriptor (mYn k).desc with
  | some d => d.parameters.length
  | none => 99
/-- the tag of a field -/
def mft : FieldType → Int
  | .int => 1
  | .boolean => 4
  | .object _ => 3
  | .array _ => 3
  | _ => 9
def mfg : FieldType → Int
  | .int => 1
  | .boolean => 1
  | .object _ => 3
  | .array _ => 3
  | _ => 9
def mff (a b : Nat) : Bool := match mCl[a - 1]? with
  | some (_, _, n) => b.blt n && (1 : Nat).ble a
  | none => false
/-- a field that is final -/
def mfin (a b : Nat) : Bool := match mCl[a - 1]? with
  | some (_, T, _) => (T b).2.2.2
  | none => false
def mdec (a b : Nat) : String := match mCl[a - 1]? with
  | some (_, T, _) => (T b).1
  | none => ""
def mtbl (k i : Nat) (lo : Int) : List Int → List (Int × Nat) → Bool
  | [], [] => true
  | o :: os, (v, t) :: r => decide (v = lo) && mtg k i o t && mtbl k i (lo + 1) os r
  | _, _ => false
def mlkp (k i : Nat) : List (Int × Int) → List (Int × Nat) → Bool
  | [], [] => true
  | (v', o) :: os, (v, t) :: r => decide (v = v') && mtg k i o t && mlkp k i os r
  | _, _ => false
/-- the kind of the objects that the method a belongs to -/
def mgd (a : Nat) (kd : Int) : Bool := match mCl[(kd - 1).toNat]? with
  | some (C, _, _) => decide ((mYn a).cls = C) && decide (1 ≤ kd)
  | none => false
def mck0 (k i : Nat) (ins : Instr) (len a b : Nat) (c : Int) (t : List (Int × Nat)) : Bool := match ins, a, b, t with
  | .iconst n, 1, _, _ => mnx k i len 1 && decide ((Int32.ofInt n).toInt = c)
  | .bipush n, 1, _, _ => mnx k i len 2 && decide ((Int8.ofInt n).toInt32.toInt = c)
  | .sipush n, 1, _, _ => mnx k i len 3 && decide ((Int16.ofInt n).toInt32.toInt = c)
  | .ldc x, 1, _, _ => mnx k i len 2 && (mKl (mI0 k).1).any (fun e => e.1.beq x && decide (e.2.1 = c))
  | .ldc_w x, 1, _, _ => mnx k i len 3 && (mKl (mI0 k).1).any (fun e => e.1.beq x && decide (e.2.1 = c))
  | .ldc x, 3, _, _ => mnx k i len 2 && (mSl (mI0 k).1).any (fun e => e.1.beq x && decide (e.2.1 = c))
  | .lconst n, 2, _, _ => mnx k i len 1 && decide ((Int64.ofNat (n : Nat)).toInt = c)
  | .ldc2_w x, 2, _, _ => mnx k i len 3 && (mLl (mI0 k).1).any (fun e => e.1.beq x && decide (e.2.1 = c))
  | .aconst_null, 3, _, _ => mnx k i len 1 && decide (c = 0)
  | .getstatic x, 3, _, _ => mnx k i len 3 && (mGl (mI0 k).1).any (fun e => e.1.beq x && decide (e.2 = c))
  | _, _, _, _ => false
def mck1 (k i : Nat) (ins : Instr) (len a b : Nat) (c : Int) (t : List (Int × Nat)) : Bool := match ins, a, b, t with
  | .iload j, a, 1, _ => mnx k i len 2 && j.beq a
  | .iload_n j, a, 1, _ => mnx k i len 1 && (j : Nat).beq a
  | .lload j, a, 2, _ => mnx k i len 2 && j.beq a
  | .lload_n j, a, 2, _ => mnx k i len 1 && (j : Nat).beq a
  | .aload j, a, 3, _ => mnx k i len 2 && j.beq a
  | .aload_n j, a, 3, _ => mnx k i len 1 && (j : Nat).beq a
  | _, _, _, _ => false
def mck2 (k i : Nat) (ins : Instr) (len a b : Nat) (c : Int) (t : List (Int × Nat)) : Bool := match ins, a, b, t with
  | .istore j, a, 1, _ => mnx k i len 2 && j.beq a
  | .istore_n j, a, 1, _ => mnx k i len 1 && (j : Nat).beq a
  | .lstore j, a, 2, _ => mnx k i len 2 && j.beq a
  | .lstore_n j, a, 2, _ => mnx k i len 1 && (j : Nat).beq a
  | .astore j, a, 3, _ => mnx k i len 2 && j.beq a
  | .astore_n j, a, 3, _ => mnx k i len 1 && (j : Nat).beq a
  | _, _, _, _ => false
def mck3 (k i : Nat) (ins : Instr) (len a b : Nat) (c : Int) (t : List (Int × Nat)) : Bool := match ins, a, b, t with
  | .iinc j n, a, _, _ => mnx k i len 3 && j.beq a && decide ((Int32.ofInt n).toInt = c)
  | _, _, _, _ => false
def mck4 (k i : Nat) (ins : Instr) (len a b : Nat) (c : Int) (t : List (Int × Nat)) : Bool := match ins, a, b, t with
  | .iadd, 0, _, _ => mnx k i len 1
  | .isub, 1, _, _ => mnx k i len 1
  | .imul, 2, _, _ => mnx k i len 1
  | .idiv, 3, _, _ => mnx k i len 1
  | .irem, 4, _, _ => mnx k i len 1
  | .iand, 5, _, _ => mnx k i len 1
  | .ior, 6, _, _ => mnx k i len 1
  | .ixor, 7, _, _ => mnx k i len 1
  | .ishl, 8, _, _ => mnx k i len 1
  | .ishr, 9, _, _ => mnx k i len 1
  | .iushr, 10, _, _ => mnx k i len 1
  | _, _, _, _ => false
def mck5 (k i : Nat) (ins : Instr) (len a b : Nat) (c : Int) (t : List (Int × Nat)) : Bool := match ins, a, b, t with
  | .ladd, 0, _, _ => mnx k i len 1
  | .lsub, 1, _, _ => mnx k i len 1
  | .lmul, 2, _, _ => mnx k i len 1
  | .ldiv, 3, _, _ => mnx k i len 1
  | .lrem, 4, _, _ => mnx k i len 1
  | _, _, _, _ => false
def mck6 (k i : Nat) (ins : Instr) (len a b : Nat) (c : Int) (t : List (Int × Nat)) : Bool := match ins, a, b, t with
  | .ineg, 0, _, _ => mnx k i len 1
  | .i2l, 1, _, _ => mnx k i len 1
  | .l2i, 2, _, _ => mnx k i len 1
  | .i2b, 3, _, _ => mnx k i len 1
  | .lcmp, 4, _, _ => mnx k i len 1
  | _, _, _, _ => false
def mck7 (k i : Nat) (ins : Instr) (len a b : Nat) (c : Int) (t : List (Int × Nat)) : Bool := match ins, a, b, t with
  | .ifCond cd o, a, b, _ => mnx k i len 3 && (mcn cd).beq a && mtg k i o b
  | _, _, _, _ => false
def mck8 (k i : Nat) (ins : Instr) (len a b : Nat) (c : Int) (t : List (Int × Nat)) : Bool := match ins, a, b, t with
  | .if_icmp cd o, a, b, _ => mnx k i len 3 && (mcn cd).beq a && mtg k i o b
  | _, _, _, _ => false
def mck9 (k i : Nat) (ins : Instr) (len a b : Nat) (c : Int) (t : List (Int × Nat)) : Bool := match ins, a, b, t with
  | .goto o, _, b, _ => len.beq 3 && mtg k i o b
  | _, _, _, _ => false
def mck10 (k i : Nat) (ins : Instr) (len a b : Nat) (c : Int) (t : List (Int × Nat)) : Bool := match ins, a, b, t with
  | .ifnull o, 0, b, _ => mnx k i len 3 && mtg k i o b
  | .ifnonnull o, 1, b, _ => mnx k i len 3 && mtg k i o b
  | _, _, _, _ => false
def mck11 (k i : Nat) (ins : Instr) (len a b : Nat) (c : Int) (t : List (Int × Nat)) : Bool := match ins, a, b, t with
  | .if_acmp cd o, a, b, _ => mnx k i len 3 && (mac cd).beq a && mtg k i o b
  | _, _, _, _ => false
def mck12 (k i : Nat) (ins : Instr) (len a b : Nat) (c : Int) (t : List (Int × Nat)) : Bool := match ins, a, b, t with
  | .tableswitch d lo hi os, _, b, t => mtg k i d b && decide ((os.toList.length : Int) = hi - lo + 1) && mtbl k i lo os.toList t
  | .lookupswitch d ps, _, b, t => mtg k i d b && (ps.toList.zip (ps.toList.drop 1)).all (fun (a, next) => a.1 < next.1) && mlkp k i ps.toList t
  | _, _, _, _ => false
def mck13 (k i : Nat) (ins : Instr) (len a b : Nat) (c : Int) (t : List (Int × Nat)) : Bool := match ins, a, b, t with
  | .getfield x, a, b, _ => mnx k i len 3 && (mFl (mI0 k).1).any (fun e => e.1.beq x && e.2.1.beq a && e.2.2.1.beq b) && mff a b && decide (mfg (mY (a - 1) b) = c)
  | _, _, _, _ => false
def mck14 (k i : Nat) (ins : Instr) (len a b : Nat) (c : Int) (t : List (Int × Nat)) : Bool := match ins, a, b, t with
  | .putfield x, a, b, _ => mnx k i len 3 && (mFl (mI0 k).1).any (fun e => e.1.beq x && e.2.1.beq a && e.2.2.1.beq b) && mff a b && decide (mft (mY (a - 1) b) = c) && (!(mfin a b) || (decide ((mYn k).name = "<init>") && decide (mdec a b = mO (mI0 k).1)))
  | _, _, _, _ => false
def mck15 (k i : Nat) (ins : Instr) (len a b : Nat) (c : Int) (t : List (Int × Nat)) : Bool := match ins, a, b, t with
  | .iaload, 100, 1, _ => mnx k i len 1
  | .baload, 101, 1, _ => mnx k i len 1
  | .baload, 102, 1, _ => mnx k i len 1
  | .aaload, a, 3, _ => mnx k i len 1 && (201 : Nat).ble a && a.blt 220
  | _, _, _, _ => false
def mck16 (k i : Nat) (ins : Instr) (len a b : Nat) (c : Int) (t : List (Int × Nat)) : Bool := match ins, a, b, t with
  | .iastore, 100, 1, _ => mnx k i len 1
  | .bastore, 101, 1, _ => mnx k i len 1
  | .bastore, 102, 1, _ => mnx k i len 1
  | .aastore, a, 3, _ => mnx k i len 1 && (1 : Nat).ble a && a.blt 20
  | _, _, _, _ => false
def mck17 (k i : Nat) (ins : Instr) (len a b : Nat) (c : Int) (t : List (Int × Nat)) : Bool := match ins, a, b, t with
  | .arraylength, _, _, _ => mnx k i len 1
  | _, _, _, _ => false
def mck18 (k i : Nat) (ins : Instr) (len a b : Nat) (c : Int) (t : List (Int × Nat)) : Bool := match ins, a, b, t with
  | .new x, a, b, _ => mnx k i len 3 && (mCll (mI0 k).1).any (fun e => e.1.beq x && e.2.1.beq a) && (match mCl[a - 1]? with
    | some (_, _, n) => n.beq b && (1 : Nat).ble a
    | none => false)
  | _, _, _, _ => false
def mck19 (k i : Nat) (ins : Instr) (len a b : Nat) (c : Int) (t : List (Int × Nat)) : Bool := match ins, a, b, t with
  | .newarray .int, 100, _, _ => mnx k i len 2
  | .newarray .byte, 101, _, _ => mnx k i len 2
  | .newarray .boolean, 102, _, _ => mnx k i len 2
  | .anewarray x, a, _, _ => mnx k i len 3 && (mAl (mI0 k).1).any (fun e => e.1.beq x && e.2.1.beq (a - 200)) && (201 : Nat).ble a && a.blt 220
  | _, _, _, _ => false
def mck20 (k i : Nat) (ins : Instr) (len a b : Nat) (c : Int) (t : List (Int × Nat)) : Bool := match ins, a, b, t with
  | .invokevirtual x, a, b, (kd, _) :: _ => mVi.contains a && !(decide ((mYn a).name = "<init>")) && mgd a kd && mnx k i len 3 && (mMl (mI0 k).1).any (fun e => e.1.beq x && e.2.1.beq a) && b.beq (mparN a + 1) && decide (mrs (mRt a) = c)
  | .invokestatic x, a, b, [] => mSt.contains a && mnx k i len 3 && (mMl (mI0 k).1).any (fun e => e.1.beq x && e.2.1.beq a) && b.beq (mparN a) && decide (mrs (mRt a) = c)
  | .invokespecial x, a, b, (kd, _) :: _ => mVi.contains a && mgd a kd && mnx k i len 3 && ((mMl (mI0 k).1).any (fun e => e.1.beq x && e.2.1.beq a) || mTl.contains ((mI0 k).1, x, a)) && b.beq (mparN a + 1) && decide (mRt a = none) && decide (c = 0) && decide ((mYn a).name = "<init>")
  | _, _, _, _ => false
def mck21 (k i : Nat) (ins : Instr) (len a b : Nat) (c : Int) (t : List (Int × Nat)) : Bool := match ins, a, b, t with
  | .return_, 0, _, _ => len.beq 1 && (mrt (mRt k)).beq 0
  | .ireturn, 1, _, _ => len.beq 1 && (mrt (mRt k)).beq 1
  | .ireturn, 4, _, _ => len.beq 1 && (mrt (mRt k)).beq 4
  | .lreturn, 2, _, _ => len.beq 1 && (mrt (mRt k)).beq 2
  | .areturn, 3, _, _ => len.beq 1 && (mrt (mRt k)).beq 3
  | _, _, _, _ => false
def mck22 (k i : Nat) (ins : Instr) (len a b : Nat) (c : Int) (t : List (Int × Nat)) : Bool := match ins, a, b, t with
  | .dup, 0, _, _ => mnx k i len 1
  | .dup2, 1, _, _ => mnx k i len 1
  | .pop, 2, _, _ => mnx k i len 1
  | _, _, _, _ => false
def mck23 (k i : Nat) (ins : Instr) (len a b : Nat) (c : Int) (t : List (Int × Nat)) : Bool := match ins, a, b, t with
  | .invokestatic x, _, _, _ => mnx k i len 3 && (mYl (mI0 k).1).any (fun e => e.1.beq x)
  | _, _, _, _ => false
def mck24 (k i : Nat) (ins : Instr) (len a b : Nat) (c : Int) (t : List (Int × Nat)) : Bool := match ins, a, b, t with
  | .invokespecial x, a, _, _ => mnx k i len 3 && (1 : Nat).ble a && a.blt 12 && (mOl (mI0 k).1).any (fun e => e.1.beq x)
  | _, _, _, _ => false
def mck25 (k i : Nat) (ins : Instr) (len a b : Nat) (c : Int) (t : List (Int × Nat)) : Bool := match ins, a, b, t with
  | .invokevirtual x, _, _, _ => mnx k i len 3 && (mNl (mI0 k).1).any (fun e => e.1.beq x && e.2.1.beq 25)
  | _, _, _, _ => false
def mck26 (k i : Nat) (ins : Instr) (len a b : Nat) (c : Int) (t : List (Int × Nat)) : Bool := match ins, a, b, t with
  | .invokevirtual x, _, _, _ => mnx k i len 3 && (mNl (mI0 k).1).any (fun e => e.1.beq x && e.2.1.beq 26)
  | _, _, _, _ => false
def mck27 (k i : Nat) (ins : Instr) (len a b : Nat) (c : Int) (t : List (Int × Nat)) : Bool := match ins, a, b, t with
  | .invokevirtual x, _, _, _ => mnx k i len 3 && x.beq 316 && (mI0 k).1.beq 13
  | _, _, _, _ => false
def mck28 (k i : Nat) (ins : Instr) (len a b : Nat) (c : Int) (t : List (Int × Nat)) : Bool := match ins, a, b, t with
  | .checkcast x, _, _, _ => mnx k i len 3 && x.beq 317 && (mI0 k).1.beq 13
  | _, _, _, _ => false
def mck29 (k i : Nat) (ins : Instr) (len a b : Nat) (c : Int) (t : List (Int × Nat)) : Bool := match ins, a, b, t with
  | .invokestatic x, a, _, _ => mnx k i len 3 && (mQl (mI0 k).1).any (fun e => e.1.beq x && e.2.1.beq a) && a.blt 3
  | _, _, _, _ => false
/-- is the instruction mi, at the place i of the method k, the class file's instruction ins? -/
def mchk (k i : Nat) (ins : Instr) (len : Nat) (mi : mI) : Bool := match mi with
  | (0, a, b, c, t) => mck0 k i ins len a b c t
  | (1, a, b, c, t) => mck1 k i ins len a b c t
  | (2, a, b, c, t) => mck2 k i ins len a b c t
  | (3, a, b, c, t) => mck3 k i ins len a b c t
  | (4, a, b, c, t) => mck4 k i ins len a b c t
  | (5, a, b, c, t) => mck5 k i ins len a b c t
  | (6, a, b, c, t) => mck6 k i ins len a b c t
  | (7, a, b, c, t) => mck7 k i ins len a b c t
  | (8, a, b, c, t) => mck8 k i ins len a b c t
  | (9, a, b, c, t) => mck9 k i ins len a b c t
  | (10, a, b, c, t) => mck10 k i ins len a b c t
  | (11, a, b, c, t) => mck11 k i ins len a b c t
  | (12, a, b, c, t) => mck12 k i ins len a b c t
  | (13, a, b, c, t) => mck13 k i ins len a b c t
  | (14, a, b, c, t) => mck14 k i ins len a b c t
  | (15, a, b, c, t) => mck15 k i ins len a b c t
  | (16, a, b, c, t) => mck16 k i ins len a b c t
  | (17, a, b, c, t) => mck17 k i ins len a b c t
  | (18, a, b, c, t) => mck18 k i ins len a b c t
  | (19, a, b, c, t) => mck19 k i ins len a b c t
  | (20, a, b, c, t) => mck20 k i ins len a b c t
  | (21, a, b, c, t) => mck21 k i ins len a b c t
  | (22, a, b, c, t) => mck22 k i ins len a b c t
  | (23, a, b, c, t) => mck23 k i ins len a b c t
  | (24, a, b, c, t) => mck24 k i ins len a b c t
  | (25, a, b, c, t) => mck25 k i ins len a b c t
  | (26, a, b, c, t) => mck26 k i ins len a b c t
  | (27, a, b, c, t) => mck27 k i ins len a b c t
  | (28, a, b, c, t) => mck28 k i ins len a b c t
  | (29, a, b, c, t) => mck29 k i ins len a b c t
  | _ => false
def mok1 (k i : Nat) (mi : mI) : Bool := match decode (mBy k) (mPc k i) with
  | .ok (ins, len) => mchk k i ins len mi
  | _ => false
def mokL (k : Nat) : Nat → List mI → Bool
  | _, [] => true
  | i, mi :: r => mok1 k i mi && mokL k (i + 1) r
def mw (i : Nat) (w : Cond) : Bool := goodWord w && decide (lw_tbl[i]? = some w)
theorem mw_in {i : Nat} {w : Cond} (h : mw i w = true) : w ∈ lw_g := by
  unfold mw at h
  simp only [Bool.and_eq_true, decide_eq_true_eq] at h
  exact lw_g_in (List.mem_of_getElem? h.2) h.1
def mFlb (o : Nat) (q : Nat × Nat × Nat × Nat) : Bool := match mCl[q.2.1 - 1]? with
  | some (C, T, _) => mw q.2.2.2 (.fieldLink (mO o) q.1 C (T q.2.2.1).2.1 (T q.2.2.1).2.2.1) && decide ((T q.2.2.1).1 = C)
  | none => false
def mMlb (o : Nat) (q : Nat × Nat × Nat) : Bool := mw q.2.2 (.methodLink (mO o) q.1 (mYn q.2.1))
def mKlb (o : Nat) (q : Nat × Int × Nat) : Bool := mw q.2.2 (.constant (mO o) q.1 (Int32.ofInt q.2.1)) && decide ((Int32.ofInt q.2.1).toInt = q.2.1)
def mLlb (o : Nat) (q : Nat × Int × Nat) : Bool := mw q.2.2 (.constantLong (mO o) q.1 (Int64.ofInt q.2.1)) && decide ((Int64.ofInt q.2.1).toInt = q.2.1)
def mClb (o : Nat) (q : Nat × Nat × Nat) : Bool := match mCl[q.2.1 - 1]? with
  | some (C, _, _) => mw q.2.2 (.classLink (mO o) q.1 C)
  | none => false
def mAlb (o : Nat) (q : Nat × Nat × Nat × Nat) : Bool := match mCl[q.2.1 - 1]? with
  | some (C, _, _) => mw q.2.2.1 (.classLink (mO o) q.1 C)
  | none => false
/-- Math.max, min, abs -/
def mMath (a : Nat) : MethodName := ⟨"java/lang/Math", if a = 0 then "max" else if a = 1 then "min" else "abs", if a = 2 then "(I)I" else "(II)I"⟩
def mQlb (o : Nat) (q : Nat × Nat × Nat) : Bool := mw q.2.2 (.methodLink (mO o) q.1 (mMath q.2.1))
def mOlb (o : Nat) (q : Nat × Nat) : Bool := mw q.2 (.methodLink (mO o) q.1 objectInit)
def mYlb (o : Nat) (q : Nat × Nat) : Bool := mw q.2 (.methodLink (mO o) q.1 arraycopyName)
def mNlb (o : Nat) (q : Nat × Nat × Nat) : Bool := if q.2.1 = 25 then mw q.2.2 (.methodLink (mO o) q.1 ⟨"java/lang/String", "length", "()I"⟩) else mw q.2.2 (.methodLink (mO o) q.1 ⟨"java/lang/String", "charAt", "(I)C"⟩)
abbrev mW0 (k : Nat) : Nat × Nat × Nat × Nat := mWi.getD k (0, 0, 0, 0)
/-- the words of a method that is called -/
def mfn (k : Nat) : Bool := plainName (mYn k).cls && decide ((mYn k).cls ≠ "java/lang/invoke/MethodHandle") && decide ((mYn k).cls ≠ "java/lang/invoke/VarHandle") && mw (mW0 k).1 (.code (mYn k) (mBy k) (mMx k) (mRt k)) && mw (mW0 k).2.1 (.initialized (mYn k).cls) && decide (mO (mI0 k).1 = (mYn k).cls) && (mMx k).ble 40 && decide ((parseMethodDescriptor (mYn k).desc).map (fun d => d.parameters.length) = some (mparN k)) && decide ((mProg k).2 = mMx k)
def mfv (k : Nat) : Bool := mw (mW0 k).2.2.1 (.instanceMethod (mYn k)) && ((decide ((mYn k).name = "<init>")) || mw (mW0 k).2.2.2 (.selects (mYn k).cls (mYn k) (mYn k)))
def mfs (k : Nat) : Bool := mw (mW0 k).2.2.1 (.static (mYn k))
