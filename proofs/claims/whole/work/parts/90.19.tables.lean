/-! the tables' words (the skeleton's part A), and what the small machine needs of the claim: written by gen/tables.py -/
/-- a private method of a class that the tables say can be made, by its rows of tables_1 -/
def lw_okq (q : MethodName × Nat) : Prop := (q.1.cls ≠ "java/lang/invoke/MethodHandle" ∧ q.1.cls ≠ "java/lang/invoke/VarHandle") ∧ Cond.instantiable q.1.cls q.2 ∈ tables_1 ∧ Cond.privateMethod q.1 ∈ tables_1 ∧ Cond.instanceMethod q.1 ∈ tables_1
theorem lw_p0 : lw_okq (⟨"RoadWater$Air", "lawInForce", "()LRoadWater$Law;"⟩, 5) := ⟨⟨by decide +kernel, by decide +kernel⟩, List.mem_of_getElem? (i := 173) (by decide +kernel), List.mem_of_getElem? (i := 213) (by decide +kernel), List.mem_of_getElem? (i := 214) (by decide +kernel)⟩
theorem lw_p1 : lw_okq (⟨"RoadWater", "refuse", "(I)I"⟩, 16) := ⟨⟨by decide +kernel, by decide +kernel⟩, List.mem_of_getElem? (i := 21) (by decide +kernel), List.mem_of_getElem? (i := 427) (by decide +kernel), List.mem_of_getElem? (i := 428) (by decide +kernel)⟩
theorem lw_p2 : lw_okq (⟨"RoadWater", "accept", "(I)I"⟩, 16) := ⟨⟨by decide +kernel, by decide +kernel⟩, List.mem_of_getElem? (i := 21) (by decide +kernel), List.mem_of_getElem? (i := 435) (by decide +kernel), List.mem_of_getElem? (i := 436) (by decide +kernel)⟩
theorem lw_p3 : lw_okq (⟨"RoadWater$Reader", "split", "([II)V"⟩, 12) := ⟨⟨by decide +kernel, by decide +kernel⟩, List.mem_of_getElem? (i := 130) (by decide +kernel), List.mem_of_getElem? (i := 508) (by decide +kernel), List.mem_of_getElem? (i := 509) (by decide +kernel)⟩
theorem lw_p4 : lw_okq (⟨"RoadWater$Reader", "addDigit", "(I)V"⟩, 12) := ⟨⟨by decide +kernel, by decide +kernel⟩, List.mem_of_getElem? (i := 130) (by decide +kernel), List.mem_of_getElem? (i := 515) (by decide +kernel), List.mem_of_getElem? (i := 516) (by decide +kernel)⟩
theorem lw_p5 : lw_okq (⟨"RoadWater$Reader", "addToken", "(III)V"⟩, 12) := ⟨⟨by decide +kernel, by decide +kernel⟩, List.mem_of_getElem? (i := 130) (by decide +kernel), List.mem_of_getElem? (i := 519) (by decide +kernel), List.mem_of_getElem? (i := 520) (by decide +kernel)⟩
theorem lw_p6 : lw_okq (⟨"RoadWater$Reader", "readClause", "()Z"⟩, 12) := ⟨⟨by decide +kernel, by decide +kernel⟩, List.mem_of_getElem? (i := 130) (by decide +kernel), List.mem_of_getElem? (i := 591) (by decide +kernel), List.mem_of_getElem? (i := 592) (by decide +kernel)⟩
theorem lw_p7 : lw_okq (⟨"RoadWater$Reader", "takes", "(I)Z"⟩, 12) := ⟨⟨by decide +kernel, by decide +kernel⟩, List.mem_of_getElem? (i := 130) (by decide +kernel), List.mem_of_getElem? (i := 595) (by decide +kernel), List.mem_of_getElem? (i := 596) (by decide +kernel)⟩
theorem lw_p8 : lw_okq (⟨"RoadWater$Reader", "readSum", "(I)Z"⟩, 12) := ⟨⟨by decide +kernel, by decide +kernel⟩, List.mem_of_getElem? (i := 130) (by decide +kernel), List.mem_of_getElem? (i := 599) (by decide +kernel), List.mem_of_getElem? (i := 600) (by decide +kernel)⟩
theorem lw_p9 : lw_okq (⟨"RoadWater$Reader", "readTerm", "(I)Z"⟩, 12) := ⟨⟨by decide +kernel, by decide +kernel⟩, List.mem_of_getElem? (i := 130) (by decide +kernel), List.mem_of_getElem? (i := 603) (by decide +kernel), List.mem_of_getElem? (i := 604) (by decide +kernel)⟩
theorem lw_p10 : lw_okq (⟨"RoadWater$Reader", "readPart", "(I)Z"⟩, 12) := ⟨⟨by decide +kernel, by decide +kernel⟩, List.mem_of_getElem? (i := 130) (by decide +kernel), List.mem_of_getElem? (i := 607) (by decide +kernel), List.mem_of_getElem? (i := 608) (by decide +kernel)⟩
theorem lw_p11 : lw_okq (⟨"RoadWater$Reader", "kindHere", "()I"⟩, 12) := ⟨⟨by decide +kernel, by decide +kernel⟩, List.mem_of_getElem? (i := 130) (by decide +kernel), List.mem_of_getElem? (i := 611) (by decide +kernel), List.mem_of_getElem? (i := 612) (by decide +kernel)⟩
theorem lw_p12 : lw_okq (⟨"RoadWater$Reader", "emit", "(II)I"⟩, 12) := ⟨⟨by decide +kernel, by decide +kernel⟩, List.mem_of_getElem? (i := 130) (by decide +kernel), List.mem_of_getElem? (i := 615) (by decide +kernel), List.mem_of_getElem? (i := 616) (by decide +kernel)⟩
theorem lw_p13 : lw_okq (⟨"RoadWater$Reader", "readTest", "(I)Z"⟩, 12) := ⟨⟨by decide +kernel, by decide +kernel⟩, List.mem_of_getElem? (i := 130) (by decide +kernel), List.mem_of_getElem? (i := 619) (by decide +kernel), List.mem_of_getElem? (i := 620) (by decide +kernel)⟩
theorem lw_p14 : lw_okq (⟨"RoadWater$Reader", "readBoth", "(I)Z"⟩, 12) := ⟨⟨by decide +kernel, by decide +kernel⟩, List.mem_of_getElem? (i := 130) (by decide +kernel), List.mem_of_getElem? (i := 623) (by decide +kernel), List.mem_of_getElem? (i := 624) (by decide +kernel)⟩
theorem lw_p15 : lw_okq (⟨"RoadWater$Reader", "readPlain", "(I)Z"⟩, 12) := ⟨⟨by decide +kernel, by decide +kernel⟩, List.mem_of_getElem? (i := 130) (by decide +kernel), List.mem_of_getElem? (i := 627) (by decide +kernel), List.mem_of_getElem? (i := 628) (by decide +kernel)⟩
def lw_privs_1 : List (MethodName × Nat) := [(⟨"RoadWater$Air", "lawInForce", "()LRoadWater$Law;"⟩, 5), (⟨"RoadWater", "refuse", "(I)I"⟩, 16), (⟨"RoadWater", "accept", "(I)I"⟩, 16), (⟨"RoadWater$Reader", "split", "([II)V"⟩, 12), (⟨"RoadWater$Reader", "addDigit", "(I)V"⟩, 12), (⟨"RoadWater$Reader", "addToken", "(III)V"⟩, 12), (⟨"RoadWater$Reader", "readClause", "()Z"⟩, 12), (⟨"RoadWater$Reader", "takes", "(I)Z"⟩, 12), (⟨"RoadWater$Reader", "readSum", "(I)Z"⟩, 12), (⟨"RoadWater$Reader", "readTerm", "(I)Z"⟩, 12), (⟨"RoadWater$Reader", "readPart", "(I)Z"⟩, 12), (⟨"RoadWater$Reader", "kindHere", "()I"⟩, 12), (⟨"RoadWater$Reader", "emit", "(II)I"⟩, 12), (⟨"RoadWater$Reader", "readTest", "(I)Z"⟩, 12), (⟨"RoadWater$Reader", "readBoth", "(I)Z"⟩, 12), (⟨"RoadWater$Reader", "readPlain", "(I)Z"⟩, 12)]
theorem lw_r1 : ∀ q ∈ lw_privs_1, lw_okq q := List.forall_mem_cons.mpr ⟨lw_p0, List.forall_mem_cons.mpr ⟨lw_p1, List.forall_mem_cons.mpr ⟨lw_p2, List.forall_mem_cons.mpr ⟨lw_p3, List.forall_mem_cons.mpr ⟨lw_p4, List.forall_mem_cons.mpr ⟨lw_p5, List.forall_mem_cons.mpr ⟨lw_p6, List.forall_mem_cons.mpr ⟨lw_p7, List.forall_mem_cons.mpr ⟨lw_p8, List.forall_mem_cons.mpr ⟨lw_p9, List.forall_mem_cons.mpr ⟨lw_p10, List.forall_mem_cons.mpr ⟨lw_p11, List.forall_mem_cons.mpr ⟨lw_p12, List.forall_mem_cons.mpr ⟨lw_p13, List.forall_mem_cons.mpr ⟨lw_p14, List.forall_mem_cons.mpr ⟨lw_p15, fun _ h => absurd h List.not_mem_nil⟩⟩⟩⟩⟩⟩⟩⟩⟩⟩⟩⟩⟩⟩⟩⟩
theorem lw_p16 : lw_okq (⟨"RoadWater$Reader", "readInBrackets", "(I)Z"⟩, 12) := ⟨⟨by decide +kernel, by decide +kernel⟩, List.mem_of_getElem? (i := 130) (by decide +kernel), List.mem_of_getElem? (i := 631) (by decide +kernel), List.mem_of_getElem? (i := 632) (by decide +kernel)⟩
theorem lw_p17 : lw_okq (⟨"RoadWater$Reader", "readComparison", "(I)Z"⟩, 12) := ⟨⟨by decide +kernel, by decide +kernel⟩, List.mem_of_getElem? (i := 130) (by decide +kernel), List.mem_of_getElem? (i := 635) (by decide +kernel), List.mem_of_getElem? (i := 636) (by decide +kernel)⟩
theorem lw_p18 : lw_okq (⟨"RoadWater$Reader", "aimBehind", "(I)V"⟩, 12) := ⟨⟨by decide +kernel, by decide +kernel⟩, List.mem_of_getElem? (i := 130) (by decide +kernel), List.mem_of_getElem? (i := 639) (by decide +kernel), List.mem_of_getElem? (i := 640) (by decide +kernel)⟩
theorem lw_p19 : lw_okq (⟨"RoadWater$Air", "layOut", "(III)V"⟩, 5) := ⟨⟨by decide +kernel, by decide +kernel⟩, List.mem_of_getElem? (i := 173) (by decide +kernel), List.mem_of_getElem? (i := 706) (by decide +kernel), List.mem_of_getElem? (i := 707) (by decide +kernel)⟩
theorem lw_p20 : lw_okq (⟨"RoadWater$Law", "run", "(II[I[I)Z"⟩, 4) := ⟨⟨by decide +kernel, by decide +kernel⟩, List.mem_of_getElem? (i := 647) (by decide +kernel), List.mem_of_getElem? (i := 715) (by decide +kernel), List.mem_of_getElem? (i := 716) (by decide +kernel)⟩
theorem lw_p21 : lw_okq (⟨"RoadWater$Light", "drawn", "(I)I"⟩, 17) := ⟨⟨by decide +kernel, by decide +kernel⟩, List.mem_of_getElem? (i := 198) (by decide +kernel), List.mem_of_getElem? (i := 747) (by decide +kernel), List.mem_of_getElem? (i := 748) (by decide +kernel)⟩
theorem lw_p22 : lw_okq (⟨"RoadWater$Light", "settle", "(IIZ)V"⟩, 17) := ⟨⟨by decide +kernel, by decide +kernel⟩, List.mem_of_getElem? (i := 198) (by decide +kernel), List.mem_of_getElem? (i := 764) (by decide +kernel), List.mem_of_getElem? (i := 765) (by decide +kernel)⟩
theorem lw_p23 : lw_okq (⟨"RoadWater$Field", "startsPicture", "(II)Z"⟩, 8) := ⟨⟨by decide +kernel, by decide +kernel⟩, List.mem_of_getElem? (i := 318) (by decide +kernel), List.mem_of_getElem? (i := 808) (by decide +kernel), List.mem_of_getElem? (i := 809) (by decide +kernel)⟩
theorem lw_p24 : lw_okq (⟨"RoadWater$Survey", "wouldEndIn", "(II)Z"⟩, 4) := ⟨⟨by decide +kernel, by decide +kernel⟩, List.mem_of_getElem? (i := 349) (by decide +kernel), List.mem_of_getElem? (i := 920) (by decide +kernel), List.mem_of_getElem? (i := 921) (by decide +kernel)⟩
theorem lw_p25 : lw_okq (⟨"RoadWater", "sightsWrong", "(I)I"⟩, 16) := ⟨⟨by decide +kernel, by decide +kernel⟩, List.mem_of_getElem? (i := 21) (by decide +kernel), List.mem_of_getElem? (i := 989) (by decide +kernel), List.mem_of_getElem? (i := 990) (by decide +kernel)⟩
theorem lw_p26 : lw_okq (⟨"RoadWaterModel", "refuses", "(I)I"⟩, 44) := ⟨⟨by decide +kernel, by decide +kernel⟩, List.mem_of_getElem? (i := 1034) (by decide +kernel), List.mem_of_getElem? (i := 1181) (by decide +kernel), List.mem_of_getElem? (i := 1182) (by decide +kernel)⟩
theorem lw_p27 : lw_okq (⟨"RoadWaterModel", "good", "(I)I"⟩, 44) := ⟨⟨by decide +kernel, by decide +kernel⟩, List.mem_of_getElem? (i := 1034) (by decide +kernel), List.mem_of_getElem? (i := 1185) (by decide +kernel), List.mem_of_getElem? (i := 1186) (by decide +kernel)⟩
theorem lw_p28 : lw_okq (⟨"RoadWaterModel", "riseOf", "(I)I"⟩, 44) := ⟨⟨by decide +kernel, by decide +kernel⟩, List.mem_of_getElem? (i := 1034) (by decide +kernel), List.mem_of_getElem? (i := 1203) (by decide +kernel), List.mem_of_getElem? (i := 1204) (by decide +kernel)⟩
theorem lw_p29 : lw_okq (⟨"RoadWaterModel", "thingAt", "(I)I"⟩, 44) := ⟨⟨by decide +kernel, by decide +kernel⟩, List.mem_of_getElem? (i := 1034) (by decide +kernel), List.mem_of_getElem? (i := 1215) (by decide +kernel), List.mem_of_getElem? (i := 1216) (by decide +kernel)⟩
theorem lw_p30 : lw_okq (⟨"RoadWaterModel", "isThing", "(I)Z"⟩, 44) := ⟨⟨by decide +kernel, by decide +kernel⟩, List.mem_of_getElem? (i := 1034) (by decide +kernel), List.mem_of_getElem? (i := 1223) (by decide +kernel), List.mem_of_getElem? (i := 1224) (by decide +kernel)⟩
theorem lw_p31 : lw_okq (⟨"RoadWaterModel", "thereOf", "(II)I"⟩, 44) := ⟨⟨by decide +kernel, by decide +kernel⟩, List.mem_of_getElem? (i := 1034) (by decide +kernel), List.mem_of_getElem? (i := 1231) (by decide +kernel), List.mem_of_getElem? (i := 1232) (by decide +kernel)⟩
def lw_privs_2 : List (MethodName × Nat) := [(⟨"RoadWater$Reader", "readInBrackets", "(I)Z"⟩, 12), (⟨"RoadWater$Reader", "readComparison", "(I)Z"⟩, 12), (⟨"RoadWater$Reader", "aimBehind", "(I)V"⟩, 12), (⟨"RoadWater$Air", "layOut", "(III)V"⟩, 5), (⟨"RoadWater$Law", "run", "(II[I[I)Z"⟩, 4), (⟨"RoadWater$Light", "drawn", "(I)I"⟩, 17), (⟨"RoadWater$Light", "settle", "(IIZ)V"⟩, 17), (⟨"RoadWater$Field", "startsPicture", "(II)Z"⟩, 8), (⟨"RoadWater$Survey", "wouldEndIn", "(II)Z"⟩, 4), (⟨"RoadWater", "sightsWrong", "(I)I"⟩, 16), (⟨"RoadWaterModel", "refuses", "(I)I"⟩, 44), (⟨"RoadWaterModel", "good", "(I)I"⟩, 44), (⟨"RoadWaterModel", "riseOf", "(I)I"⟩, 44), (⟨"RoadWaterModel", "thingAt", "(I)I"⟩, 44), (⟨"RoadWaterModel", "isThing", "(I)Z"⟩, 44), (⟨"RoadWaterModel", "thereOf", "(II)I"⟩, 44)]
theorem lw_r2 : ∀ q ∈ lw_privs_2, lw_okq q := List.forall_mem_cons.mpr ⟨lw_p16, List.forall_mem_cons.mpr ⟨lw_p17, List.forall_mem_cons.mpr ⟨lw_p18, List.forall_mem_cons.mpr ⟨lw_p19, List.forall_mem_cons.mpr ⟨lw_p20, List.forall_mem_cons.mpr ⟨lw_p21, List.forall_mem_cons.mpr ⟨lw_p22, List.forall_mem_cons.mpr ⟨lw_p23, List.forall_mem_cons.mpr ⟨lw_p24, List.forall_mem_cons.mpr ⟨lw_p25, List.forall_mem_cons.mpr ⟨lw_p26, List.forall_mem_cons.mpr ⟨lw_p27, List.forall_mem_cons.mpr ⟨lw_p28, List.forall_mem_cons.mpr ⟨lw_p29, List.forall_mem_cons.mpr ⟨lw_p30, List.forall_mem_cons.mpr ⟨lw_p31, fun _ h => absurd h List.not_mem_nil⟩⟩⟩⟩⟩⟩⟩⟩⟩⟩⟩⟩⟩⟩⟩⟩
theorem lw_p32 : lw_okq (⟨"RoadWaterModel", "reads", "()Z"⟩, 44) := ⟨⟨by decide +kernel, by decide +kernel⟩, List.mem_of_getElem? (i := 1034) (by decide +kernel), List.mem_of_getElem? (i := 1259) (by decide +kernel), List.mem_of_getElem? (i := 1260) (by decide +kernel)⟩
theorem lw_p33 : lw_okq (⟨"RoadWaterModel", "splits", "(I)V"⟩, 44) := ⟨⟨by decide +kernel, by decide +kernel⟩, List.mem_of_getElem? (i := 1034) (by decide +kernel), List.mem_of_getElem? (i := 1263) (by decide +kernel), List.mem_of_getElem? (i := 1264) (by decide +kernel)⟩
theorem lw_p34 : lw_okq (⟨"RoadWaterModel", "wordOf", "(II)I"⟩, 44) := ⟨⟨by decide +kernel, by decide +kernel⟩, List.mem_of_getElem? (i := 1034) (by decide +kernel), List.mem_of_getElem? (i := 1273) (by decide +kernel), List.mem_of_getElem? (i := 1274) (by decide +kernel)⟩
theorem lw_p35 : lw_okq (⟨"RoadWaterModel", "readClause", "()V"⟩, 44) := ⟨⟨by decide +kernel, by decide +kernel⟩, List.mem_of_getElem? (i := 1034) (by decide +kernel), List.mem_of_getElem? (i := 1278) (by decide +kernel), List.mem_of_getElem? (i := 1279) (by decide +kernel)⟩
theorem lw_p36 : lw_okq (⟨"RoadWaterModel", "must", "(I)V"⟩, 44) := ⟨⟨by decide +kernel, by decide +kernel⟩, List.mem_of_getElem? (i := 1034) (by decide +kernel), List.mem_of_getElem? (i := 1282) (by decide +kernel), List.mem_of_getElem? (i := 1283) (by decide +kernel)⟩
theorem lw_p37 : lw_okq (⟨"RoadWaterModel", "takes0", "(I)Z"⟩, 44) := ⟨⟨by decide +kernel, by decide +kernel⟩, List.mem_of_getElem? (i := 1034) (by decide +kernel), List.mem_of_getElem? (i := 1286) (by decide +kernel), List.mem_of_getElem? (i := 1287) (by decide +kernel)⟩
theorem lw_p38 : lw_okq (⟨"RoadWaterModel", "fine", "()Z"⟩, 44) := ⟨⟨by decide +kernel, by decide +kernel⟩, List.mem_of_getElem? (i := 1034) (by decide +kernel), List.mem_of_getElem? (i := 1290) (by decide +kernel), List.mem_of_getElem? (i := 1291) (by decide +kernel)⟩
theorem lw_p39 : lw_okq (⟨"RoadWaterModel", "faults", "()V"⟩, 44) := ⟨⟨by decide +kernel, by decide +kernel⟩, List.mem_of_getElem? (i := 1034) (by decide +kernel), List.mem_of_getElem? (i := 1294) (by decide +kernel), List.mem_of_getElem? (i := 1295) (by decide +kernel)⟩
theorem lw_p40 : lw_okq (⟨"RoadWaterModel", "readSum", "(I)V"⟩, 44) := ⟨⟨by decide +kernel, by decide +kernel⟩, List.mem_of_getElem? (i := 1034) (by decide +kernel), List.mem_of_getElem? (i := 1298) (by decide +kernel), List.mem_of_getElem? (i := 1299) (by decide +kernel)⟩
theorem lw_p41 : lw_okq (⟨"RoadWaterModel", "readTerm", "(I)V"⟩, 44) := ⟨⟨by decide +kernel, by decide +kernel⟩, List.mem_of_getElem? (i := 1034) (by decide +kernel), List.mem_of_getElem? (i := 1302) (by decide +kernel), List.mem_of_getElem? (i := 1303) (by decide +kernel)⟩
theorem lw_p42 : lw_okq (⟨"RoadWaterModel", "readPart", "(I)V"⟩, 44) := ⟨⟨by decide +kernel, by decide +kernel⟩, List.mem_of_getElem? (i := 1034) (by decide +kernel), List.mem_of_getElem? (i := 1306) (by decide +kernel), List.mem_of_getElem? (i := 1307) (by decide +kernel)⟩
theorem lw_p43 : lw_okq (⟨"RoadWaterModel", "leaf", "()V"⟩, 44) := ⟨⟨by decide +kernel, by decide +kernel⟩, List.mem_of_getElem? (i := 1034) (by decide +kernel), List.mem_of_getElem? (i := 1313) (by decide +kernel), List.mem_of_getElem? (i := 1314) (by decide +kernel)⟩
theorem lw_p44 : lw_okq (⟨"RoadWaterModel", "readTest", "(I)V"⟩, 44) := ⟨⟨by decide +kernel, by decide +kernel⟩, List.mem_of_getElem? (i := 1034) (by decide +kernel), List.mem_of_getElem? (i := 1317) (by decide +kernel), List.mem_of_getElem? (i := 1318) (by decide +kernel)⟩
theorem lw_p45 : lw_okq (⟨"RoadWaterModel", "readBoth", "(I)V"⟩, 44) := ⟨⟨by decide +kernel, by decide +kernel⟩, List.mem_of_getElem? (i := 1034) (by decide +kernel), List.mem_of_getElem? (i := 1321) (by decide +kernel), List.mem_of_getElem? (i := 1322) (by decide +kernel)⟩
theorem lw_p46 : lw_okq (⟨"RoadWaterModel", "readPlain", "(I)V"⟩, 44) := ⟨⟨by decide +kernel, by decide +kernel⟩, List.mem_of_getElem? (i := 1034) (by decide +kernel), List.mem_of_getElem? (i := 1325) (by decide +kernel), List.mem_of_getElem? (i := 1326) (by decide +kernel)⟩
theorem lw_p47 : lw_okq (⟨"RoadWaterModel", "warmthOf", "(III)I"⟩, 44) := ⟨⟨by decide +kernel, by decide +kernel⟩, List.mem_of_getElem? (i := 1034) (by decide +kernel), List.mem_of_getElem? (i := 1344) (by decide +kernel), List.mem_of_getElem? (i := 1345) (by decide +kernel)⟩
def lw_privs_3 : List (MethodName × Nat) := [(⟨"RoadWaterModel", "reads", "()Z"⟩, 44), (⟨"RoadWaterModel", "splits", "(I)V"⟩, 44), (⟨"RoadWaterModel", "wordOf", "(II)I"⟩, 44), (⟨"RoadWaterModel", "readClause", "()V"⟩, 44), (⟨"RoadWaterModel", "must", "(I)V"⟩, 44), (⟨"RoadWaterModel", "takes0", "(I)Z"⟩, 44), (⟨"RoadWaterModel", "fine", "()Z"⟩, 44), (⟨"RoadWaterModel", "faults", "()V"⟩, 44), (⟨"RoadWaterModel", "readSum", "(I)V"⟩, 44), (⟨"RoadWaterModel", "readTerm", "(I)V"⟩, 44), (⟨"RoadWaterModel", "readPart", "(I)V"⟩, 44), (⟨"RoadWaterModel", "leaf", "()V"⟩, 44), (⟨"RoadWaterModel", "readTest", "(I)V"⟩, 44), (⟨"RoadWaterModel", "readBoth", "(I)V"⟩, 44), (⟨"RoadWaterModel", "readPlain", "(I)V"⟩, 44), (⟨"RoadWaterModel", "warmthOf", "(III)I"⟩, 44)]
theorem lw_r3 : ∀ q ∈ lw_privs_3, lw_okq q := List.forall_mem_cons.mpr ⟨lw_p32, List.forall_mem_cons.mpr ⟨lw_p33, List.forall_mem_cons.mpr ⟨lw_p34, List.forall_mem_cons.mpr ⟨lw_p35, List.forall_mem_cons.mpr ⟨lw_p36, List.forall_mem_cons.mpr ⟨lw_p37, List.forall_mem_cons.mpr ⟨lw_p38, List.forall_mem_cons.mpr ⟨lw_p39, List.forall_mem_cons.mpr ⟨lw_p40, List.forall_mem_cons.mpr ⟨lw_p41, List.forall_mem_cons.mpr ⟨lw_p42, List.forall_mem_cons.mpr ⟨lw_p43, List.forall_mem_cons.mpr ⟨lw_p44, List.forall_mem_cons.mpr ⟨lw_p45, List.forall_mem_cons.mpr ⟨lw_p46, List.forall_mem_cons.mpr ⟨lw_p47, fun _ h => absurd h List.not_mem_nil⟩⟩⟩⟩⟩⟩⟩⟩⟩⟩⟩⟩⟩⟩⟩⟩
theorem lw_p48 : lw_okq (⟨"RoadWaterModel", "sumOf", "(Z)J"⟩, 44) := ⟨⟨by decide +kernel, by decide +kernel⟩, List.mem_of_getElem? (i := 1034) (by decide +kernel), List.mem_of_getElem? (i := 1348) (by decide +kernel), List.mem_of_getElem? (i := 1349) (by decide +kernel)⟩
theorem lw_p49 : lw_okq (⟨"RoadWaterModel", "termOf", "(Z)J"⟩, 44) := ⟨⟨by decide +kernel, by decide +kernel⟩, List.mem_of_getElem? (i := 1034) (by decide +kernel), List.mem_of_getElem? (i := 1352) (by decide +kernel), List.mem_of_getElem? (i := 1353) (by decide +kernel)⟩
theorem lw_p50 : lw_okq (⟨"RoadWaterModel", "partOf", "(Z)J"⟩, 44) := ⟨⟨by decide +kernel, by decide +kernel⟩, List.mem_of_getElem? (i := 1034) (by decide +kernel), List.mem_of_getElem? (i := 1356) (by decide +kernel), List.mem_of_getElem? (i := 1357) (by decide +kernel)⟩
theorem lw_p51 : lw_okq (⟨"RoadWaterModel", "passes0", "(I)Z"⟩, 44) := ⟨⟨by decide +kernel, by decide +kernel⟩, List.mem_of_getElem? (i := 1034) (by decide +kernel), List.mem_of_getElem? (i := 1360) (by decide +kernel), List.mem_of_getElem? (i := 1361) (by decide +kernel)⟩
theorem lw_p52 : lw_okq (⟨"RoadWaterModel", "codeAt", "(I)I"⟩, 44) := ⟨⟨by decide +kernel, by decide +kernel⟩, List.mem_of_getElem? (i := 1034) (by decide +kernel), List.mem_of_getElem? (i := 1364) (by decide +kernel), List.mem_of_getElem? (i := 1365) (by decide +kernel)⟩
theorem lw_p53 : lw_okq (⟨"RoadWaterModel", "bounded", "(JZ)J"⟩, 44) := ⟨⟨by decide +kernel, by decide +kernel⟩, List.mem_of_getElem? (i := 1034) (by decide +kernel), List.mem_of_getElem? (i := 1368) (by decide +kernel), List.mem_of_getElem? (i := 1369) (by decide +kernel)⟩
theorem lw_p54 : lw_okq (⟨"RoadWaterModel", "testOf", "(Z)Z"⟩, 44) := ⟨⟨by decide +kernel, by decide +kernel⟩, List.mem_of_getElem? (i := 1034) (by decide +kernel), List.mem_of_getElem? (i := 1374) (by decide +kernel), List.mem_of_getElem? (i := 1375) (by decide +kernel)⟩
theorem lw_p55 : lw_okq (⟨"RoadWaterModel", "bothOf", "(Z)Z"⟩, 44) := ⟨⟨by decide +kernel, by decide +kernel⟩, List.mem_of_getElem? (i := 1034) (by decide +kernel), List.mem_of_getElem? (i := 1378) (by decide +kernel), List.mem_of_getElem? (i := 1379) (by decide +kernel)⟩
theorem lw_p56 : lw_okq (⟨"RoadWaterModel", "plainOf", "(Z)Z"⟩, 44) := ⟨⟨by decide +kernel, by decide +kernel⟩, List.mem_of_getElem? (i := 1034) (by decide +kernel), List.mem_of_getElem? (i := 1382) (by decide +kernel), List.mem_of_getElem? (i := 1383) (by decide +kernel)⟩
theorem lw_p57 : lw_okq (⟨"RoadWaterModel", "positiveOf", "(Z)Z"⟩, 44) := ⟨⟨by decide +kernel, by decide +kernel⟩, List.mem_of_getElem? (i := 1034) (by decide +kernel), List.mem_of_getElem? (i := 1386) (by decide +kernel), List.mem_of_getElem? (i := 1387) (by decide +kernel)⟩
theorem lw_p58 : lw_okq (⟨"RoadWaterModel", "goesNow", "(I)V"⟩, 44) := ⟨⟨by decide +kernel, by decide +kernel⟩, List.mem_of_getElem? (i := 1034) (by decide +kernel), List.mem_of_getElem? (i := 1400) (by decide +kernel), List.mem_of_getElem? (i := 1401) (by decide +kernel)⟩
theorem lw_p59 : lw_okq (⟨"RoadWaterModel", "goes", "(IIIIZI)V"⟩, 44) := ⟨⟨by decide +kernel, by decide +kernel⟩, List.mem_of_getElem? (i := 1034) (by decide +kernel), List.mem_of_getElem? (i := 1404) (by decide +kernel), List.mem_of_getElem? (i := 1405) (by decide +kernel)⟩
theorem lw_p60 : lw_okq (⟨"RoadWaterModel", "warms", "(I)V"⟩, 44) := ⟨⟨by decide +kernel, by decide +kernel⟩, List.mem_of_getElem? (i := 1034) (by decide +kernel), List.mem_of_getElem? (i := 1408) (by decide +kernel), List.mem_of_getElem? (i := 1409) (by decide +kernel)⟩
theorem lw_p61 : lw_okq (⟨"RoadWaterModel", "ends", "(IIII)V"⟩, 44) := ⟨⟨by decide +kernel, by decide +kernel⟩, List.mem_of_getElem? (i := 1034) (by decide +kernel), List.mem_of_getElem? (i := 1415) (by decide +kernel), List.mem_of_getElem? (i := 1416) (by decide +kernel)⟩
theorem lw_p62 : lw_okq (⟨"RoadWaterModel", "draws", "(I)I"⟩, 44) := ⟨⟨by decide +kernel, by decide +kernel⟩, List.mem_of_getElem? (i := 1034) (by decide +kernel), List.mem_of_getElem? (i := 1419) (by decide +kernel), List.mem_of_getElem? (i := 1420) (by decide +kernel)⟩
theorem lw_p63 : lw_okq (⟨"RoadWaterModel", "warmer", "(III)I"⟩, 44) := ⟨⟨by decide +kernel, by decide +kernel⟩, List.mem_of_getElem? (i := 1034) (by decide +kernel), List.mem_of_getElem? (i := 1426) (by decide +kernel), List.mem_of_getElem? (i := 1427) (by decide +kernel)⟩
def lw_privs_4 : List (MethodName × Nat) := [(⟨"RoadWaterModel", "sumOf", "(Z)J"⟩, 44), (⟨"RoadWaterModel", "termOf", "(Z)J"⟩, 44), (⟨"RoadWaterModel", "partOf", "(Z)J"⟩, 44), (⟨"RoadWaterModel", "passes0", "(I)Z"⟩, 44), (⟨"RoadWaterModel", "codeAt", "(I)I"⟩, 44), (⟨"RoadWaterModel", "bounded", "(JZ)J"⟩, 44), (⟨"RoadWaterModel", "testOf", "(Z)Z"⟩, 44), (⟨"RoadWaterModel", "bothOf", "(Z)Z"⟩, 44), (⟨"RoadWaterModel", "plainOf", "(Z)Z"⟩, 44), (⟨"RoadWaterModel", "positiveOf", "(Z)Z"⟩, 44), (⟨"RoadWaterModel", "goesNow", "(I)V"⟩, 44), (⟨"RoadWaterModel", "goes", "(IIIIZI)V"⟩, 44), (⟨"RoadWaterModel", "warms", "(I)V"⟩, 44), (⟨"RoadWaterModel", "ends", "(IIII)V"⟩, 44), (⟨"RoadWaterModel", "draws", "(I)I"⟩, 44), (⟨"RoadWaterModel", "warmer", "(III)I"⟩, 44)]
theorem lw_r4 : ∀ q ∈ lw_privs_4, lw_okq q := List.forall_mem_cons.mpr ⟨lw_p48, List.forall_mem_cons.mpr ⟨lw_p49, List.forall_mem_cons.mpr ⟨lw_p50, List.forall_mem_cons.mpr ⟨lw_p51, List.forall_mem_cons.mpr ⟨lw_p52, List.forall_mem_cons.mpr ⟨lw_p53, List.forall_mem_cons.mpr ⟨lw_p54, List.forall_mem_cons.mpr ⟨lw_p55, List.forall_mem_cons.mpr ⟨lw_p56, List.forall_mem_cons.mpr ⟨lw_p57, List.forall_mem_cons.mpr ⟨lw_p58, List.forall_mem_cons.mpr ⟨lw_p59, List.forall_mem_cons.mpr ⟨lw_p60, List.forall_mem_cons.mpr ⟨lw_p61, List.forall_mem_cons.mpr ⟨lw_p62, List.forall_mem_cons.mpr ⟨lw_p63, fun _ h => absurd h List.not_mem_nil⟩⟩⟩⟩⟩⟩⟩⟩⟩⟩⟩⟩⟩⟩⟩⟩
theorem lw_p64 : lw_okq (⟨"RoadWaterModel", "looksNow", "()V"⟩, 44) := ⟨⟨by decide +kernel, by decide +kernel⟩, List.mem_of_getElem? (i := 1034) (by decide +kernel), List.mem_of_getElem? (i := 1441) (by decide +kernel), List.mem_of_getElem? (i := 1442) (by decide +kernel)⟩
theorem lw_p65 : lw_okq (⟨"RoadWaterModel", "looks", "(III)V"⟩, 44) := ⟨⟨by decide +kernel, by decide +kernel⟩, List.mem_of_getElem? (i := 1034) (by decide +kernel), List.mem_of_getElem? (i := 1445) (by decide +kernel), List.mem_of_getElem? (i := 1446) (by decide +kernel)⟩
theorem lw_p66 : lw_okq (⟨"RoadWaterModel", "seenNow", "(I)I"⟩, 44) := ⟨⟨by decide +kernel, by decide +kernel⟩, List.mem_of_getElem? (i := 1034) (by decide +kernel), List.mem_of_getElem? (i := 1449) (by decide +kernel), List.mem_of_getElem? (i := 1450) (by decide +kernel)⟩
theorem lw_p67 : lw_okq (⟨"RoadWaterModel", "picturesNow", "(I)I"⟩, 44) := ⟨⟨by decide +kernel, by decide +kernel⟩, List.mem_of_getElem? (i := 1034) (by decide +kernel), List.mem_of_getElem? (i := 1457) (by decide +kernel), List.mem_of_getElem? (i := 1458) (by decide +kernel)⟩
theorem lw_p68 : lw_okq (⟨"RoadWaterModel", "hiddenNow", "(I)I"⟩, 44) := ⟨⟨by decide +kernel, by decide +kernel⟩, List.mem_of_getElem? (i := 1034) (by decide +kernel), List.mem_of_getElem? (i := 1469) (by decide +kernel), List.mem_of_getElem? (i := 1470) (by decide +kernel)⟩
theorem lw_p69 : lw_okq (⟨"RoadWaterModel", "aimAt", "(III)I"⟩, 44) := ⟨⟨by decide +kernel, by decide +kernel⟩, List.mem_of_getElem? (i := 1034) (by decide +kernel), List.mem_of_getElem? (i := 1485) (by decide +kernel), List.mem_of_getElem? (i := 1486) (by decide +kernel)⟩
theorem lw_p70 : lw_okq (⟨"RoadWaterModel", "wouldSee", "(II)Z"⟩, 44) := ⟨⟨by decide +kernel, by decide +kernel⟩, List.mem_of_getElem? (i := 1034) (by decide +kernel), List.mem_of_getElem? (i := 1510) (by decide +kernel), List.mem_of_getElem? (i := 1511) (by decide +kernel)⟩
theorem lw_p71 : lw_okq (⟨"RoadWaterModel", "errorIn", "(II)I"⟩, 44) := ⟨⟨by decide +kernel, by decide +kernel⟩, List.mem_of_getElem? (i := 1034) (by decide +kernel), List.mem_of_getElem? (i := 1521) (by decide +kernel), List.mem_of_getElem? (i := 1522) (by decide +kernel)⟩
theorem lw_p72 : lw_okq (⟨"RoadWaterModel", "wrongIn", "(I)I"⟩, 44) := ⟨⟨by decide +kernel, by decide +kernel⟩, List.mem_of_getElem? (i := 1034) (by decide +kernel), List.mem_of_getElem? (i := 1552) (by decide +kernel), List.mem_of_getElem? (i := 1553) (by decide +kernel)⟩
def lw_privs_5 : List (MethodName × Nat) := [(⟨"RoadWaterModel", "looksNow", "()V"⟩, 44), (⟨"RoadWaterModel", "looks", "(III)V"⟩, 44), (⟨"RoadWaterModel", "seenNow", "(I)I"⟩, 44), (⟨"RoadWaterModel", "picturesNow", "(I)I"⟩, 44), (⟨"RoadWaterModel", "hiddenNow", "(I)I"⟩, 44), (⟨"RoadWaterModel", "aimAt", "(III)I"⟩, 44), (⟨"RoadWaterModel", "wouldSee", "(II)Z"⟩, 44), (⟨"RoadWaterModel", "errorIn", "(II)I"⟩, 44), (⟨"RoadWaterModel", "wrongIn", "(I)I"⟩, 44)]
theorem lw_r5 : ∀ q ∈ lw_privs_5, lw_okq q := List.forall_mem_cons.mpr ⟨lw_p64, List.forall_mem_cons.mpr ⟨lw_p65, List.forall_mem_cons.mpr ⟨lw_p66, List.forall_mem_cons.mpr ⟨lw_p67, List.forall_mem_cons.mpr ⟨lw_p68, List.forall_mem_cons.mpr ⟨lw_p69, List.forall_mem_cons.mpr ⟨lw_p70, List.forall_mem_cons.mpr ⟨lw_p71, List.forall_mem_cons.mpr ⟨lw_p72, fun _ h => absurd h List.not_mem_nil⟩⟩⟩⟩⟩⟩⟩⟩⟩
def lw_privs : List (MethodName × Nat) := lw_privs_1 ++ (lw_privs_2 ++ (lw_privs_3 ++ (lw_privs_4 ++ (lw_privs_5))))
def lw_tbl : List Cond := k2_sels lw_privs ++ tables_1
theorem lw_privs_ok : ∀ q ∈ lw_privs, lw_okq q := by
  show ∀ q ∈ lw_privs_1 ++ (lw_privs_2 ++ (lw_privs_3 ++ (lw_privs_4 ++ (lw_privs_5)))), lw_okq q
  exact List.forall_mem_append.mpr ⟨lw_r1, List.forall_mem_append.mpr ⟨lw_r2, List.forall_mem_append.mpr ⟨lw_r3, List.forall_mem_append.mpr ⟨lw_r4, lw_r5⟩⟩⟩⟩
def mT0 : u_T := fun k => match k with
  | 0 => ("RoadWater$Air", "road", "LRoadWater$Road;", true)
  | 1 => ("RoadWater$Air", "hoursKept", "[LRoadWater$HourAir;", true)
  | 2 => ("RoadWater$Air", "ages", "[I", true)
  | 3 => ("RoadWater$Air", "words", "[I", true)
  | _ => ("RoadWater$Air", "stack", "[I", true)
def mY0 : Nat → FieldType := fun k => match k with
  | 0 => .object "RoadWater$Road"
  | 1 => .array (.object "RoadWater$HourAir")
  | 2 => .array .int
  | 3 => .array .int
  | _ => .array .int
theorem mT0_ty : ∀ k, k < 5 → parseFieldDescriptor (mT0 k).2.2.1 = some (mY0 k) := by decide +kernel
theorem mT0_nm : ∀ a, a < 5 → ∀ b, b < 5 → a ≠ b → (mT0 a).2.1 ≠ (mT0 b).2.1 := by decide +kernel
theorem mT0_in : ∀ w ∈ u_ws "RoadWater$Air" mT0 5, w ∈ lw_tbl := by decide +kernel
theorem mT0_w : Cond.instantiable "RoadWater$Air" 5 ∈ lw_tbl ∧ Cond.initialized "RoadWater$Air" ∈ lw_tbl := by decide +kernel
def mT1 : u_T := fun k => match k with
  | 0 => ("RoadWater$Field", "light", "LRoadWater$Light;", true)
  | 1 => ("RoadWater$Field", "endings", "[I", true)
  | 2 => ("RoadWater$Field", "hitThings", "[I", true)
  | 3 => ("RoadWater$Field", "hitInches", "[I", true)
  | 4 => ("RoadWater$Field", "known", "Z", false)
  | 5 => ("RoadWater$Field", "knownAir", "LRoadWater$HourAir;", false)
  | 6 => ("RoadWater$Field", "knownBend", "I", false)
  | _ => ("RoadWater$Field", "knownEyeHeight", "I", false)
def mY1 : Nat → FieldType := fun k => match k with
  | 0 => .object "RoadWater$Light"
  | 1 => .array .int
  | 2 => .array .int
  | 3 => .array .int
  | 4 => .boolean
  | 5 => .object "RoadWater$HourAir"
  | 6 => .int
  | _ => .int
theorem mT1_ty : ∀ k, k < 8 → parseFieldDescriptor (mT1 k).2.2.1 = some (mY1 k) := by decide +kernel
theorem mT1_nm : ∀ a, a < 8 → ∀ b, b < 8 → a ≠ b → (mT1 a).2.1 ≠ (mT1 b).2.1 := by decide +kernel
theorem mT1_in : ∀ w ∈ u_ws "RoadWater$Field" mT1 8, w ∈ lw_tbl := by decide +kernel
theorem mT1_w : Cond.instantiable "RoadWater$Field" 8 ∈ lw_tbl ∧ Cond.initialized "RoadWater$Field" ∈ lw_tbl := by decide +kernel
def mT2 : u_T := fun k => match k with
  | 0 => ("RoadWater$HourAir", "hour", "I", true)
  | 1 => ("RoadWater$HourAir", "warmths", "[I", true)
  | 2 => ("RoadWater$HourAir", "pulls", "[I", true)
  | _ => ("RoadWater$HourAir", "ages", "[I", true)
def mY2 : Nat → FieldType := fun k => match k with
  | 0 => .int
  | 1 => .array .int
  | 2 => .array .int
  | _ => .array .int
theorem mT2_ty : ∀ k, k < 4 → parseFieldDescriptor (mT2 k).2.2.1 = some (mY2 k) := by decide +kernel
theorem mT2_nm : ∀ a, a < 4 → ∀ b, b < 4 → a ≠ b → (mT2 a).2.1 ≠ (mT2 b).2.1 := by decide +kernel
theorem mT2_in : ∀ w ∈ u_ws "RoadWater$HourAir" mT2 4, w ∈ lw_tbl := by decide +kernel
theorem mT2_w : Cond.instantiable "RoadWater$HourAir" 4 ∈ lw_tbl ∧ Cond.initialized "RoadWater$HourAir" ∈ lw_tbl := by decide +kernel
def mT3 : u_T := fun k => match k with
  | 0 => ("RoadWater$Law", "code", "[I", true)
  | 1 => ("RoadWater$Law", "sumStops", "[I", true)
  | 2 => ("RoadWater$Law", "clauseStops", "[I", true)
  | _ => ("RoadWater$Law", "asksHour", "Z", true)
def mY3 : Nat → FieldType := fun k => match k with
  | 0 => .array .int
  | 1 => .array .int
  | 2 => .array .int
  | _ => .boolean
theorem mT3_ty : ∀ k, k < 4 → parseFieldDescriptor (mT3 k).2.2.1 = some (mY3 k) := by decide +kernel
theorem mT3_nm : ∀ a, a < 4 → ∀ b, b < 4 → a ≠ b → (mT3 a).2.1 ≠ (mT3 b).2.1 := by decide +kernel
theorem mT3_in : ∀ w ∈ u_ws "RoadWater$Law" mT3 4, w ∈ lw_tbl := by decide +kernel
theorem mT3_w : Cond.instantiable "RoadWater$Law" 4 ∈ lw_tbl ∧ Cond.initialized "RoadWater$Law" ∈ lw_tbl := by decide +kernel
def mT4 : u_T := fun k => match k with
  | 0 => ("RoadWater$Light", "road", "LRoadWater$Road;", true)
  | 1 => ("RoadWater$Light", "air", "LRoadWater$Air;", true)
  | 2 => ("RoadWater$Light", "noThings", "[I", true)
  | 3 => ("RoadWater$Light", "eyePlace", "I", false)
  | 4 => ("RoadWater$Light", "eyeHeight", "I", false)
  | 5 => ("RoadWater$Light", "hourAir", "LRoadWater$HourAir;", false)
  | 6 => ("RoadWater$Light", "bend", "I", false)
  | 7 => ("RoadWater$Light", "pastThings", "Z", false)
  | 8 => ("RoadWater$Light", "trembling", "I", false)
  | 9 => ("RoadWater$Light", "seed", "I", false)
  | 10 => ("RoadWater$Light", "heights", "[I", true)
  | 11 => ("RoadWater$Light", "place", "I", false)
  | 12 => ("RoadWater$Light", "height", "I", false)
  | 13 => ("RoadWater$Light", "slope", "I", false)
  | 14 => ("RoadWater$Light", "ending", "I", false)
  | 15 => ("RoadWater$Light", "hitThing", "I", false)
  | _ => ("RoadWater$Light", "hitInch", "I", false)
def mY4 : Nat → FieldType := fun k => match k with
  | 0 => .object "RoadWater$Road"
  | 1 => .object "RoadWater$Air"
  | 2 => .array .int
  | 3 => .int
  | 4 => .int
  | 5 => .object "RoadWater$HourAir"
  | 6 => .int
  | 7 => .boolean
  | 8 => .int
  | 9 => .int
  | 10 => .array .int
  | 11 => .int
  | 12 => .int
  | 13 => .int
  | 14 => .int
  | 15 => .int
  | _ => .int
theorem mT4_ty : ∀ k, k < 17 → parseFieldDescriptor (mT4 k).2.2.1 = some (mY4 k) := by decide +kernel
theorem mT4_nm : ∀ a, a < 17 → ∀ b, b < 17 → a ≠ b → (mT4 a).2.1 ≠ (mT4 b).2.1 := by decide +kernel
theorem mT4_in : ∀ w ∈ u_ws "RoadWater$Light" mT4 17, w ∈ lw_tbl := by decide +kernel
theorem mT4_w : Cond.instantiable "RoadWater$Light" 17 ∈ lw_tbl ∧ Cond.initialized "RoadWater$Light" ∈ lw_tbl := by decide +kernel
def mT5 : u_T := fun k => match k with
  | 0 => ("RoadWater$Reader", "kinds", "[I", true)
  | 1 => ("RoadWater$Reader", "starts", "[I", true)
  | 2 => ("RoadWater$Reader", "numbers", "[I", true)
  | 3 => ("RoadWater$Reader", "tokens", "I", false)
  | 4 => ("RoadWater$Reader", "token", "I", false)
  | 5 => ("RoadWater$Reader", "code", "[I", true)
  | 6 => ("RoadWater$Reader", "size", "I", false)
  | 7 => ("RoadWater$Reader", "sumStops", "[I", true)
  | 8 => ("RoadWater$Reader", "clauseStops", "[I", true)
  | 9 => ("RoadWater$Reader", "clauses", "I", false)
  | 10 => ("RoadWater$Reader", "parts", "I", false)
  | _ => ("RoadWater$Reader", "asksHour", "Z", false)
def mY5 : Nat → FieldType := fun k => match k with
  | 0 => .array .int
  | 1 => .array .int
  | 2 => .array .int
  | 3 => .int
  | 4 => .int
  | 5 => .array .int
  | 6 => .int
  | 7 => .array .int
  | 8 => .array .int
  | 9 => .int
  | 10 => .int
  | _ => .boolean
theorem mT5_ty : ∀ k, k < 12 → parseFieldDescriptor (mT5 k).2.2.1 = some (mY5 k) := by decide +kernel
theorem mT5_nm : ∀ a, a < 12 → ∀ b, b < 12 → a ≠ b → (mT5 a).2.1 ≠ (mT5 b).2.1 := by decide +kernel
theorem mT5_in : ∀ w ∈ u_ws "RoadWater$Reader" mT5 12, w ∈ lw_tbl := by decide +kernel
theorem mT5_w : Cond.instantiable "RoadWater$Reader" 12 ∈ lw_tbl ∧ Cond.initialized "RoadWater$Reader" ∈ lw_tbl := by decide +kernel
def mT6 : u_T := fun k => match k with
  | 0 => ("RoadWater$Road", "rises", "[I", true)
  | 1 => ("RoadWater$Road", "grounds", "[I", true)
  | 2 => ("RoadWater$Road", "thingAt", "[I", true)
  | 3 => ("RoadWater$Road", "thingPlaces", "[I", true)
  | 4 => ("RoadWater$Road", "thingTalls", "[I", true)
  | 5 => ("RoadWater$Road", "thingCount", "I", false)
  | 6 => ("RoadWater$Road", "terms", "[I", true)
  | 7 => ("RoadWater$Road", "laws", "[LRoadWater$Law;", true)
  | 8 => ("RoadWater$Road", "lawCount", "I", false)
  | 9 => ("RoadWater$Road", "lawInForce", "I", false)
  | 10 => ("RoadWater$Road", "sightAngles", "[I", true)
  | 11 => ("RoadWater$Road", "sightThings", "[I", true)
  | 12 => ("RoadWater$Road", "sightInches", "[I", true)
  | _ => ("RoadWater$Road", "sightCount", "I", false)
def mY6 : Nat → FieldType := fun k => match k with
  | 0 => .array .int
  | 1 => .array .int
  | 2 => .array .int
  | 3 => .array .int
  | 4 => .array .int
  | 5 => .int
  | 6 => .array .int
  | 7 => .array (.object "RoadWater$Law")
  | 8 => .int
  | 9 => .int
  | 10 => .array .int
  | 11 => .array .int
  | 12 => .array .int
  | _ => .int
theorem mT6_ty : ∀ k, k < 14 → parseFieldDescriptor (mT6 k).2.2.1 = some (mY6 k) := by decide +kernel
theorem mT6_nm : ∀ a, a < 14 → ∀ b, b < 14 → a ≠ b → (mT6 a).2.1 ≠ (mT6 b).2.1 := by decide +kernel
theorem mT6_in : ∀ w ∈ u_ws "RoadWater$Road" mT6 14, w ∈ lw_tbl := by decide +kernel
theorem mT6_w : Cond.instantiable "RoadWater$Road" 14 ∈ lw_tbl ∧ Cond.initialized "RoadWater$Road" ∈ lw_tbl := by decide +kernel
def mT7 : u_T := fun k => match k with
  | 0 => ("RoadWater$Survey", "road", "LRoadWater$Road;", true)
  | 1 => ("RoadWater$Survey", "light", "LRoadWater$Light;", true)
  | 2 => ("RoadWater$Survey", "tally", "[I", true)
  | _ => ("RoadWater$Survey", "former", "[I", true)
def mY7 : Nat → FieldType := fun k => match k with
  | 0 => .object "RoadWater$Road"
  | 1 => .object "RoadWater$Light"
  | 2 => .array .int
  | _ => .array .int
theorem mT7_ty : ∀ k, k < 4 → parseFieldDescriptor (mT7 k).2.2.1 = some (mY7 k) := by decide +kernel
theorem mT7_nm : ∀ a, a < 4 → ∀ b, b < 4 → a ≠ b → (mT7 a).2.1 ≠ (mT7 b).2.1 := by decide +kernel
theorem mT7_in : ∀ w ∈ u_ws "RoadWater$Survey" mT7 4, w ∈ lw_tbl := by decide +kernel
theorem mT7_w : Cond.instantiable "RoadWater$Survey" 4 ∈ lw_tbl ∧ Cond.initialized "RoadWater$Survey" ∈ lw_tbl := by decide +kernel
def mT8 : u_T := fun k => match k with
  | 0 => ("RoadWater$Tape", "bytes", "[I", true)
  | _ => ("RoadWater$Tape", "length", "I", false)
def mY8 : Nat → FieldType := fun k => match k with
  | 0 => .array .int
  | _ => .int
theorem mT8_ty : ∀ k, k < 2 → parseFieldDescriptor (mT8 k).2.2.1 = some (mY8 k) := by decide +kernel
theorem mT8_nm : ∀ a, a < 2 → ∀ b, b < 2 → a ≠ b → (mT8 a).2.1 ≠ (mT8 b).2.1 := by decide +kernel
theorem mT8_in : ∀ w ∈ u_ws "RoadWater$Tape" mT8 2, w ∈ lw_tbl := by decide +kernel
theorem mT8_w : Cond.instantiable "RoadWater$Tape" 2 ∈ lw_tbl ∧ Cond.initialized "RoadWater$Tape" ∈ lw_tbl := by decide +kernel
def mT9 : u_T := fun k => match k with
  | 0 => ("RoadWater", "road", "LRoadWater$Road;", true)
  | 1 => ("RoadWater", "images", "[LRoadWater$Road;", true)
  | 2 => ("RoadWater", "kept", "[Z", true)
  | 3 => ("RoadWater", "tape", "LRoadWater$Tape;", true)
  | 4 => ("RoadWater", "reader", "LRoadWater$Reader;", true)
  | 5 => ("RoadWater", "air", "LRoadWater$Air;", true)
  | 6 => ("RoadWater", "light", "LRoadWater$Light;", true)
  | 7 => ("RoadWater", "field", "LRoadWater$Field;", true)
  | 8 => ("RoadWater", "survey", "LRoadWater$Survey;", true)
  | 9 => ("RoadWater", "trembledEnds", "[I", true)
  | 10 => ("RoadWater", "trembledPlaces", "[I", true)
  | 11 => ("RoadWater", "trembledRays", "I", false)
  | 12 => ("RoadWater", "wornBytes", "I", false)
  | 13 => ("RoadWater", "latestFault", "I", false)
  | 14 => ("RoadWater", "latestRefusal", "I", false)
  | _ => ("RoadWater", "refusals", "[I", true)
def mY9 : Nat → FieldType := fun k => match k with
  | 0 => .object "RoadWater$Road"
  | 1 => .array (.object "RoadWater$Road")
  | 2 => .array .boolean
  | 3 => .object "RoadWater$Tape"
  | 4 => .object "RoadWater$Reader"
  | 5 => .object "RoadWater$Air"
  | 6 => .object "RoadWater$Light"
  | 7 => .object "RoadWater$Field"
  | 8 => .object "RoadWater$Survey"
  | 9 => .array .int
  | 10 => .array .int
  | 11 => .int
  | 12 => .int
  | 13 => .int
  | 14 => .int
  | _ => .array .int
theorem mT9_ty : ∀ k, k < 16 → parseFieldDescriptor (mT9 k).2.2.1 = some (mY9 k) := by decide +kernel
theorem mT9_nm : ∀ a, a < 16 → ∀ b, b < 16 → a ≠ b → (mT9 a).2.1 ≠ (mT9 b).2.1 := by decide +kernel
theorem mT9_in : ∀ w ∈ u_ws "RoadWater" mT9 16, w ∈ lw_tbl := by decide +kernel
theorem mT9_w : Cond.instantiable "RoadWater" 16 ∈ lw_tbl ∧ Cond.initialized "RoadWater" ∈ lw_tbl := by decide +kernel
def mT10 : u_T := fun k => match k with
  | 0 => ("RoadWaterModel", "status", "I", false)
  | 1 => ("RoadWaterModel", "version", "I", false)
  | 2 => ("RoadWaterModel", "refused", "[I", true)
  | 3 => ("RoadWaterModel", "kept", "[I", true)
  | 4 => ("RoadWaterModel", "images", "[I", true)
  | 5 => ("RoadWaterModel", "hasImage", "[Z", true)
  | 6 => ("RoadWaterModel", "worn0", "I", false)
  | 7 => ("RoadWaterModel", "words", "[B", true)
  | 8 => ("RoadWaterModel", "tape", "[B", true)
  | 9 => ("RoadWaterModel", "five", "[I", true)
  | 10 => ("RoadWaterModel", "taped", "I", false)
  | 11 => ("RoadWaterModel", "fault", "I", false)
  | 12 => ("RoadWaterModel", "code", "[I", true)
  | 13 => ("RoadWaterModel", "value", "[I", true)
  | 14 => ("RoadWaterModel", "placed", "[I", true)
  | 15 => ("RoadWaterModel", "tokens", "I", false)
  | 16 => ("RoadWaterModel", "token", "I", false)
  | 17 => ("RoadWaterModel", "leaves", "I", false)
  | 18 => ("RoadWaterModel", "bad", "I", false)
  | 19 => ("RoadWaterModel", "go", "I", false)
  | 20 => ("RoadWaterModel", "goEnd", "I", false)
  | 21 => ("RoadWaterModel", "broken", "Z", false)
  | 22 => ("RoadWaterModel", "asked", "[I", true)
  | 23 => ("RoadWaterModel", "warmth", "[I", true)
  | 24 => ("RoadWaterModel", "warmthBy", "[I", true)
  | 25 => ("RoadWaterModel", "hasWarmth", "Z", false)
  | 26 => ("RoadWaterModel", "heights", "[I", true)
  | 27 => ("RoadWaterModel", "where0", "I", false)
  | 28 => ("RoadWaterModel", "endPlace", "I", false)
  | 29 => ("RoadWaterModel", "endThing", "I", false)
  | 30 => ("RoadWaterModel", "endInch", "I", false)
  | 31 => ("RoadWaterModel", "lowest", "I", false)
  | 32 => ("RoadWaterModel", "turnMany", "I", false)
  | 33 => ("RoadWaterModel", "slope", "I", false)
  | 34 => ("RoadWaterModel", "latest", "I", false)
  | 35 => ("RoadWaterModel", "sees", "[I", true)
  | 36 => ("RoadWaterModel", "seesInch", "[I", true)
  | 37 => ("RoadWaterModel", "others", "[I", true)
  | 38 => ("RoadWaterModel", "hits", "[I", true)
  | 39 => ("RoadWaterModel", "runs", "[I", true)
  | 40 => ("RoadWaterModel", "ran", "[Z", true)
  | 41 => ("RoadWaterModel", "trembleWhere", "[I", true)
  | 42 => ("RoadWaterModel", "tremblePlace", "[I", true)
  | _ => ("RoadWaterModel", "trembleMany", "I", false)
def mY10 : Nat → FieldType := fun k => match k with
  | 0 => .int
  | 1 => .int
  | 2 => .array .int
  | 3 => .array .int
  | 4 => .array .int
  | 5 => .array .boolean
  | 6 => .int
  | 7 => .array .byte
  | 8 => .array .byte
  | 9 => .array .int
  | 10 => .int
  | 11 => .int
  | 12 => .array .int
  | 13 => .array .int
  | 14 => .array .int
  | 15 => .int
  | 16 => .int
  | 17 => .int
  | 18 => .int
  | 19 => .int
  | 20 => .int
  | 21 => .boolean
  | 22 => .array .int
  | 23 => .array .int
  | 24 => .array .int
  | 25 => .boolean
  | 26 => .array .int
  | 27 => .int
  | 28 => .int
  | 29 => .int
  | 30 => .int
  | 31 => .int
  | 32 => .int
  | 33 => .int
  | 34 => .int
  | 35 => .array .int
  | 36 => .array .int
  | 37 => .array .int
  | 38 => .array .int
  | 39 => .array .int
  | 40 => .array .boolean
  | 41 => .array .int
  | 42 => .array .int
  | _ => .int
theorem mT10_ty : ∀ k, k < 44 → parseFieldDescriptor (mT10 k).2.2.1 = some (mY10 k) := by decide +kernel
theorem mT10_nm : ∀ a, a < 44 → ∀ b, b < 44 → a ≠ b → (mT10 a).2.1 ≠ (mT10 b).2.1 := by decide +kernel
theorem mT10_in : ∀ w ∈ u_ws "RoadWaterModel" mT10 44, w ∈ lw_tbl := by decide +kernel
theorem mT10_w : Cond.instantiable "RoadWaterModel" 44 ∈ lw_tbl ∧ Cond.initialized "RoadWaterModel" ∈ lw_tbl := by decide +kernel
abbrev mCl : List vw_C := [("RoadWater$Air", mT0, 5), ("RoadWater$Field", mT1, 8), ("RoadWater$HourAir", mT2, 4), ("RoadWater$Law", mT3, 4), ("RoadWater$Light", mT4, 17), ("RoadWater$Reader", mT5, 12), ("RoadWater$Road", mT6, 14), ("RoadWater$Survey", mT7, 4), ("RoadWater$Tape", mT8, 2), ("RoadWater", mT9, 16), ("RoadWaterModel", mT10, 44)]
def mY : Nat → Nat → FieldType := fun c => match c with
  | 0 => mY0
  | 1 => mY1
  | 2 => mY2
  | 3 => mY3
  | 4 => mY4
  | 5 => mY5
  | 6 => mY6
  | 7 => mY7
  | 8 => mY8
  | 9 => mY9
  | _ => mY10
theorem mCl_ok : ∀ (c : Nat) (C : String) (T : u_T) (N : Nat), mCl[c]? = some (C, T, N) → (∀ w ∈ u_ws C T N, w ∈ lw_tbl) ∧ (∀ k, k < N → parseFieldDescriptor (T k).2.2.1 = some (mY c k)) ∧ (∀ a, a < N → ∀ b, b < N → a ≠ b → (T a).2.1 ≠ (T b).2.1) ∧ Cond.instantiable C N ∈ lw_tbl ∧ Cond.initialized C ∈ lw_tbl ∧ N ≤ 64 := by
  intro c C T N h
  match c, h with
  | 0, h => cases h; exact ⟨mT0_in, mT0_ty, mT0_nm, mT0_w.1, mT0_w.2, by decide⟩
  | 1, h => cases h; exact ⟨mT1_in, mT1_ty, mT1_nm, mT1_w.1, mT1_w.2, by decide⟩
  | 2, h => cases h; exact ⟨mT2_in, mT2_ty, mT2_nm, mT2_w.1, mT2_w.2, by decide⟩
  | 3, h => cases h; exact ⟨mT3_in, mT3_ty, mT3_nm, mT3_w.1, mT3_w.2, by decide⟩
  | 4, h => cases h; exact ⟨mT4_in, mT4_ty, mT4_nm, mT4_w.1, mT4_w.2, by decide⟩
  | 5, h => cases h; exact ⟨mT5_in, mT5_ty, mT5_nm, mT5_w.1, mT5_w.2, by decide⟩
  | 6, h => cases h; exact ⟨mT6_in, mT6_ty, mT6_nm, mT6_w.1, mT6_w.2, by decide⟩
  | 7, h => cases h; exact ⟨mT7_in, mT7_ty, mT7_nm, mT7_w.1, mT7_w.2, by decide⟩
  | 8, h => cases h; exact ⟨mT8_in, mT8_ty, mT8_nm, mT8_w.1, mT8_w.2, by decide⟩
  | 9, h => cases h; exact ⟨mT9_in, mT9_ty, mT9_nm, mT9_w.1, mT9_w.2, by decide⟩
  | 10, h => cases h; exact ⟨mT10_in, mT10_ty, mT10_nm, mT10_w.1, mT10_w.2, by decide⟩
  | c + 11, h => simp [mCl] at h
def mOwn : List String := ["RoadWater$Air", "RoadWater$Field", "RoadWater$HourAir", "RoadWater$Law", "RoadWater$Light", "RoadWater$Reader", "RoadWater$Road", "RoadWater$Survey", "RoadWater$Tape", "RoadWater", "RoadWaterModel", "RoadWaterLaw", "java/lang/Integer", "java/util/Arrays"]
def mO (o : Nat) : String := mOwn.getD o ""
def mFl : Nat → List (Nat × Nat × Nat × Nat) := fun o => match o with
  | 0 => [(11, 1, 1, 255), (17, 1, 2, 256), (23, 1, 3, 257), (26, 1, 4, 258), (29, 1, 0, 254), (39, 7, 9, 145), (45, 7, 7, 140), (52, 4, 3, 741), (63, 3, 3, 302), (81, 3, 2, 300), (84, 3, 1, 297), (88, 3, 0, 295), (99, 7, 0, 121), (102, 7, 1, 124)]
  | 1 => [(9, 2, 1, 397), (15, 2, 2, 398), (18, 2, 3, 399), (21, 2, 0, 396), (25, 2, 4, 400), (29, 2, 5, 401), (33, 5, 5, 326), (38, 2, 6, 402), (42, 5, 6, 328), (45, 2, 7, 403), (48, 5, 4, 323), (55, 5, 14, 346), (58, 5, 15, 349), (61, 5, 16, 352)]
  | 2 => [(9, 3, 1, 296), (15, 3, 2, 298), (18, 3, 3, 301), (21, 3, 0, 294)]
  | 3 => [(7, 4, 0, 737), (13, 4, 1, 738), (16, 4, 2, 739), (19, 4, 3, 740)]
  | 4 => [(9, 5, 2, 319), (15, 5, 10, 336), (18, 5, 0, 317), (22, 5, 1, 318), (38, 5, 5, 325), (42, 7, 6, 137), (51, 5, 6, 327), (55, 5, 3, 320), (58, 5, 4, 322), (61, 5, 7, 330), (65, 5, 8, 332), (68, 7, 2, 126), (71, 3, 2, 299), (80, 7, 0, 120), (83, 7, 4, 133), (100, 5, 11, 340), (103, 5, 12, 342), (106, 5, 13, 344), (113, 5, 9, 334), (122, 5, 15, 350), (125, 5, 16, 353), (128, 5, 14, 347)]
  | 5 => [(9, 6, 0, 208), (15, 6, 1, 209), (18, 6, 2, 210), (21, 6, 5, 213), (24, 6, 7, 215), (27, 6, 8, 216), (40, 6, 4, 212), (44, 6, 6, 214), (47, 6, 9, 217), (50, 6, 10, 218), (53, 6, 11, 219), (80, 6, 3, 211)]
  | 6 => [(9, 7, 0, 117), (15, 7, 1, 122), (18, 7, 2, 125), (21, 7, 3, 129), (24, 7, 4, 131), (27, 7, 6, 136), (32, 7, 7, 139), (36, 7, 10, 147), (39, 7, 11, 149), (42, 7, 12, 151), (60, 7, 9, 144), (64, 7, 5, 134), (67, 7, 8, 142), (70, 7, 13, 153)]
  | 7 => [(9, 8, 2, 429), (15, 8, 3, 430), (18, 8, 0, 427), (22, 8, 1, 428), (32, 5, 11, 339), (36, 5, 10, 337), (51, 5, 3, 321), (54, 5, 7, 331), (64, 7, 0, 119), (83, 7, 2, 128)]
  | 8 => [(9, 9, 0, 192), (15, 9, 1, 194)]
  | 9 => [(10, 10, 0, 440), (16, 10, 1, 441), (20, 10, 2, 442), (27, 10, 3, 443), (34, 10, 4, 444), (43, 10, 5, 445), (52, 10, 6, 446), (61, 10, 7, 447), (70, 10, 8, 448), (74, 10, 9, 449), (78, 10, 10, 450), (81, 10, 13, 453), (85, 10, 15, 455), (100, 7, 0, 118), (110, 7, 1, 123), (116, 7, 2, 127), (119, 7, 5, 135), (122, 7, 3, 130), (125, 7, 4, 132), (137, 7, 6, 138), (140, 9, 1, 195), (146, 9, 0, 193), (149, 10, 12, 452), (152, 7, 8, 143), (159, 7, 7, 141), (167, 7, 9, 146), (194, 5, 14, 348), (197, 5, 11, 341), (200, 5, 15, 351), (203, 5, 16, 354), (206, 5, 12, 343), (209, 5, 10, 338), (219, 5, 13, 345), (268, 5, 6, 329), (309, 5, 4, 324), (318, 7, 13, 154), (321, 7, 10, 148), (324, 7, 11, 150), (327, 7, 12, 152), (337, 5, 9, 335), (340, 5, 8, 333), (343, 10, 11, 451), (352, 10, 14, 454)]
  | 10 => [(3, 11, 0, 1113), (7, 11, 2, 1115), (11, 11, 1, 1114), (20, 11, 3, 1116), (23, 11, 4, 1117), (26, 11, 5, 1118), (30, 11, 7, 1120), (34, 11, 8, 1121), (37, 11, 9, 1122), (40, 11, 11, 1124), (43, 11, 12, 1125), (46, 11, 13, 1126), (49, 11, 14, 1127), (52, 11, 22, 1135), (56, 11, 23, 1136), (59, 11, 24, 1137), (62, 11, 26, 1139), (65, 11, 35, 1148), (68, 11, 36, 1149), (71, 11, 37, 1150), (74, 11, 38, 1151), (77, 11, 39, 1152), (80, 11, 40, 1153), (83, 11, 41, 1154), (86, 11, 42, 1155), (120, 11, 10, 1123), (123, 11, 6, 1119), (126, 11, 15, 1128), (139, 11, 18, 1131), (146, 11, 16, 1129), (155, 11, 17, 1130), (196, 11, 20, 1133), (199, 11, 19, 1132), (209, 11, 21, 1134), (247, 11, 25, 1138), (263, 11, 34, 1147), (270, 11, 27, 1140), (273, 11, 28, 1141), (276, 11, 29, 1142), (279, 11, 30, 1143), (285, 11, 31, 1144), (288, 11, 32, 1145), (291, 11, 33, 1146), (355, 11, 43, 1156)]
  | _ => []
def mMl : Nat → List (Nat × Nat × Nat) := fun o => match o with
  | 0 => [(33, 241, 253), (49, 158, 285), (56, 159, 281), (60, 181, 290), (64, 182, 312), (74, 162, 832), (91, 163, 778), (95, 184, 782)]
  | 1 => [(51, 190, 867), (64, 168, 880)]
  | 3 => [(29, 185, 787), (36, 186, 794)]
  | 4 => [(26, 241, 276), (32, 160, 277), (47, 189, 811), (76, 191, 819), (87, 161, 827), (109, 192, 836), (131, 239, 848), (136, 190, 1020), (139, 195, 1021)]
  | 5 => [(36, 200, 580), (57, 211, 663), (61, 208, 667), (65, 207, 683), (71, 240, 721), (77, 183, 733), (83, 201, 584), (87, 203, 587), (91, 202, 591), (95, 204, 595), (101, 206, 599), (113, 205, 654), (137, 217, 671), (140, 212, 691), (143, 213, 695), (146, 209, 687), (149, 210, 711), (152, 214, 699), (155, 215, 703), (158, 216, 707), (161, 218, 675), (164, 219, 679)]
  | 6 => [(45, 241, 109)]
  | 7 => [(26, 190, 969), (58, 241, 985), (69, 195, 996), (73, 229, 992), (77, 238, 1005), (86, 231, 1001)]
  | 9 => [(9, 220, 103), (40, 155, 247), (49, 187, 272), (58, 164, 392), (67, 226, 423), (88, 48, 493), (92, 47, 496), (96, 45, 499), (103, 156, 503), (107, 46, 507), (113, 50, 523), (128, 222, 530), (131, 223, 538), (143, 236, 555), (155, 198, 575), (163, 199, 715), (170, 157, 760), (173, 49, 768), (177, 160, 772), (181, 162, 773), (185, 51, 804), (188, 188, 807), (191, 190, 815), (212, 193, 840), (216, 194, 844), (222, 195, 855), (225, 166, 863), (228, 167, 868), (231, 169, 876), (234, 170, 888), (238, 171, 893), (241, 172, 897), (244, 173, 901), (247, 174, 906), (250, 175, 915), (253, 176, 923), (256, 177, 927), (259, 178, 931), (262, 179, 939), (265, 180, 947), (279, 227, 965), (282, 189, 976), (285, 228, 981), (288, 159, 986), (293, 230, 988), (297, 232, 997), (300, 231, 1011), (303, 196, 1016), (312, 233, 1037), (315, 234, 1041), (330, 225, 1053), (333, 44, 1061), (346, 221, 1086), (349, 224, 1098), (355, 165, 511)]
  | 10 => [(89, 52, 1250), (93, 53, 1253), (97, 54, 1257), (100, 60, 1269), (104, 61, 1272), (107, 65, 1275), (110, 66, 1287), (113, 64, 1295), (116, 71, 1303), (129, 78, 1339), (132, 79, 1342), (135, 80, 1345), (142, 82, 1362), (149, 84, 1358), (152, 83, 1366), (158, 85, 1354), (162, 92, 1370), (165, 89, 1389), (168, 90, 1393), (171, 91, 1397), (174, 87, 1382), (178, 93, 1374), (181, 94, 1378), (184, 86, 1385), (187, 81, 1335), (190, 88, 1350), (193, 95, 1331), (202, 99, 1436), (213, 103, 1424), (217, 101, 1440), (221, 104, 1428), (224, 100, 1432), (227, 102, 1420), (230, 106, 1450), (234, 107, 1454), (237, 108, 1458), (240, 105, 1446), (250, 109, 1416), (254, 62, 1413), (258, 55, 1502), (282, 110, 1480), (294, 114, 1484), (297, 115, 1487), (301, 113, 1491), (304, 112, 1498), (307, 116, 1476), (311, 63, 1469), (314, 117, 1472), (317, 120, 1517), (321, 121, 1513), (324, 122, 1521), (327, 123, 1529), (330, 124, 1541), (333, 131, 1557), (336, 132, 1565), (339, 137, 1582), (343, 139, 1586), (346, 140, 1593), (349, 56, 1601), (352, 147, 1624)]
  | 11 => [(9, 0, 95), (12, 57, 1108), (13, 1, 489), (17, 67, 1265), (18, 2, 515), (22, 68, 1279), (23, 3, 519), (26, 69, 1283), (27, 4, 526), (30, 70, 1291), (31, 5, 534), (34, 72, 1299), (35, 6, 545), (38, 73, 1307), (39, 7, 551), (43, 76, 1319), (44, 8, 559), (48, 77, 1323), (49, 9, 563), (53, 74, 1311), (54, 10, 567), (57, 75, 1315), (58, 11, 571), (61, 96, 1327), (62, 12, 752), (65, 97, 1401), (66, 13, 756), (69, 98, 1405), (70, 14, 764), (73, 111, 1409), (74, 15, 800), (77, 118, 1465), (78, 16, 851), (81, 119, 1505), (82, 17, 859), (85, 125, 1509), (86, 18, 872), (89, 126, 1525), (90, 19, 884), (93, 127, 1533), (94, 20, 911), (97, 128, 1537), (98, 21, 919), (101, 129, 1545), (102, 22, 935), (105, 130, 1549), (106, 23, 943), (109, 132, 1553), (110, 24, 951), (113, 133, 1561), (114, 25, 955), (117, 134, 1566), (118, 26, 959), (121, 135, 1570), (122, 27, 972), (125, 136, 1574), (126, 28, 977), (129, 138, 1578), (130, 29, 1012), (133, 141, 1589), (134, 30, 1022), (137, 142, 1597), (138, 31, 1029), (141, 143, 1604), (142, 32, 1033), (145, 144, 1608), (146, 33, 1045), (149, 145, 1612), (150, 34, 1049), (153, 146, 1616), (154, 35, 1057), (157, 148, 1620), (158, 36, 1065), (161, 149, 1628), (162, 37, 1069), (165, 150, 1632), (166, 38, 1073), (170, 151, 1636), (171, 39, 1078), (174, 152, 1640), (175, 40, 1082), (178, 58, 1246), (179, 41, 1090), (182, 59, 1261), (183, 42, 1094), (186, 153, 1644), (187, 43, 1102), (190, 154, 1648)]
  | _ => []
def mKl : Nat → List (Nat × Int × Nat) := fun o => match o with
  | 0 => [(87, (-1000000), 777)]
  | 1 => [(68, (-1000000), 892)]
  | 2 => [(25, (-1000000), 316)]
  | 4 => [(86, (-1000000), 826)]
  | 9 => [(176, (-1000000), 771), (292, 16777215, 987), (336, 1000000, 1077)]
  | 10 => [(55, 49152, 1112), (138, 1000000, 1349), (257, (-1000000), 1464)]
  | 12 => [(265, 1431655765, 1008), (266, 858993459, 1009), (267, 252645135, 1010)]
  | _ => []
def mLl : Nat → List (Nat × Int × Nat) := fun o => match o with
  | 3 => [(40, 1000000000, 798), (42, (-1000000000), 799), (44, 2000000000, 797)]
  | 4 => [(116, 1103, 823), (118, 12345, 824), (120, 1000003, 825)]
  | 10 => [(205, 1000000000, 1444), (207, (-1000000000), 1445), (243, (-50), 1462), (245, 99, 1463), (261, 1103, 1495), (266, 12345, 1496), (268, 1000003, 1497)]
  | _ => []
def mCll : Nat → List (Nat × Nat × Nat) := fun o => match o with
  | 0 => [(9, 3, 251)]
  | 5 => [(69, 4, 719)]
  | 9 => [(7, 7, 101), (24, 9, 186), (31, 6, 202), (38, 1, 245), (47, 5, 270), (56, 2, 390), (65, 8, 421)]
  | 11 => [(7, 10, 93), (10, 11, 1106)]
  | _ => []
def mAl : Nat → List (Nat × Nat × Nat × Nat) := fun o => match o with
  | 0 => [(9, 3, 251, 252)]
  | 6 => [(30, 4, 107, 108)]
  | 9 => [(7, 7, 101, 185)]
  | _ => []
def mSl : Nat → List (Nat × Int × Nat) := fun o => match o with
  | 5 => [(99, (-10), 598), (105, (-11), 650), (107, (-12), 651), (109, (-13), 652), (111, (-14), 653), (116, (-15), 657), (118, (-16), 658), (120, (-17), 659), (122, (-18), 660), (124, (-19), 661), (126, (-20), 662)]
  | _ => []
def mGl : Nat → List (Nat × Int) := fun o => match o with
  | 6 => [(51, (-2))]
  | 9 => [(134, (-3))]
  | _ => []
def mOl : Nat → List (Nat × Nat) := fun o => match o with
  | 0 => [(3, 250)]
  | 1 => [(3, 395)]
  | 2 => [(3, 293)]
  | 3 => [(1, 736)]
  | 4 => [(3, 275)]
  | 5 => [(3, 207)]
  | 6 => [(3, 106)]
  | 7 => [(3, 426)]
  | 8 => [(3, 191)]
  | 9 => [(1, 98)]
  | 10 => [(14, 1111)]
  | _ => []
def mYl : Nat → List (Nat × Nat) := fun o => match o with
  | 6 => [(54, 114)]
  | 7 => [(39, 970)]
  | 13 => [(150, 732)]
  | _ => []
def mQl : Nat → List (Nat × Nat × Nat) := fun o => match o with
  | 0 => [(68, 0, 831), (78, 1, 833)]
  | 1 => [(69, 1, 905), (75, 0, 910)]
  | 3 => [(23, 1, 786), (33, 0, 791)]
  | 4 => [(91, 1, 834), (97, 0, 835)]
  | 5 => [(30, 1, 579)]
  | 6 => [(73, 1, 542)]
  | 7 => [(45, 1, 971)]
  | 9 => [(271, 1, 963), (276, 0, 964), (306, 2, 1026)]
  | 13 => [(304, 1, 731)]
  | _ => []
def mNl : Nat → List (Nat × Nat × Nat) := fun o => match o with
  | 5 => [(128, 25, 602), (133, 26, 612)]
  | _ => []
def mTl : List (Nat × Nat × Nat) := [(9, 26, 235), (9, 33, 197)]
set_option maxRecDepth 100000 in
def mInf : List (Nat × MethodName × ByteArray × Nat × Option FieldType) := [(9, ⟨"RoadWater", "<init>", "()V"⟩, prog_1_method_1_code, 2, none),
  (9, ⟨"RoadWater", "rise", "(II)I"⟩, prog_1_method_2_code, 4, (some FieldType.int)),
  (9, ⟨"RoadWater", "ground", "(III)I"⟩, prog_1_method_3_code, 6, (some FieldType.int)),
  (9, ⟨"RoadWater", "thing", "(II)I"⟩, prog_1_method_4_code, 4, (some FieldType.int)),
  (9, ⟨"RoadWater", "move", "(II)I"⟩, prog_1_method_5_code, 5, (some FieldType.int)),
  (9, ⟨"RoadWater", "of", "(II)I"⟩, prog_1_method_6_code, 3, (some FieldType.int)),
  (9, ⟨"RoadWater", "terms", "(II)I"⟩, prog_1_method_7_code, 4, (some FieldType.int)),
  (9, ⟨"RoadWater", "feed", "(IIIII)I"⟩, prog_1_method_8_code, 6, (some FieldType.int)),
  (9, ⟨"RoadWater", "end", "(I)I"⟩, prog_1_method_9_code, 2, (some FieldType.int)),
  (9, ⟨"RoadWater", "row", "()I"⟩, prog_1_method_10_code, 4, (some FieldType.int)),
  (9, ⟨"RoadWater", "worn", "()I"⟩, prog_1_method_11_code, 1, (some FieldType.int)),
  (9, ⟨"RoadWater", "law", "()I"⟩, prog_1_method_12_code, 3, (some FieldType.int)),
  (9, ⟨"RoadWater", "fault", "()I"⟩, prog_1_method_13_code, 1, (some FieldType.int)),
  (9, ⟨"RoadWater", "force", "(I)I"⟩, prog_1_method_14_code, 3, (some FieldType.int)),
  (9, ⟨"RoadWater", "warm", "(III)I"⟩, prog_1_method_15_code, 4, (some FieldType.int)),
  (9, ⟨"RoadWater", "ray", "(II)I"⟩, prog_1_method_16_code, 3, (some FieldType.int)),
  (9, ⟨"RoadWater", "at", "(II)I"⟩, prog_1_method_17_code, 3, (some FieldType.int)),
  (9, ⟨"RoadWater", "seen", "(I)I"⟩, prog_1_method_18_code, 2, (some FieldType.int)),
  (9, ⟨"RoadWater", "pictures", "(I)I"⟩, prog_1_method_19_code, 2, (some FieldType.int)),
  (9, ⟨"RoadWater", "picture", "(III)I"⟩, prog_1_method_20_code, 6, (some FieldType.int)),
  (9, ⟨"RoadWater", "hidden", "(I)I"⟩, prog_1_method_21_code, 2, (some FieldType.int)),
  (9, ⟨"RoadWater", "water", "(I)I"⟩, prog_1_method_22_code, 3, (some FieldType.int)),
  (9, ⟨"RoadWater", "horizon", "()I"⟩, prog_1_method_23_code, 1, (some FieldType.int)),
  (9, ⟨"RoadWater", "aim", "(II)I"⟩, prog_1_method_24_code, 3, (some FieldType.int)),
  (9, ⟨"RoadWater", "loom", "(II)I"⟩, prog_1_method_25_code, 5, (some FieldType.int)),
  (9, ⟨"RoadWater", "shade", "(I)I"⟩, prog_1_method_26_code, 4, (some FieldType.int)),
  (9, ⟨"RoadWater", "cross", "(II)I"⟩, prog_1_method_27_code, 3, (some FieldType.int)),
  (9, ⟨"RoadWater", "hours", "(I)I"⟩, prog_1_method_28_code, 4, (some FieldType.int)),
  (9, ⟨"RoadWater", "mark", "(II)I"⟩, prog_1_method_29_code, 5, (some FieldType.int)),
  (9, ⟨"RoadWater", "level", "(I)I"⟩, prog_1_method_30_code, 2, (some FieldType.int)),
  (9, ⟨"RoadWater", "best", "(I)I"⟩, prog_1_method_31_code, 6, (some FieldType.int)),
  (9, ⟨"RoadWater", "eyes", "(II)I"⟩, prog_1_method_32_code, 6, (some FieldType.int)),
  (9, ⟨"RoadWater", "where", "(II)I"⟩, prog_1_method_33_code, 3, (some FieldType.int)),
  (9, ⟨"RoadWater", "sight", "(III)I"⟩, prog_1_method_34_code, 5, (some FieldType.int)),
  (9, ⟨"RoadWater", "drop", "(I)I"⟩, prog_1_method_35_code, 2, (some FieldType.int)),
  (9, ⟨"RoadWater", "wrong", "(I)I"⟩, prog_1_method_36_code, 2, (some FieldType.int)),
  (9, ⟨"RoadWater", "fits", "()I"⟩, prog_1_method_37_code, 3, (some FieldType.int)),
  (9, ⟨"RoadWater", "likely", "()I"⟩, prog_1_method_38_code, 5, (some FieldType.int)),
  (9, ⟨"RoadWater", "tremble", "(IIII)I"⟩, prog_1_method_39_code, 9, (some FieldType.int)),
  (9, ⟨"RoadWater", "trembled", "(II)I"⟩, prog_1_method_40_code, 3, (some FieldType.int)),
  (9, ⟨"RoadWater", "image", "(I)I"⟩, prog_1_method_41_code, 2, (some FieldType.int)),
  (9, ⟨"RoadWater", "back", "(I)I"⟩, prog_1_method_42_code, 2, (some FieldType.int)),
  (9, ⟨"RoadWater", "count", "(I)I"⟩, prog_1_method_43_code, 2, (some FieldType.int)),
  (9, ⟨"RoadWater", "status", "()I"⟩, prog_1_method_44_code, 1, (some FieldType.int)),
  (9, ⟨"RoadWater", "sightsWrong", "(I)I"⟩, prog_1_method_45_code, 5, (some FieldType.int)),
  (9, ⟨"RoadWater", "refuse", "(I)I"⟩, prog_1_method_46_code, 2, (some FieldType.int)),
  (9, ⟨"RoadWater", "accept", "(I)I"⟩, prog_1_method_47_code, 2, (some FieldType.int)),
  (9, ⟨"RoadWater", "isWithin", "(III)Z"⟩, prog_1_method_48_code, 3, (some FieldType.boolean)),
  (9, ⟨"RoadWater", "isPlace", "(I)Z"⟩, prog_1_method_49_code, 1, (some FieldType.boolean)),
  (9, ⟨"RoadWater", "isHour", "(I)Z"⟩, prog_1_method_50_code, 1, (some FieldType.boolean)),
  (9, ⟨"RoadWater", "isTall", "(I)Z"⟩, prog_1_method_51_code, 1, (some FieldType.boolean)),
  (9, ⟨"RoadWater", "isAngle", "(I)Z"⟩, prog_1_method_52_code, 1, (some FieldType.boolean)),
  (10, ⟨"RoadWaterModel", "lies", "(III)Z"⟩, prog_12_method_1_code, 3, (some FieldType.boolean)),
  (10, ⟨"RoadWaterModel", "refuses", "(I)I"⟩, prog_12_method_2_code, 2, (some FieldType.int)),
  (10, ⟨"RoadWaterModel", "good", "(I)I"⟩, prog_12_method_3_code, 2, (some FieldType.int)),
  (10, ⟨"RoadWaterModel", "nearest", "(III)I"⟩, prog_12_method_4_code, 3, (some FieldType.int)),
  (10, ⟨"RoadWaterModel", "far", "(I)I"⟩, prog_12_method_5_code, 1, (some FieldType.int)),
  (10, ⟨"RoadWaterModel", "<init>", "()V"⟩, prog_12_method_6_code, 1, none),
  (10, ⟨"RoadWaterModel", "image", "(I)I"⟩, prog_12_method_7_code, 3, (some FieldType.int)),
  (10, ⟨"RoadWaterModel", "back", "(I)I"⟩, prog_12_method_8_code, 3, (some FieldType.int)),
  (10, ⟨"RoadWaterModel", "isPlace", "(I)Z"⟩, prog_12_method_9_code, 1, (some FieldType.boolean)),
  (10, ⟨"RoadWaterModel", "isInch", "(I)Z"⟩, prog_12_method_10_code, 1, (some FieldType.boolean)),
  (10, ⟨"RoadWaterModel", "isHour", "(I)Z"⟩, prog_12_method_11_code, 1, (some FieldType.boolean)),
  (10, ⟨"RoadWaterModel", "isAngle", "(I)Z"⟩, prog_12_method_12_code, 1, (some FieldType.boolean)),
  (10, ⟨"RoadWaterModel", "isThing", "(I)Z"⟩, prog_12_method_13_code, 2, (some FieldType.boolean)),
  (10, ⟨"RoadWaterModel", "riseOf", "(I)I"⟩, prog_12_method_14_code, 2, (some FieldType.int)),
  (10, ⟨"RoadWaterModel", "thingAt", "(I)I"⟩, prog_12_method_15_code, 3, (some FieldType.int)),
  (10, ⟨"RoadWaterModel", "rise", "(II)I"⟩, prog_12_method_16_code, 4, (some FieldType.int)),
  (10, ⟨"RoadWaterModel", "ground", "(III)I"⟩, prog_12_method_17_code, 6, (some FieldType.int)),
  (10, ⟨"RoadWaterModel", "thing", "(II)I"⟩, prog_12_method_18_code, 4, (some FieldType.int)),
  (10, ⟨"RoadWaterModel", "move", "(II)I"⟩, prog_12_method_19_code, 4, (some FieldType.int)),
  (10, ⟨"RoadWaterModel", "thereOf", "(II)I"⟩, prog_12_method_20_code, 3, (some FieldType.int)),
  (10, ⟨"RoadWaterModel", "of", "(II)I"⟩, prog_12_method_21_code, 3, (some FieldType.int)),
  (10, ⟨"RoadWaterModel", "terms", "(II)I"⟩, prog_12_method_22_code, 4, (some FieldType.int)),
  (10, ⟨"RoadWaterModel", "row", "()I"⟩, prog_12_method_23_code, 4, (some FieldType.int)),
  (10, ⟨"RoadWaterModel", "worn", "()I"⟩, prog_12_method_24_code, 1, (some FieldType.int)),
  (10, ⟨"RoadWaterModel", "feed", "(IIIII)I"⟩, prog_12_method_25_code, 7, (some FieldType.int)),
  (10, ⟨"RoadWaterModel", "end", "(I)I"⟩, prog_12_method_26_code, 2, (some FieldType.int)),
  (10, ⟨"RoadWaterModel", "isSmall", "(I)Z"⟩, prog_12_method_27_code, 1, (some FieldType.boolean)),
  (10, ⟨"RoadWaterModel", "isDigit", "(I)Z"⟩, prog_12_method_28_code, 1, (some FieldType.boolean)),
  (10, ⟨"RoadWaterModel", "wordOf", "(II)I"⟩, prog_12_method_29_code, 8, (some FieldType.int)),
  (10, ⟨"RoadWaterModel", "splits", "(I)V"⟩, prog_12_method_30_code, 6, none),
  (10, ⟨"RoadWaterModel", "fine", "()Z"⟩, prog_12_method_31_code, 1, (some FieldType.boolean)),
  (10, ⟨"RoadWaterModel", "faults", "()V"⟩, prog_12_method_32_code, 1, none),
  (10, ⟨"RoadWaterModel", "takes0", "(I)Z"⟩, prog_12_method_33_code, 3, (some FieldType.boolean)),
  (10, ⟨"RoadWaterModel", "must", "(I)V"⟩, prog_12_method_34_code, 2, none),
  (10, ⟨"RoadWaterModel", "leaf", "()V"⟩, prog_12_method_35_code, 1, none),
  (10, ⟨"RoadWaterModel", "sign", "(C)I"⟩, prog_12_method_36_code, 1, (some FieldType.int)),
  (10, ⟨"RoadWaterModel", "readClause", "()V"⟩, prog_12_method_37_code, 1, none),
  (10, ⟨"RoadWaterModel", "readTest", "(I)V"⟩, prog_12_method_38_code, 2, none),
  (10, ⟨"RoadWaterModel", "readBoth", "(I)V"⟩, prog_12_method_39_code, 2, none),
  (10, ⟨"RoadWaterModel", "readPlain", "(I)V"⟩, prog_12_method_40_code, 4, none),
  (10, ⟨"RoadWaterModel", "readSum", "(I)V"⟩, prog_12_method_41_code, 2, none),
  (10, ⟨"RoadWaterModel", "readTerm", "(I)V"⟩, prog_12_method_42_code, 2, none),
  (10, ⟨"RoadWaterModel", "readPart", "(I)V"⟩, prog_12_method_43_code, 3, none),
  (10, ⟨"RoadWaterModel", "reads", "()Z"⟩, prog_12_method_44_code, 2, (some FieldType.boolean)),
  (10, ⟨"RoadWaterModel", "law", "()I"⟩, prog_12_method_45_code, 3, (some FieldType.int)),
  (10, ⟨"RoadWaterModel", "fault", "()I"⟩, prog_12_method_46_code, 1, (some FieldType.int)),
  (10, ⟨"RoadWaterModel", "force", "(I)I"⟩, prog_12_method_47_code, 3, (some FieldType.int)),
  (10, ⟨"RoadWaterModel", "codeAt", "(I)I"⟩, prog_12_method_48_code, 2, (some FieldType.int)),
  (10, ⟨"RoadWaterModel", "passes0", "(I)Z"⟩, prog_12_method_49_code, 3, (some FieldType.boolean)),
  (10, ⟨"RoadWaterModel", "bounded", "(JZ)J"⟩, prog_12_method_50_code, 4, (some FieldType.long)),
  (10, ⟨"RoadWaterModel", "sumOf", "(Z)J"⟩, prog_12_method_51_code, 7, (some FieldType.long)),
  (10, ⟨"RoadWaterModel", "termOf", "(Z)J"⟩, prog_12_method_52_code, 7, (some FieldType.long)),
  (10, ⟨"RoadWaterModel", "partOf", "(Z)J"⟩, prog_12_method_53_code, 4, (some FieldType.long)),
  (10, ⟨"RoadWaterModel", "testOf", "(Z)Z"⟩, prog_12_method_54_code, 4, (some FieldType.boolean)),
  (10, ⟨"RoadWaterModel", "bothOf", "(Z)Z"⟩, prog_12_method_55_code, 4, (some FieldType.boolean)),
  (10, ⟨"RoadWaterModel", "plainOf", "(Z)Z"⟩, prog_12_method_56_code, 3, (some FieldType.boolean)),
  (10, ⟨"RoadWaterModel", "positiveOf", "(Z)Z"⟩, prog_12_method_57_code, 7, (some FieldType.boolean)),
  (10, ⟨"RoadWaterModel", "warmthOf", "(III)I"⟩, prog_12_method_58_code, 9, (some FieldType.int)),
  (10, ⟨"RoadWaterModel", "warms", "(I)V"⟩, prog_12_method_59_code, 4, none),
  (10, ⟨"RoadWaterModel", "warm", "(III)I"⟩, prog_12_method_60_code, 4, (some FieldType.int)),
  (10, ⟨"RoadWaterModel", "warmer", "(III)I"⟩, prog_12_method_61_code, 5, (some FieldType.int)),
  (10, ⟨"RoadWaterModel", "draws", "(I)I"⟩, prog_12_method_62_code, 2, (some FieldType.int)),
  (10, ⟨"RoadWaterModel", "signOf", "(I)I"⟩, prog_12_method_63_code, 1, (some FieldType.int)),
  (10, ⟨"RoadWaterModel", "ends", "(IIII)V"⟩, prog_12_method_64_code, 5, none),
  (10, ⟨"RoadWaterModel", "goes", "(IIIIZI)V"⟩, prog_12_method_65_code, 13, none),
  (10, ⟨"RoadWaterModel", "goesNow", "(I)V"⟩, prog_12_method_66_code, 2, none),
  (10, ⟨"RoadWaterModel", "ray", "(II)I"⟩, prog_12_method_67_code, 3, (some FieldType.int)),
  (10, ⟨"RoadWaterModel", "at", "(II)I"⟩, prog_12_method_68_code, 3, (some FieldType.int)),
  (10, ⟨"RoadWaterModel", "looks", "(III)V"⟩, prog_12_method_69_code, 5, none),
  (10, ⟨"RoadWaterModel", "looksNow", "()V"⟩, prog_12_method_70_code, 1, none),
  (10, ⟨"RoadWaterModel", "seenNow", "(I)I"⟩, prog_12_method_71_code, 4, (some FieldType.int)),
  (10, ⟨"RoadWaterModel", "picturesNow", "(I)I"⟩, prog_12_method_72_code, 4, (some FieldType.int)),
  (10, ⟨"RoadWaterModel", "hiddenNow", "(I)I"⟩, prog_12_method_73_code, 4, (some FieldType.int)),
  (10, ⟨"RoadWaterModel", "seen", "(I)I"⟩, prog_12_method_74_code, 2, (some FieldType.int)),
  (10, ⟨"RoadWaterModel", "pictures", "(I)I"⟩, prog_12_method_75_code, 2, (some FieldType.int)),
  (10, ⟨"RoadWaterModel", "picture", "(III)I"⟩, prog_12_method_76_code, 9, (some FieldType.int)),
  (10, ⟨"RoadWaterModel", "hidden", "(I)I"⟩, prog_12_method_77_code, 2, (some FieldType.int)),
  (10, ⟨"RoadWaterModel", "water", "(I)I"⟩, prog_12_method_78_code, 7, (some FieldType.int)),
  (10, ⟨"RoadWaterModel", "horizon", "()I"⟩, prog_12_method_79_code, 2, (some FieldType.int)),
  (10, ⟨"RoadWaterModel", "aimAt", "(III)I"⟩, prog_12_method_80_code, 5, (some FieldType.int)),
  (10, ⟨"RoadWaterModel", "aim", "(II)I"⟩, prog_12_method_81_code, 3, (some FieldType.int)),
  (10, ⟨"RoadWaterModel", "loom", "(II)I"⟩, prog_12_method_82_code, 5, (some FieldType.int)),
  (10, ⟨"RoadWaterModel", "shade", "(I)I"⟩, prog_12_method_83_code, 4, (some FieldType.int)),
  (10, ⟨"RoadWaterModel", "cross", "(II)I"⟩, prog_12_method_84_code, 5, (some FieldType.int)),
  (10, ⟨"RoadWaterModel", "hours", "(I)I"⟩, prog_12_method_85_code, 4, (some FieldType.int)),
  (10, ⟨"RoadWaterModel", "wouldSee", "(II)Z"⟩, prog_12_method_86_code, 3, (some FieldType.boolean)),
  (10, ⟨"RoadWaterModel", "mark", "(II)I"⟩, prog_12_method_87_code, 6, (some FieldType.int)),
  (10, ⟨"RoadWaterModel", "ones", "(I)I"⟩, prog_12_method_88_code, 3, (some FieldType.int)),
  (10, ⟨"RoadWaterModel", "errorIn", "(II)I"⟩, prog_12_method_89_code, 3, (some FieldType.int)),
  (10, ⟨"RoadWaterModel", "level", "(I)I"⟩, prog_12_method_90_code, 2, (some FieldType.int)),
  (10, ⟨"RoadWaterModel", "best", "(I)I"⟩, prog_12_method_91_code, 6, (some FieldType.int)),
  (10, ⟨"RoadWaterModel", "eyes", "(II)I"⟩, prog_12_method_92_code, 5, (some FieldType.int)),
  (10, ⟨"RoadWaterModel", "where", "(II)I"⟩, prog_12_method_93_code, 6, (some FieldType.int)),
  (10, ⟨"RoadWaterModel", "sight", "(III)I"⟩, prog_12_method_94_code, 5, (some FieldType.int)),
  (10, ⟨"RoadWaterModel", "drop", "(I)I"⟩, prog_12_method_95_code, 3, (some FieldType.int)),
  (10, ⟨"RoadWaterModel", "wrongIn", "(I)I"⟩, prog_12_method_96_code, 6, (some FieldType.int)),
  (10, ⟨"RoadWaterModel", "wrong", "(I)I"⟩, prog_12_method_97_code, 2, (some FieldType.int)),
  (10, ⟨"RoadWaterModel", "fits", "()I"⟩, prog_12_method_98_code, 3, (some FieldType.int)),
  (10, ⟨"RoadWaterModel", "likely", "()I"⟩, prog_12_method_99_code, 5, (some FieldType.int)),
  (10, ⟨"RoadWaterModel", "tremble", "(IIII)I"⟩, prog_12_method_100_code, 9, (some FieldType.int)),
  (10, ⟨"RoadWaterModel", "trembled", "(II)I"⟩, prog_12_method_101_code, 3, (some FieldType.int)),
  (10, ⟨"RoadWaterModel", "count", "(I)I"⟩, prog_12_method_102_code, 4, (some FieldType.int)),
  (10, ⟨"RoadWaterModel", "status", "()I"⟩, prog_12_method_103_code, 1, (some FieldType.int)),
  (0, ⟨"RoadWater$Air", "<init>", "(LRoadWater$Road;)V"⟩, prog_2_method_1_code, 2, none),
  (0, ⟨"RoadWater$Air", "forgetPlace", "(I)V"⟩, prog_2_method_2_code, 2, none),
  (0, ⟨"RoadWater$Air", "forgetAll", "()V"⟩, prog_2_method_3_code, 2, none),
  (0, ⟨"RoadWater$Air", "lawInForce", "()LRoadWater$Law;"⟩, prog_2_method_4_code, 2, (some (FieldType.object "RoadWater$Law"))),
  (0, ⟨"RoadWater$Air", "differsByHour", "()Z"⟩, prog_2_method_5_code, 2, (some FieldType.boolean)),
  (0, ⟨"RoadWater$Air", "ofHour", "(I)LRoadWater$HourAir;"⟩, prog_2_method_6_code, 5, (some (FieldType.object "RoadWater$HourAir"))),
  (0, ⟨"RoadWater$Air", "findPull", "(LRoadWater$HourAir;II)I"⟩, prog_2_method_7_code, 5, (some FieldType.int)),
  (0, ⟨"RoadWater$Air", "warmth", "(LRoadWater$HourAir;II)I"⟩, prog_2_method_8_code, 6, (some FieldType.int)),
  (0, ⟨"RoadWater$Air", "layOut", "(III)V"⟩, prog_2_method_9_code, 4, none),
  (1, ⟨"RoadWater$Field", "<init>", "(LRoadWater$Light;)V"⟩, prog_3_method_1_code, 2, none),
  (1, ⟨"RoadWater$Field", "forget", "()V"⟩, prog_3_method_2_code, 1, none),
  (1, ⟨"RoadWater$Field", "look", "()V"⟩, prog_3_method_3_code, 2, none),
  (1, ⟨"RoadWater$Field", "raysTo", "(I)I"⟩, prog_3_method_4_code, 4, (some FieldType.int)),
  (1, ⟨"RoadWater$Field", "startsPicture", "(II)Z"⟩, prog_3_method_5_code, 3, (some FieldType.boolean)),
  (1, ⟨"RoadWater$Field", "picturesOf", "(I)I"⟩, prog_3_method_6_code, 4, (some FieldType.int)),
  (1, ⟨"RoadWater$Field", "pictureStart", "(II)I"⟩, prog_3_method_7_code, 5, (some FieldType.int)),
  (1, ⟨"RoadWater$Field", "pictureStop", "(II)I"⟩, prog_3_method_8_code, 4, (some FieldType.int)),
  (1, ⟨"RoadWater$Field", "uprightness", "(II)I"⟩, prog_3_method_9_code, 5, (some FieldType.int)),
  (1, ⟨"RoadWater$Field", "leastInch", "(II)I"⟩, prog_3_method_10_code, 5, (some FieldType.int)),
  (1, ⟨"RoadWater$Field", "greatestInch", "(II)I"⟩, prog_3_method_11_code, 5, (some FieldType.int)),
  (1, ⟨"RoadWater$Field", "hiddenInches", "(II)I"⟩, prog_3_method_12_code, 5, (some FieldType.int)),
  (1, ⟨"RoadWater$Field", "waterAngles", "()I"⟩, prog_3_method_13_code, 3, (some FieldType.int)),
  (1, ⟨"RoadWater$Field", "highestWater", "()I"⟩, prog_3_method_14_code, 2, (some FieldType.int)),
  (1, ⟨"RoadWater$Field", "lowestWater", "()I"⟩, prog_3_method_15_code, 2, (some FieldType.int)),
  (1, ⟨"RoadWater$Field", "highestToGround", "()I"⟩, prog_3_method_16_code, 2, (some FieldType.int)),
  (1, ⟨"RoadWater$Field", "lowestTo", "(II)I"⟩, prog_3_method_17_code, 4, (some FieldType.int)),
  (2, ⟨"RoadWater$HourAir", "<init>", "(I)V"⟩, prog_4_method_1_code, 2, none),
  (2, ⟨"RoadWater$HourAir", "clear", "(II)V"⟩, prog_4_method_2_code, 4, none),
  (3, ⟨"RoadWater$Law", "<init>", "([I[I[IZ)V"⟩, prog_5_method_1_code, 5, none),
  (3, ⟨"RoadWater$Law", "tell", "([I[I)I"⟩, prog_5_method_2_code, 6, (some FieldType.int)),
  (3, ⟨"RoadWater$Law", "run", "(II[I[I)Z"⟩, prog_5_method_3_code, 11, (some FieldType.boolean)),
  (3, ⟨"RoadWater$Law", "joined", "(IJJ)J"⟩, prog_5_method_4_code, 5, (some FieldType.long)),
  (4, ⟨"RoadWater$Light", "<init>", "(LRoadWater$Road;LRoadWater$Air;)V"⟩, prog_6_method_1_code, 3, none),
  (4, ⟨"RoadWater$Light", "standByTerms", "()V"⟩, prog_6_method_2_code, 1, none),
  (4, ⟨"RoadWater$Light", "turnTo", "(I)V"⟩, prog_6_method_3_code, 2, none),
  (4, ⟨"RoadWater$Light", "send", "(I)V"⟩, prog_6_method_4_code, 10, none),
  (4, ⟨"RoadWater$Light", "drawn", "(I)I"⟩, prog_6_method_5_code, 2, (some FieldType.int)),
  (4, ⟨"RoadWater$Light", "settle", "(IIZ)V"⟩, prog_6_method_6_code, 4, none),
  (4, ⟨"RoadWater$Light", "lowestPlace", "()I"⟩, prog_6_method_7_code, 3, (some FieldType.int)),
  (4, ⟨"RoadWater$Light", "turns", "()I"⟩, prog_6_method_8_code, 5, (some FieldType.int)),
  (4, ⟨"RoadWater$Light", "comesTo", "(I)Z"⟩, prog_6_method_9_code, 2, (some FieldType.boolean)),
  (4, ⟨"RoadWater$Light", "levelError", "(I)I"⟩, prog_6_method_10_code, 2, (some FieldType.int)),
  (5, ⟨"RoadWater$Reader", "<init>", "()V"⟩, prog_7_method_1_code, 1, none),
  (5, ⟨"RoadWater$Reader", "readText", "([II)I"⟩, prog_7_method_2_code, 5, (some FieldType.int)),
  (5, ⟨"RoadWater$Reader", "makeLaw", "()LRoadWater$Law;"⟩, prog_7_method_3_code, 1, (some (FieldType.object "RoadWater$Law"))),
  (5, ⟨"RoadWater$Reader", "split", "([II)V"⟩, prog_7_method_4_code, 6, none),
  (5, ⟨"RoadWater$Reader", "sortOf", "(I)I"⟩, prog_7_method_5_code, 1, (some FieldType.int)),
  (5, ⟨"RoadWater$Reader", "addToken", "(III)V"⟩, prog_7_method_6_code, 4, none),
  (5, ⟨"RoadWater$Reader", "addDigit", "(I)V"⟩, prog_7_method_7_code, 2, none),
  (5, ⟨"RoadWater$Reader", "wordKind", "([III)I"⟩, prog_7_method_8_code, 5, (some FieldType.int)),
  (5, ⟨"RoadWater$Reader", "askedWord", "([III)I"⟩, prog_7_method_9_code, 3, (some FieldType.int)),
  (5, ⟨"RoadWater$Reader", "spells", "([IIILjava/lang/String;)Z"⟩, prog_7_method_10_code, 5, (some FieldType.boolean)),
  (5, ⟨"RoadWater$Reader", "kindHere", "()I"⟩, prog_7_method_11_code, 1, (some FieldType.int)),
  (5, ⟨"RoadWater$Reader", "takes", "(I)Z"⟩, prog_7_method_12_code, 2, (some FieldType.boolean)),
  (5, ⟨"RoadWater$Reader", "emit", "(II)I"⟩, prog_7_method_13_code, 4, (some FieldType.int)),
  (5, ⟨"RoadWater$Reader", "aimBehind", "(I)V"⟩, prog_7_method_14_code, 2, none),
  (5, ⟨"RoadWater$Reader", "readClause", "()Z"⟩, prog_7_method_15_code, 1, (some FieldType.boolean)),
  (5, ⟨"RoadWater$Reader", "readTest", "(I)Z"⟩, prog_7_method_16_code, 4, (some FieldType.boolean)),
  (5, ⟨"RoadWater$Reader", "readBoth", "(I)Z"⟩, prog_7_method_17_code, 4, (some FieldType.boolean)),
  (5, ⟨"RoadWater$Reader", "readPlain", "(I)Z"⟩, prog_7_method_18_code, 4, (some FieldType.boolean)),
  (5, ⟨"RoadWater$Reader", "readInBrackets", "(I)Z"⟩, prog_7_method_19_code, 2, (some FieldType.boolean)),
  (5, ⟨"RoadWater$Reader", "readComparison", "(I)Z"⟩, prog_7_method_20_code, 3, (some FieldType.boolean)),
  (5, ⟨"RoadWater$Reader", "readSum", "(I)Z"⟩, prog_7_method_21_code, 4, (some FieldType.boolean)),
  (5, ⟨"RoadWater$Reader", "readTerm", "(I)Z"⟩, prog_7_method_22_code, 4, (some FieldType.boolean)),
  (5, ⟨"RoadWater$Reader", "readPart", "(I)Z"⟩, prog_7_method_23_code, 5, (some FieldType.boolean)),
  (6, ⟨"RoadWater$Road", "<init>", "()V"⟩, prog_8_method_1_code, 1, none),
  (6, ⟨"RoadWater$Road", "copyFrom", "(LRoadWater$Road;)V"⟩, prog_8_method_2_code, 3, none),
  (6, ⟨"RoadWater$Road", "hasThing", "(I)Z"⟩, prog_8_method_3_code, 2, (some FieldType.boolean)),
  (6, ⟨"RoadWater$Road", "inchesThere", "(I)I"⟩, prog_8_method_4_code, 2, (some FieldType.int)),
  (6, ⟨"RoadWater$Road", "placesWithRise", "()I"⟩, prog_8_method_5_code, 3, (some FieldType.int)),
  (6, ⟨"RoadWater$Road", "removeSight", "(I)V"⟩, prog_8_method_6_code, 3, none),
  (7, ⟨"RoadWater$Survey", "<init>", "(LRoadWater$Road;LRoadWater$Light;)V"⟩, prog_9_method_1_code, 3, none),
  (7, ⟨"RoadWater$Survey", "crossing", "(II)I"⟩, prog_9_method_2_code, 6, (some FieldType.int)),
  (7, ⟨"RoadWater$Survey", "begin", "()V"⟩, prog_9_method_3_code, 1, none),
  (7, ⟨"RoadWater$Survey", "wouldEndIn", "(II)Z"⟩, prog_9_method_4_code, 5, (some FieldType.boolean)),
  (7, ⟨"RoadWater$Survey", "addHours", "(II)V"⟩, prog_9_method_5_code, 5, none),
  (7, ⟨"RoadWater$Survey", "hoursAt", "(I)I"⟩, prog_9_method_6_code, 2, (some FieldType.int)),
  (7, ⟨"RoadWater$Survey", "placeOfMostHours", "()I"⟩, prog_9_method_7_code, 3, (some FieldType.int)),
  (7, ⟨"RoadWater$Survey", "addPictures", "(I)V"⟩, prog_9_method_8_code, 5, none),
  (7, ⟨"RoadWater$Survey", "firstPlaceWith", "(I)I"⟩, prog_9_method_9_code, 3, (some FieldType.int)),
  (8, ⟨"RoadWater$Tape", "<init>", "()V"⟩, prog_10_method_1_code, 1, none),
  (8, ⟨"RoadWater$Tape", "append", "(I)V"⟩, prog_10_method_2_code, 3, none),
  (11, ⟨"RoadWaterLaw", "law", "([I)Z"⟩, code, 4, (some FieldType.boolean)),
  (12, ⟨"java/lang/Integer", "bitCount", "(I)I"⟩, prog_14_method_49_code, 1, (some FieldType.int)),
  (12, ⟨"java/lang/Integer", "signum", "(I)I"⟩, prog_14_method_56_code, 1, (some FieldType.int)),
  (13, ⟨"java/util/Arrays", "copyOf", "([II)[I"⟩, prog_20_method_123_code, 3, (some (FieldType.array FieldType.int))),
  (13, ⟨"java/util/Arrays", "fill", "([II)V"⟩, prog_20_method_103_code, 4, none)]
set_option maxRecDepth 100000 in
def mWi : List (Nat × Nat × Nat × Nat) := [(97, 74, 96, 0), (492, 74, 490, 491), (518, 74, 516, 517), (522, 74, 520, 521), (529, 74, 527, 528), (537, 74, 535, 536), (548, 74, 546, 547), (554, 74, 552, 553), (562, 74, 560, 561), (566, 74, 564, 565), (570, 74, 568, 569), (574, 74, 572, 573), (755, 74, 753, 754), (759, 74, 757, 758), (767, 74, 765, 766), (803, 74, 801, 802), (854, 74, 852, 853), (862, 74, 860, 861), (875, 74, 873, 874), (887, 74, 885, 886), (914, 74, 912, 913), (922, 74, 920, 921), (938, 74, 936, 937), (946, 74, 944, 945), (954, 74, 952, 953), (958, 74, 956, 957), (962, 74, 960, 961), (975, 74, 973, 974), (980, 74, 978, 979), (1015, 74, 1013, 1014), (1025, 74, 1023, 1024), (1032, 74, 1030, 1031), (1036, 74, 1034, 1035), (1048, 74, 1046, 1047), (1052, 74, 1050, 1051), (1060, 74, 1058, 1059), (1068, 74, 1066, 1067), (1072, 74, 1070, 1071), (1076, 74, 1074, 1075), (1081, 74, 1079, 1080), (1085, 74, 1083, 1084), (1093, 74, 1091, 1092), (1097, 74, 1095, 1096), (1105, 74, 1103, 1104), (1064, 74, 1063, 25), (502, 74, 501, 1), (510, 74, 509, 2), (498, 74, 497, 0), (495, 74, 494, 0), (770, 74, 769, 0), (525, 74, 524, 0), (806, 74, 805, 0), (1252, 85, 1251, 0), (1256, 85, 1255, 26), (1260, 85, 1259, 27), (1504, 85, 1503, 0), (1603, 85, 1602, 0), (1110, 85, 1109, 0), (1249, 85, 1247, 1248), (1264, 85, 1262, 1263), (1271, 85, 1270, 0), (1274, 85, 1273, 0), (1415, 85, 1414, 0), (1471, 85, 1470, 0), (1298, 85, 1297, 30), (1278, 85, 1277, 28), (1290, 85, 1289, 29), (1268, 85, 1266, 1267), (1282, 85, 1280, 1281), (1286, 85, 1284, 1285), (1294, 85, 1292, 1293), (1306, 85, 1305, 31), (1302, 85, 1300, 1301), (1310, 85, 1308, 1309), (1314, 85, 1312, 1313), (1318, 85, 1316, 1317), (1322, 85, 1320, 1321), (1326, 85, 1324, 1325), (1341, 85, 1340, 0), (1344, 85, 1343, 0), (1348, 85, 1347, 34), (1338, 85, 1337, 33), (1365, 85, 1364, 38), (1369, 85, 1368, 39), (1361, 85, 1360, 37), (1357, 85, 1356, 36), (1388, 85, 1387, 43), (1384, 85, 1383, 0), (1353, 85, 1352, 35), (1392, 85, 1391, 44), (1396, 85, 1395, 45), (1400, 85, 1399, 46), (1373, 85, 1372, 40), (1377, 85, 1376, 41), (1381, 85, 1380, 42), (1334, 85, 1333, 32), (1330, 85, 1328, 1329), (1404, 85, 1402, 1403), (1408, 85, 1406, 1407), (1439, 85, 1438, 52), (1435, 85, 1434, 51), (1443, 85, 1442, 53), (1423, 85, 1422, 48), (1427, 85, 1426, 49), (1431, 85, 1430, 50), (1449, 85, 1448, 54), (1453, 85, 1452, 55), (1457, 85, 1456, 56), (1461, 85, 1460, 57), (1419, 85, 1418, 47), (1483, 85, 1482, 60), (1412, 85, 1410, 1411), (1501, 85, 1500, 63), (1494, 85, 1493, 62), (1486, 85, 1485, 0), (1490, 85, 1489, 61), (1479, 85, 1478, 59), (1475, 85, 1474, 58), (1468, 85, 1466, 1467), (1508, 85, 1506, 1507), (1520, 85, 1519, 65), (1516, 85, 1515, 64), (1524, 85, 1523, 66), (1532, 85, 1531, 67), (1544, 85, 1543, 68), (1512, 85, 1510, 1511), (1528, 85, 1526, 1527), (1536, 85, 1534, 1535), (1540, 85, 1538, 1539), (1548, 85, 1546, 1547), (1552, 85, 1550, 1551), (1560, 85, 1559, 69), (1556, 85, 1554, 1555), (1564, 85, 1562, 1563), (1569, 85, 1567, 1568), (1573, 85, 1571, 1572), (1577, 85, 1575, 1576), (1585, 85, 1584, 70), (1581, 85, 1579, 1580), (1588, 85, 1587, 0), (1596, 85, 1595, 71), (1592, 85, 1590, 1591), (1600, 85, 1598, 1599), (1607, 85, 1605, 1606), (1611, 85, 1609, 1610), (1615, 85, 1613, 1614), (1619, 85, 1617, 1618), (1627, 85, 1626, 72), (1623, 85, 1621, 1622), (1631, 85, 1629, 1630), (1635, 85, 1633, 1634), (1639, 85, 1637, 1638), (1643, 85, 1641, 1642), (1647, 85, 1645, 1646), (1651, 85, 1649, 1650), (249, 80, 248, 0), (506, 80, 504, 505), (763, 80, 761, 762), (288, 80, 287, 0), (284, 80, 282, 283), (280, 80, 278, 279), (830, 80, 828, 829), (776, 80, 774, 775), (781, 80, 780, 19), (394, 83, 393, 0), (514, 83, 512, 513), (866, 83, 864, 865), (871, 83, 869, 870), (883, 83, 882, 23), (879, 83, 877, 878), (891, 83, 889, 890), (896, 83, 894, 895), (900, 83, 898, 899), (904, 83, 902, 903), (909, 83, 907, 908), (918, 83, 916, 917), (926, 83, 924, 925), (930, 83, 928, 929), (934, 83, 932, 933), (942, 83, 940, 941), (950, 83, 948, 949), (292, 82, 291, 0), (315, 82, 313, 314), (735, 91, 734, 0), (785, 91, 783, 784), (790, 91, 789, 20), (796, 91, 795, 0), (274, 81, 273, 0), (810, 81, 808, 809), (814, 81, 812, 813), (818, 81, 816, 817), (822, 81, 821, 21), (839, 81, 838, 22), (843, 81, 841, 842), (847, 81, 845, 846), (858, 81, 856, 857), (1019, 81, 1017, 1018), (206, 79, 205, 0), (578, 79, 576, 577), (718, 79, 716, 717), (583, 79, 582, 3), (586, 79, 585, 0), (594, 79, 593, 5), (590, 79, 589, 4), (597, 79, 596, 0), (656, 79, 655, 0), (601, 79, 600, 0), (686, 79, 685, 11), (670, 79, 669, 7), (690, 79, 689, 12), (714, 79, 713, 18), (666, 79, 665, 6), (694, 79, 693, 13), (698, 79, 697, 14), (702, 79, 701, 15), (706, 79, 705, 16), (710, 79, 709, 17), (674, 79, 673, 8), (678, 79, 677, 9), (682, 79, 681, 10), (105, 75, 104, 0), (1089, 75, 1087, 1088), (533, 75, 531, 532), (541, 75, 539, 540), (1101, 75, 1099, 1100), (1056, 75, 1054, 1055), (425, 84, 424, 0), (968, 84, 966, 967), (984, 84, 982, 983), (995, 84, 994, 24), (991, 84, 989, 990), (1004, 84, 1002, 1003), (1000, 84, 998, 999), (1040, 84, 1038, 1039), (1044, 84, 1042, 1043), (190, 78, 189, 0), (558, 78, 556, 557), (0, 0, 0, 0), (1007, 92, 1006, 0), (850, 92, 849, 0), (723, 76, 722, 0), (111, 76, 110, 0)]
def mVi : List Nat := [0, 1, 2, 3, 4, 5, 6, 7, 8, 9, 10, 11, 12, 13, 14, 15, 16, 17, 18, 19, 20, 21, 22, 23, 24, 25, 26, 27, 28, 29, 30, 31, 32, 33, 34, 35, 36, 37, 38, 39, 40, 41, 42, 43, 44, 45, 46, 53, 54, 57, 58, 59, 64, 65, 66, 67, 68, 69, 70, 71, 72, 73, 74, 75, 76, 77, 80, 81, 82, 83, 84, 85, 86, 88, 89, 90, 91, 92, 93, 94, 95, 96, 97, 98, 99, 100, 101, 102, 103, 104, 105, 106, 107, 108, 109, 110, 111, 112, 113, 115, 116, 117, 118, 119, 120, 121, 122, 123, 124, 125, 126, 127, 128, 129, 130, 131, 132, 133, 134, 135, 136, 137, 138, 140, 141, 142, 143, 144, 145, 146, 147, 148, 149, 150, 151, 152, 153, 154, 155, 156, 157, 158, 159, 160, 161, 162, 163, 164, 165, 166, 167, 168, 169, 170, 171, 172, 173, 174, 175, 176, 177, 178, 179, 180, 181, 182, 183, 184, 185, 187, 188, 189, 190, 191, 192, 193, 194, 195, 196, 197, 198, 199, 200, 202, 203, 207, 208, 209, 210, 211, 212, 213, 214, 215, 216, 217, 218, 219, 220, 221, 222, 223, 224, 225, 226, 227, 228, 229, 230, 231, 232, 233, 234, 235, 236]
def mSt : List Nat := [47, 48, 49, 50, 51, 52, 55, 56, 60, 61, 62, 63, 78, 79, 87, 114, 139, 186, 201, 204, 205, 206, 238, 239, 240, 241]
set_option maxRecDepth 100000 in
def mPcs : List (List Nat) := [[0, 1, 4, 5, 8, 9, 12, 15, 16, 17, 20, 23, 24, 25, 26, 27, 30, 31, 34, 35, 38, 39, 42, 43, 46, 49, 50, 51, 53, 56, 57, 60, 61, 64, 67, 68, 71, 72, 75, 78, 79, 82, 83, 84, 87, 90, 93, 94, 97, 98, 99, 102, 103, 106, 109, 112, 113, 116, 117, 118, 121, 124, 127, 128, 131, 132, 133, 136, 137, 140, 143, 146, 147, 149, 151, 154, 155, 157, 159, 162, 163, 164, 167, 168, 170, 172, 175],
  [0, 1, 4, 7, 8, 9, 11, 14, 17, 18, 19, 22, 23, 24, 27, 30, 31, 32, 33, 34, 37, 40, 41, 42, 43, 44, 47, 48, 51, 52, 53, 56],
  [0, 1, 4, 7, 8, 11, 14, 15, 16, 19, 20, 21, 23, 26, 29, 30, 31, 34, 35, 36, 38, 39, 41, 43, 44, 47, 48, 51, 54, 56, 57, 58, 61, 62, 65, 68, 70, 71, 72, 73, 76, 78, 81, 84, 87, 90, 91, 93, 96],
  [0, 1, 4, 7, 8, 11, 14, 15, 16, 19, 20, 21, 24, 27, 28, 29, 30, 33, 34, 36, 39, 40, 41, 44, 47, 48, 49, 51, 54, 55, 57, 60, 61, 62, 65, 68, 69, 70, 71, 72, 75, 78, 79, 80, 81, 82, 85, 88, 89, 90, 91, 92, 95, 96, 99, 100, 101, 104, 105, 106, 109],
  [0, 1, 4, 7, 8, 9, 12, 13, 14, 17, 18, 21, 24, 25, 27, 30, 31, 32, 35, 38, 39, 40, 41, 42, 43, 46, 47, 48, 51, 52, 54, 57, 58, 59, 62, 65, 66, 67, 69, 70, 73, 76, 78, 79, 80, 81, 84, 87, 88, 89, 90, 91, 94, 97, 98, 99, 100, 101, 103, 106],
  [0, 1, 4, 5, 8, 11, 12, 13, 14, 40, 41, 44, 47, 48, 49, 50, 51, 54, 57, 58, 59, 60, 61, 64, 65, 68, 69, 70],
  [0, 1, 2, 3, 6, 9, 10, 11, 14, 15, 16, 19, 22, 23, 24, 27, 28, 29, 32, 35, 36, 37, 38, 39, 42, 45, 46, 47, 48, 49, 50, 53],
  [0, 1, 4, 7, 9, 10, 13, 16, 17, 18, 19, 22, 23, 26, 27, 30, 31, 34, 35, 38, 39, 42, 43, 46, 48, 51, 52, 55, 57, 60, 61, 64, 67],
  [0, 1, 4, 5, 6, 9, 12, 15, 16, 17, 18, 21, 22, 25, 26],
  [0, 1, 4, 7, 8, 9, 12, 13, 15, 18, 19, 20, 21, 22, 23, 24, 25, 28, 29, 31, 34, 35, 38, 41, 42, 43, 44, 46, 49, 52, 53, 56, 59, 60, 61, 64, 67, 68, 69, 70, 71, 74, 75, 78, 81, 84, 87, 88, 89, 90, 91, 94, 95, 98, 99, 102, 103, 104, 107],
  [0, 1, 4],
  [0, 1, 4, 7, 8, 9, 12, 13, 16, 17, 20, 23, 24, 25, 27, 30, 31, 33, 36, 37, 38, 39, 42, 43, 46, 49, 50, 53, 56, 57, 60, 61, 64, 65, 67, 70, 71, 72, 75, 78, 79, 80, 83, 86, 87, 88, 91, 92, 95, 96, 97, 100, 101, 102, 105],
  [0, 1, 4],
  [0, 1, 2, 5, 6, 7, 8, 11, 14, 15, 16, 19, 22, 23, 25, 28, 29, 30, 33, 36, 37, 38, 39, 42, 43, 46, 47, 50, 51, 54, 57, 58, 59, 62],
  [0, 1, 4, 7, 8, 9, 11, 14, 17, 18, 21, 24, 26, 27, 28, 31, 32, 35, 36, 39, 40, 41, 44],
  [0, 1, 4, 7, 9, 10, 11, 14, 17, 18, 21, 22, 25, 26, 72, 73, 76, 79, 80, 81, 84, 87, 88, 89, 92, 95, 96, 97, 100, 103, 104, 105, 108, 111, 112, 113, 116, 119, 120, 123, 126, 127, 128, 129, 132, 135, 136, 137, 140, 143, 144, 146],
  [0, 1, 4, 7, 8, 11, 14, 16, 17, 18, 21, 24, 25, 28, 29, 32, 33, 36, 37, 40, 43, 44, 47, 50, 51, 52, 55, 57],
  [0, 1, 4, 5, 8, 11, 12, 13, 14, 17, 20, 21, 24, 27, 28, 31, 32, 35],
  [0, 1, 4, 5, 8, 11, 12, 13, 14, 17, 20, 21, 24, 27, 28, 31, 32, 35],
  [0, 1, 4, 5, 8, 11, 13, 14, 15, 18, 21, 22, 25, 28, 29, 32, 33, 34, 37, 39, 41, 43, 46, 48, 49, 50, 53, 54, 56, 59, 61, 62, 96, 98, 99, 101, 102, 103, 106, 108, 110, 113, 114, 115, 118, 120, 122, 125, 126, 127, 130, 132, 134, 137, 138, 140],
  [0, 1, 4, 5, 8, 11, 12, 13, 14, 17, 20, 21, 24, 27, 28, 31, 32, 33, 36, 37, 40, 43],
  [0, 1, 4, 7, 8, 11, 14, 15, 18, 19, 22, 25, 26, 27, 30, 33, 34, 35, 37, 40, 42, 43, 44, 72, 73, 74, 75, 78, 81, 82, 83, 86, 87, 90, 91, 94, 97, 98, 100],
  [0, 1, 4, 7, 8, 11, 14, 15, 18, 21],
  [0, 1, 4, 5, 8, 11, 13, 14, 15, 18, 21, 22, 25, 28, 29, 32, 33, 34, 37],
  [0, 1, 4, 5, 8, 11, 13, 14, 15, 18, 21, 22, 25, 28, 29, 32, 33, 34, 37, 38, 39, 41, 44, 46, 47, 48, 51, 52, 55, 56, 59, 62, 63, 66, 67, 68, 71, 73, 75, 77, 80, 82, 85, 86, 88, 89],
  [0, 1, 4, 7, 9, 10, 11, 14, 17, 19, 20, 22, 23, 24, 26, 29, 30, 33, 34, 37, 38, 41, 42, 45, 48, 49, 52, 55, 56, 57, 59, 60, 63, 66, 67, 68, 69, 72, 73, 75, 78, 79, 82, 85, 86, 87, 88, 91, 92, 95, 98, 99, 100, 101, 104, 107, 108],
  [0, 1, 4, 7, 8, 11, 14, 15, 16, 19, 20, 21, 22, 25, 28, 29, 32, 33, 34, 37, 38, 39, 42, 45],
  [0, 1, 4, 5, 8, 11, 12, 13, 14, 17, 20, 21, 22, 23, 24, 25, 27, 30, 31, 34, 35, 38, 39, 42, 45, 46, 49, 50, 53, 56, 57, 58, 59, 60, 61, 62, 65, 68, 69],
  [0, 1, 4, 7, 8, 9, 10, 13, 16, 17, 18, 19, 22, 25, 26, 29, 32, 33, 36, 39, 42, 44, 47, 48, 49, 50, 52, 54, 55, 58, 59, 62, 64, 67, 68, 71, 72, 73, 74, 77, 80, 83, 84, 86, 87, 90, 93, 96, 97, 100, 103, 105, 107, 108, 111, 112, 115, 117, 120, 121, 124, 126, 129],
  [0, 1, 4, 7, 9, 10, 11, 14, 17, 18, 21, 22, 25],
  [0, 1, 4, 7, 8, 9, 10, 13, 16, 17, 18, 19, 20, 21, 23, 25, 27, 30, 31, 34, 36, 39, 40, 43, 44, 47, 49, 51, 53, 56, 57, 58, 61, 63, 66, 67, 70, 72, 73, 75, 78, 79, 82, 85, 86],
  [0, 1, 4, 5, 8, 11, 12, 13, 14, 17, 20, 21, 22, 23, 26, 29, 30, 31, 32, 34, 36, 38, 41, 42, 45, 47, 50, 51, 54, 57, 58, 61, 62, 65, 66, 69, 72, 73, 74, 77, 78, 81, 82, 83, 86, 87, 90, 93, 96, 97, 98, 101, 102, 105, 106, 109, 110, 113, 114, 117, 118, 120, 122, 125, 128, 131, 134, 135],
  [0, 1, 4, 7, 8, 9, 11, 14, 17, 18, 19, 20, 23, 26, 27, 30, 33, 34, 37, 38, 41, 42, 45, 46, 49],
  [0, 1, 4, 7, 8, 9, 11, 14, 17, 18, 19, 22, 23, 24, 27, 28, 31, 34, 35, 37, 40, 41, 42, 45, 48, 50, 52, 54, 57, 58, 60, 63, 64, 65, 68, 71, 73, 74, 75, 76, 79, 82, 84, 85, 86, 87, 90, 93, 95, 96, 97, 98, 101, 102, 105, 106, 107, 110, 111, 112, 115, 118, 121],
  [0, 1, 2, 3, 6, 9, 10, 11, 14, 17, 18, 20, 23, 24, 25, 28, 29, 32, 33, 34, 37, 40, 43],
  [0, 1, 4, 7, 8, 9, 10, 11, 14],
  [0, 1, 2, 3, 4, 5, 7, 10, 11, 12, 15, 18, 19, 20, 21, 22, 23, 24, 27, 30, 31],
  [0, 1, 2, 3, 4, 7, 8, 9, 10, 11, 13, 16, 17, 18, 21, 23, 25, 26, 29, 30, 31, 33, 34, 37, 40, 41],
  [0, 1, 2, 5, 8, 11, 12, 15, 18, 19, 20, 22, 25, 28, 30, 31, 33, 36, 39, 40, 41, 44, 45, 46, 49, 52, 53, 56, 57, 60, 61, 64, 67, 69, 70, 73, 76, 78, 79, 82, 83, 86, 87, 90, 91, 94, 95, 97, 98, 100, 102, 104, 107, 108, 111, 112, 115, 116, 119, 121, 122, 125, 128, 129, 130, 133, 135, 136, 139, 142, 143, 144, 147, 150, 152, 155, 156, 159, 162, 164, 167, 170, 173, 176, 177, 179, 182, 183, 185, 188],
  [0, 1, 2, 3, 6, 7, 8, 11, 14, 15, 16, 17, 44, 45, 48, 49, 50, 51, 52, 55, 56, 57, 58, 59],
  [0, 1, 2, 3, 6, 9, 10, 11, 14, 15, 16, 19, 20, 21, 22, 25, 28, 29, 32, 33, 34, 35, 36, 37, 40],
  [0, 1, 2, 3, 6, 9, 10, 11, 14, 15, 16, 19, 20, 21, 24, 25, 27, 30, 31, 32, 35, 36, 39, 40, 41, 44, 45, 48, 51, 52, 53, 56],
  [0, 1, 76, 77, 80, 83, 84, 85, 88, 91, 92, 93, 96, 99, 100, 101, 104, 107, 108, 109, 112, 115, 116, 117, 120, 121, 122, 123, 124, 127, 128, 129, 130, 131, 134, 135, 136, 137, 138, 141, 142, 143, 144, 145, 148, 150, 151, 152, 153, 156, 159, 160, 161, 164, 167, 168, 169, 170, 171, 174, 177, 178, 179, 180, 181, 184, 187, 188, 189, 190, 191, 194, 197, 198, 199, 200, 201],
  [0, 1, 4],
  [0, 1, 4, 7, 8, 11, 12, 15, 16, 17, 18, 19, 20, 21, 24, 27, 30, 31, 34, 35, 38, 41, 42, 43, 46, 47, 50, 53, 54, 57, 60, 61, 62, 65, 66, 69, 72, 75, 76, 78, 80, 81, 84, 87, 88, 89, 92, 95, 98, 101, 102],
  [0, 1, 2, 5, 6, 7, 8, 9, 12, 13, 14, 15, 18, 21, 22, 25, 26, 27, 28, 29, 30, 31, 32, 33],
  [0, 1, 2, 5, 6, 9, 12, 13],
  [0, 1, 2, 5, 6, 7, 10, 11, 14, 15],
  [0, 1, 2, 4, 7],
  [0, 1, 2, 4, 7],
  [0, 1, 2, 4, 7],
  [0, 1, 4, 7, 10],
  [0, 1, 2, 5, 6, 7, 10, 11, 14, 15],
  [0, 1, 2, 5, 6, 9, 10, 11, 12, 13, 14, 15, 16, 17],
  [0, 1, 2, 5, 6, 7, 10, 11, 12, 15, 16],
  [0, 1, 2, 5, 6, 9, 10, 11, 14, 15, 18, 19],
  [0, 1, 4, 5, 6, 9, 10],
  [0, 1, 4, 5, 7, 9, 12, 13, 16, 18, 21, 22, 25, 27, 30, 31, 32, 34, 37, 38, 40, 42, 43, 44, 46, 47, 48, 49, 51, 52, 53, 54, 56, 57, 58, 59, 61, 62, 63, 64, 66, 67, 68, 69, 71, 72, 73, 75, 77, 78, 79, 81, 83, 84, 85, 87, 89, 90, 91, 93, 95, 96, 97, 99, 101, 102, 103, 105, 107, 108, 109, 111, 113, 114, 115, 117, 119, 120, 121, 123, 125, 126, 127, 129, 131, 132, 133, 135, 137, 138, 139, 141, 143, 144, 145, 147, 149, 150, 151, 153, 155, 156, 157, 159, 161, 162, 163, 165, 167, 168, 169, 171, 173, 174, 175, 177, 179, 180, 181, 183, 185, 186, 187, 189, 191, 192, 193, 195, 197, 198, 199, 201, 203, 204, 205, 207, 209, 210, 211, 213, 215, 216, 217, 219, 221, 222, 223, 225, 227, 228, 229, 231, 233, 234, 235, 237, 239, 240, 241, 243, 245, 246, 247, 249, 251, 252, 253, 255, 257, 258, 259, 261, 263, 264, 265, 267, 269, 270, 271, 273, 275, 276, 277, 279, 281, 282, 283, 285, 287, 288, 289, 291, 293, 294, 295, 297, 299, 300, 301, 303, 305, 306, 307, 309, 311, 312, 313, 315, 317, 318, 319, 321, 323, 324, 325, 327, 329, 330, 331, 333, 335, 336, 337, 339, 341, 342, 343, 345, 347, 348, 349, 351, 353, 354, 357, 358, 361, 363, 366, 367, 368, 370, 373, 374, 375, 378, 379, 382, 384, 387, 388, 391, 393, 396, 397, 400, 402, 405, 406, 408, 410, 413, 414, 416, 418, 421, 422, 424, 426, 429, 430, 432, 434, 437, 438, 441, 443, 446, 447, 450, 452, 455, 456, 458, 460, 463, 464, 466, 468, 471, 472, 474, 476, 479, 480, 482, 484, 487, 488, 490, 492, 495, 496, 498, 500, 503, 504, 507, 510, 512, 513, 514, 517, 520, 521, 522, 523, 526, 529, 531, 532, 533, 536, 539, 540, 541],
  [0, 1, 2, 3, 6, 9, 10, 11, 14, 15, 16, 17, 18, 21, 24, 25, 28, 31, 32, 33, 34, 35, 36, 39, 40, 41, 42, 45, 48, 49, 52, 53, 54, 55, 56, 57, 60],
  [0, 1, 2, 3, 6, 9, 10, 11, 14, 15, 16, 19, 20, 21, 24, 25, 27, 30, 31, 32, 33, 34, 37, 40, 41, 44, 45, 46, 49, 52, 53, 54, 55, 56, 57, 58, 61, 64, 65, 66, 69],
  [0, 1, 2, 4, 7],
  [0, 1, 2, 4, 7],
  [0, 1, 2, 4, 7],
  [0, 1, 4, 7, 10],
  [0, 1, 2, 3, 6, 9, 10, 11, 12, 15],
  [0, 1, 4, 5, 6, 7, 8],
  [0, 1, 2, 3, 4, 7, 10, 11, 14, 15, 18, 21, 22, 23, 24, 25, 28, 29, 30, 33, 36, 37],
  [0, 1, 4, 7, 8, 11, 14, 15, 16, 19, 20, 21, 22, 25, 26, 27, 30, 31, 32, 33, 34, 35, 36, 37, 40],
  [0, 1, 4, 7, 8, 9, 11, 14, 17, 18, 19, 21, 24, 27, 28, 29, 32, 33, 34, 36, 37, 39, 41, 42, 45, 47, 48, 51, 53, 55, 56, 57, 58, 61, 62, 65, 66, 67, 69, 70, 73, 75, 77, 78, 79, 80, 83, 86, 87, 89, 92],
  [0, 1, 4, 7, 8, 9, 11, 14, 17, 18, 19, 22, 23, 24, 25, 28, 29, 32, 33, 35, 38, 39, 40, 43, 46, 47, 49, 52, 53, 55, 58, 59, 60, 63, 66, 67, 68, 69, 72, 75, 76, 77, 78, 79, 80, 83, 86, 87, 88, 89, 90, 91, 94, 97, 98, 99, 100, 101, 102, 103, 104, 107],
  [0, 1, 4, 7, 8, 9, 12, 13, 14, 15, 18, 21, 22, 24, 27, 28, 29, 30, 33, 34, 37, 38, 39, 42, 43, 46, 47, 49, 52, 53, 54, 57, 60, 61, 62, 63, 64, 65, 68, 71, 72, 73, 74, 75, 76, 77, 80],
  [0, 1, 3, 4, 5, 8, 9, 12, 13, 16, 18, 19, 20, 23, 24],
  [0, 1, 2, 5, 8, 9, 10, 11, 14, 17, 18, 19, 20, 23, 24, 27, 30, 31, 32, 33, 36, 37, 38, 41, 42, 45, 48, 49, 50, 51, 54, 55, 56, 59, 62, 63, 64, 65, 66, 69, 72, 73, 74, 75, 78],
  [0, 1, 2, 3, 6, 9, 10, 11, 12, 15, 17, 20, 21, 22, 25, 27, 30, 31, 32, 35, 37, 40, 42, 45, 48, 49, 50, 53, 54, 55, 58, 61, 62, 63, 64, 65, 66, 69, 72, 73, 74, 75, 76, 77, 78, 81],
  [0, 1, 4, 5, 6, 7, 10, 11, 14, 15, 17, 20, 21, 22, 23, 24, 25, 26, 27, 30, 31, 33, 36, 37, 40, 41, 42, 45, 48, 51, 52, 55, 56, 57, 58, 59, 62, 63, 64, 65, 68, 71, 74, 75, 76, 77, 78, 81, 82, 83, 86],
  [0, 1, 4],
  [0, 1, 4, 6, 7, 10, 13, 14, 15, 16, 19, 20, 21, 22, 23, 26, 27, 28, 29, 30, 33, 34, 35, 36, 37, 40, 41, 43, 44, 45, 48, 49, 51, 52, 53, 55, 57, 59, 62, 63, 66, 67, 70, 72, 73, 74, 77, 79, 80, 81, 82, 84, 86, 88, 89, 90, 91, 92, 93, 94, 95, 98, 101, 102, 103, 106, 108, 109, 112, 113, 116],
  [0, 1, 2, 3, 6, 9, 12, 13, 14, 15, 16, 19, 20],
  [0, 1, 3, 6, 7, 9, 12, 13, 16, 17],
  [0, 1, 3, 6, 7, 9, 12, 13, 16, 17],
  [0, 1, 2, 3, 5, 7, 8, 11, 12, 15, 16, 18, 19, 22, 24, 26, 27, 28, 30, 33, 36, 39, 41, 42, 43, 44, 47, 48, 51, 52, 54, 55, 57, 59, 61, 64, 66, 69, 70, 73, 75, 77, 78, 79, 80, 83, 84, 86, 87, 88, 91, 92, 95, 96, 98, 101, 104, 106, 109, 110, 111, 113, 115, 116, 117, 118, 120, 123, 126, 127],
  [0, 1, 2, 5, 6, 7, 8, 9, 12, 13, 16, 17, 18, 19, 20, 22, 25, 28, 31, 32, 33, 34, 36, 37, 40, 43, 45, 46, 49, 50, 53, 55, 56, 59, 62, 65, 68, 69, 72, 75, 77, 78, 81, 82, 85, 87, 88, 91, 94, 97, 100, 101, 104, 105, 108, 109, 110, 111, 114, 115, 118, 119, 120, 121, 124, 125, 128, 129, 132, 135, 136, 137, 139, 142, 145, 146, 149, 152, 154, 157, 159, 160, 163, 164, 165, 166, 167, 169, 171, 173, 176, 177, 180, 183, 184, 187, 188, 191, 192, 195, 196, 199, 200, 202, 205, 206, 209, 210, 213, 214, 217, 219, 220, 223, 224, 227, 228, 229, 230, 233, 235, 236, 237, 239, 240, 241, 244, 247, 248, 249, 252, 253, 254, 257, 259, 260, 263, 264, 267, 268, 271, 272, 273, 274, 277, 278, 281, 282, 283, 284, 287, 288, 291, 292, 293],
  [0, 1, 4, 5, 8, 9, 12, 13],
  [0, 1, 4, 7, 8, 9, 12, 13, 16, 17, 20],
  [0, 1, 4, 7, 8, 11, 12, 15, 16, 17, 20, 21, 24, 25, 26, 27, 30, 31, 32, 35, 36, 37, 40, 41],
  [0, 1, 2, 5, 8, 9, 12],
  [0, 1, 4, 6, 9, 10, 13, 14, 15, 18, 19, 20, 23, 24, 27, 30, 31, 32, 35, 36, 37, 40],
  [0, 2, 3, 4],
  [0, 1, 2, 5, 6, 7, 10, 11, 12, 15, 18, 19, 20, 23],
  [0, 1, 2, 5, 6, 7, 10, 13, 14, 15, 18, 21],
  [0, 1, 2, 5, 6, 7, 10, 13, 14, 15, 18, 21],
  [0, 1, 2, 3, 6, 7, 8, 11, 12, 15, 16, 19, 22, 23, 24, 27, 28, 31, 32, 33, 34, 36, 39, 42, 43, 45, 48, 49, 52, 53, 56, 59, 60, 61, 62, 65, 66, 67, 70, 71, 72, 73, 74, 77, 78, 80, 83, 86, 89, 90, 91, 94, 95, 97, 100, 103, 106, 107, 109, 112, 115, 118, 119, 121, 124, 127, 128, 129, 132],
  [0, 1, 2, 5, 6, 8, 11, 14, 17, 18, 20, 23, 26, 29, 30, 31, 34, 37],
  [0, 1, 2, 5, 6, 8, 11, 14, 17, 18, 20, 23, 26, 29, 30, 31, 34, 37],
  [0, 1, 4, 7, 8, 9, 12, 13, 16, 17, 18, 19, 21, 24, 27, 28, 30, 33, 34, 37, 38, 41, 44, 45, 46, 47, 50, 51, 52, 55, 56, 57, 58, 59, 62, 63, 65, 68, 71, 74, 75, 77, 80, 81, 84, 85, 88, 89, 92, 95, 96, 98, 101, 102, 104, 107, 108, 111, 114, 115, 118],
  [0, 1, 2, 5, 8, 9, 10, 13, 14, 15, 18, 19, 20, 23, 24, 25, 28, 29, 32, 33, 34, 35, 37, 40, 43, 46, 47, 49, 52, 53, 56, 57, 60, 63, 64, 67, 70, 73, 74, 77, 80, 81, 84, 85, 88, 91, 92, 95, 96, 97, 100, 103, 104, 107],
  [0, 1, 4, 7, 8, 10, 13, 14, 15, 18, 19, 21, 24, 25, 26, 29, 32, 33, 35, 38, 39, 40, 43, 46, 47, 48, 49, 52, 55, 56, 57, 58, 61, 62, 63, 64, 65, 66, 69, 72, 73, 76, 79, 82, 83, 84, 85, 86, 87, 88, 91, 92, 93, 94, 95, 98, 101, 104, 105, 106, 107, 108, 109, 110, 113, 114, 115, 116, 119, 122, 123, 126, 129, 130, 131, 132, 133, 134, 135, 136, 139],
  [0, 1, 4],
  [0, 1, 2, 3, 6, 9, 10, 11, 12, 15, 18, 19, 21, 24, 25, 26, 29, 32, 33, 34, 35, 38, 41, 42, 43, 44, 45, 48],
  [0, 1, 2, 5, 8, 9, 12, 15, 16, 17, 18, 21, 22],
  [0, 1, 2, 5, 8, 9, 12, 13, 16, 17, 18, 19, 22, 23, 24, 27, 28, 29, 32, 33],
  [0, 1, 4, 5, 8, 9, 12, 13, 16, 17, 20, 21, 22, 25, 26, 29, 32, 33, 36, 37],
  [0, 1, 2, 5, 6, 7, 8, 11, 14, 16, 19, 22, 23, 24, 27, 30, 32, 35, 38, 39, 40, 43, 46, 48, 51, 54, 55, 58, 59, 61, 62, 63, 66, 67, 68, 71, 72, 73, 76, 78, 79, 81, 84, 85, 87, 88, 91, 92, 94, 95, 96, 99, 100, 103, 104],
  [0, 1, 2, 5, 6, 7, 8, 11, 14, 16, 19, 22, 23, 24, 27, 30, 32, 35, 38, 39, 40, 43, 46, 48, 51, 54, 55, 58, 59, 61, 62, 63, 66, 67, 68, 71, 72, 73, 76, 78, 80, 83, 85, 86, 87, 90, 91, 92, 95, 98, 99, 102, 103, 106, 107, 110, 111, 113, 114, 116, 119, 120, 122, 123, 126, 127, 129, 130, 131, 134, 135, 138, 139],
  [0, 1, 3, 6, 9, 12, 13, 14, 17, 18, 19, 20, 23, 24, 25, 28, 29, 30, 31, 32, 35, 38, 39, 40, 41, 44, 45, 46, 49, 50, 53, 54, 57, 60, 61, 62, 63, 65, 68, 69, 72, 75, 76, 79, 80, 81, 82, 83, 84, 87, 88, 91, 92, 94, 95, 96, 97],
  [0, 1, 2, 5, 6, 7, 8, 11, 14, 15, 16, 19, 20, 23, 24, 27, 28, 31, 32, 33, 36, 37, 40, 41, 44, 45, 46, 49, 50],
  [0, 1, 2, 5, 6, 7, 8, 11, 14, 15, 16, 19, 20, 23, 24, 27, 28, 31, 32, 33, 36, 37, 40, 41, 44, 45, 46, 49, 50],
  [0, 1, 2, 3, 4, 7, 10, 11, 14, 15, 18, 19, 20, 23, 24, 25, 28, 29, 32, 33, 36, 37],
  [0, 1, 3, 6, 9, 12, 13, 14, 17, 18, 19, 20, 23, 24, 25, 28, 29, 30, 31, 32, 35, 36, 37, 38, 41, 44, 46, 47, 48, 51, 52, 53, 56, 57, 58, 61, 63, 64, 67, 68, 71, 74, 76, 78, 81, 84, 85, 87, 88, 91, 94, 96, 98, 101, 104, 105, 107, 108, 111, 114, 115, 117, 118, 121, 122, 125, 126],
  [0, 2, 4, 5, 8, 11, 12, 13, 16, 18, 19, 20, 23, 24, 25, 26, 27, 30, 31, 32, 33, 34, 37, 38, 39, 40, 43, 44, 45, 46, 47, 50, 51, 52, 55, 57, 58, 59, 60, 61, 62, 65, 66, 67, 68, 71, 72, 73, 76, 77, 78, 79, 80, 83, 84, 87, 90, 91, 92, 95, 96, 97, 100, 101, 104, 107, 108, 111, 114, 115, 116, 117, 118, 121, 122, 125, 126, 129, 132, 133, 134, 137, 138, 139, 142, 143, 144, 147, 148, 149, 152, 154, 155, 158, 160, 161, 162, 165, 166, 167, 170, 173, 174, 175, 178, 181, 182, 185, 186, 188, 190, 193, 194, 197, 200, 202, 205, 207, 210, 211, 214, 216, 219, 221, 224, 225, 228, 230, 233, 235, 236, 238, 239, 240, 243, 244, 245, 248, 251, 253],
  [0, 1, 4, 7, 8, 9, 10, 12, 15, 16, 19, 20, 21, 22, 25, 28, 29, 30, 33, 34, 37, 38, 39, 40, 43, 46, 47, 48, 51, 52, 53, 56, 57, 58, 59, 60, 62, 65, 66, 67, 68, 70, 73, 74, 77, 79, 80, 81, 82, 83, 85, 86, 87, 88, 89, 90, 91, 92, 95, 96, 99, 102, 105, 108],
  [0, 1, 4, 7, 8, 11, 14, 15, 18, 21, 22, 23, 24, 25, 28, 31, 34],
  [0, 2, 3, 4, 5, 6, 8, 9, 11, 12, 15, 17, 18, 19, 20, 21, 23, 26, 27, 28, 29, 32, 34, 35, 36, 37, 38, 40, 43, 44, 45, 46],
  [0, 1, 4, 5, 8, 9, 10, 13, 14, 17, 18, 19, 22, 23, 26, 27, 28],
  [0, 1, 4, 5, 8, 9, 12, 13, 16, 17],
  [0, 1, 2, 5, 6, 7, 10, 11, 12, 15, 16, 18, 21],
  [0, 1, 2, 5, 6, 9, 12, 13, 15, 17, 19, 20, 22, 23, 25, 26, 29, 31, 33, 34, 35, 37, 40, 41, 42, 45, 46, 47, 50, 51, 54, 56, 57, 58, 60, 61, 62, 65, 67, 69, 72, 73, 76, 77, 79, 81, 84, 87, 89, 90, 93, 94, 96, 98, 101, 103, 104, 105, 107, 108, 109, 110, 113, 115, 116, 117, 119, 120, 123, 125, 127, 128, 129, 131, 132, 135, 138, 140, 143, 144, 147, 150, 152, 155, 156, 158, 161, 164, 165, 167, 168, 170, 172, 174, 175, 177, 180, 181, 184, 185, 186, 188, 189, 190, 193, 196, 198, 201, 204, 205, 206, 208, 209, 210, 213, 216, 218, 219, 222, 224, 226, 227, 229, 232, 233, 236, 239, 241, 242, 243, 244, 245, 248, 249, 250, 252, 254, 256, 258, 259, 261, 264, 265, 266, 268, 269, 272, 275, 277, 279, 282, 283, 284, 286, 287, 288, 291, 294, 295, 296, 299, 300, 301, 303, 305, 307, 308, 309, 312, 313, 314, 317, 320, 323, 326, 327, 330, 333, 335, 336, 337, 340, 342, 345, 347, 350, 352, 354, 357, 358, 361, 362, 363, 366, 368, 371, 373, 376, 378, 380, 381, 383, 386],
  [0, 1, 2, 3, 6, 9, 10, 11, 14, 17, 18, 19, 22, 25, 26, 27, 28, 31],
  [0, 1, 4, 7, 8, 9, 11, 14, 17, 20, 21, 22, 23, 26, 27, 68, 69, 72, 73, 74, 77, 78, 79, 82, 83, 84, 87, 88, 89, 92, 93, 96, 97, 98, 99, 102, 103, 104, 107, 108, 109, 112],
  [0, 1, 4, 7, 8, 11, 14, 17, 18, 19, 20, 23, 24, 25, 28, 31, 32, 33, 36, 39, 42, 43, 46, 47, 48, 51, 54],
  [0, 1, 3, 5, 8, 11, 12, 14, 16, 17, 18, 19, 20, 21, 22, 25, 26, 29, 31, 32, 35, 36, 37, 40, 42, 43, 46, 47, 50, 53],
  [0, 1, 2, 5, 8, 9, 10, 13, 16, 17, 18, 21, 24, 25, 28],
  [0, 1, 2, 3, 4, 5, 8, 11, 12, 13, 16, 17, 18, 19, 22, 23, 26, 27, 28, 29, 32, 35, 36],
  [0, 1, 2, 3, 4, 5, 8, 11, 12, 13, 16, 17, 18, 19, 22, 23, 26, 27, 30, 31, 32, 33, 34, 35, 38, 39, 42, 43, 44, 45, 48, 51, 52],
  [0, 1, 2, 3, 4, 5, 6, 7, 10, 13, 14, 15, 16, 17, 20, 23, 24, 25, 26, 29, 32, 33, 34, 35, 36, 37, 38, 41, 44, 45, 46, 47, 50, 53, 54, 57, 58, 59, 60, 63, 64, 65, 66, 69, 70, 71, 72, 73, 74, 75, 76, 79, 82, 83],
  [0, 1, 2, 5, 8, 9, 10, 11, 14, 15, 16, 19],
  [0, 1, 2, 5, 8, 9, 10, 11, 14, 15, 16, 19],
  [0, 1, 2, 5, 8, 9, 10, 11, 14, 17, 18, 21, 24, 25, 26, 29, 30, 32, 33, 35, 37, 40, 43, 44, 47, 49, 50, 51, 54, 56, 59, 60, 63, 65, 66, 67, 68, 69, 72, 74, 77, 79, 80, 83, 85, 86, 87, 90, 92, 95, 96, 99, 101, 102, 103, 104, 105, 108, 109, 112, 113, 114, 116, 119, 122, 124, 127, 130, 133, 134, 136, 138, 140, 142, 143, 145, 147, 150, 153, 154, 157, 159, 160, 161, 164, 165, 168, 170, 171, 173, 176, 177, 180, 182, 183, 186, 188, 190, 191, 194, 196, 197, 199, 202, 203, 206, 208, 209, 212, 214, 216, 219, 222, 225, 226, 227, 230, 231, 234, 236, 237, 238, 241, 243, 244, 247, 248, 251, 252, 255, 257, 258, 259, 262, 264, 265, 268, 269, 272, 273, 274, 275, 278, 280, 282, 283, 286, 287, 288, 291, 293, 295, 296, 299, 300, 301, 304, 306, 309, 311],
  [0, 1, 2, 5, 8, 9, 10, 11, 14, 15, 16, 19],
  [0, 1, 2, 3, 6, 9, 12, 13, 14, 15, 18, 19, 22, 24, 26, 28, 30, 33, 34, 36, 39, 40, 43, 44, 47, 50, 53, 55, 56, 58, 61, 64, 66, 69, 71, 73, 76, 79, 80, 83, 84, 85, 86, 89, 90, 91, 94, 95, 96, 99, 100, 103, 105, 106, 107, 108, 111, 112, 115, 118, 119, 121, 123, 125, 127, 128, 131, 134, 135, 138, 140, 141, 142, 145, 147, 148, 151, 153, 155, 158, 161, 163],
  [0, 2, 3, 4, 6, 9, 10, 11, 14, 15, 18, 21, 22, 23, 26, 29, 32],
  [0, 2, 4, 6, 8, 11, 12, 14, 15, 18, 21, 22, 23, 24, 27, 30, 31, 32, 33, 36, 37, 40, 41, 44, 45, 48, 49, 52, 54, 55, 58, 61, 64],
  [0, 1, 2, 5, 8, 9, 12, 15, 16, 17, 18, 19, 22, 25, 26, 29, 32, 35],
  [0, 1, 2, 3, 6, 7, 8, 11, 14, 17, 20, 21, 22, 23, 24, 27, 29, 31, 34, 37, 40, 43, 44, 46, 47],
  [0, 1, 4, 7, 10, 11, 14, 15, 17, 18, 19, 21, 24, 25, 26, 29, 30, 31, 34, 37, 38, 39, 42, 45, 48, 49, 52, 53, 54, 56, 57, 58, 61, 62, 65, 68, 69, 72, 75, 76, 79, 80, 81, 82, 85, 86, 89, 90, 91, 94, 95, 96, 99, 102, 103],
  [0, 1, 4, 7, 8, 11, 14, 15, 16, 19, 20, 21, 22, 23, 24, 27, 28, 31, 32, 35, 36, 39, 40, 41, 43, 45, 47, 50, 51, 54, 56, 57, 60, 62, 63, 64, 67, 70, 71, 72, 73, 76, 77, 80, 81, 84, 85, 88, 91, 92, 93, 94, 96, 98, 99, 102, 104, 105, 108, 111, 112, 115, 117, 118, 119, 122, 124, 125, 128, 130, 131, 134, 137, 138],
  [0, 1, 2, 5, 8, 9, 10, 11, 12, 13, 14, 15, 17, 20, 21, 22, 23, 26, 29, 30, 31, 34, 37, 38, 41, 42, 43, 44, 47, 50, 51, 52, 53, 56, 57, 58, 59, 62, 65, 66],
  [0, 1, 2, 5, 8, 9, 10, 13, 16, 19, 20, 23, 24, 25, 27, 28, 29, 32, 33, 36, 39, 42, 43, 46, 47, 48, 50, 51, 52, 55, 56, 57, 58, 61, 62, 65, 66],
  [0, 1, 2, 4, 7, 10, 11, 12, 13, 16, 19, 20, 21, 22, 23, 24, 26, 29, 30, 33, 34, 35, 36, 39, 42, 43, 44, 45, 47, 50, 52, 54, 56, 58, 61, 62, 64, 65, 66, 69, 72, 73, 74, 77, 80, 81, 82, 83, 86, 87, 90, 93, 94, 95, 96, 98, 100, 101, 104, 107, 108, 110, 111, 114, 117, 118, 121, 123, 124, 125, 126, 127, 128, 129, 130, 133, 136, 139, 142, 145, 148, 149, 150, 151, 154, 157, 158, 159, 160, 162, 164, 166, 169, 170, 172, 175, 176, 179, 180, 181, 184, 185, 188, 190, 191, 194, 195, 198, 199, 200, 203, 206, 208, 209, 212, 215, 216, 217, 220, 221, 224, 225, 228, 229, 232, 233, 234, 237],
  [0, 1, 2, 3, 4, 5, 7, 10, 11, 12, 13, 14, 15, 16, 17, 18, 21, 24, 25],
  [0, 1, 2, 5, 8, 9, 12, 15, 16, 17, 18, 19, 20, 23, 26, 27, 28, 31, 34, 35, 36, 37, 40, 41, 42, 45, 48, 51, 54, 55, 58, 59, 60, 61, 64, 65, 68, 71, 72, 73, 74],
  [0, 1, 4, 7, 8, 9, 10, 13, 16, 17, 20, 23, 26],
  [0, 1, 4, 7, 8, 9, 10, 11, 12, 13, 14, 16, 18, 20, 23, 24, 25, 27, 30, 32, 34, 37, 40, 41, 42, 45, 47, 50, 51, 54, 57, 59, 60, 62, 65, 66, 69, 72, 73],
  [0, 1, 2, 5, 8, 9, 10, 11, 14, 17, 18, 19, 20, 21, 22, 24, 26, 28, 31, 32, 33, 36, 39, 40, 41, 44, 47, 48, 50, 53, 54, 55, 58, 59, 60, 63, 66, 69, 70, 71, 74, 75, 76, 79, 82, 85, 86, 87, 90, 91, 94, 95, 98, 99, 100, 101, 104, 107, 108],
  [0, 1, 2, 4, 7, 10, 11, 12, 14, 17, 20, 21, 22, 23, 24, 25, 27, 30, 31, 34, 35, 36, 37, 38, 41, 42, 43, 44, 47, 50, 52, 53, 54, 56, 59, 60, 61, 62, 65, 68, 69, 70, 73, 76, 77, 78, 81, 84, 85, 86, 87, 90, 91, 94, 97, 98, 99, 100, 102, 104, 106, 109, 110, 112, 113, 116, 118, 119, 122, 124, 125, 126, 128, 131, 132, 135, 137, 138, 141, 142, 145, 146, 147, 148, 149, 152, 154, 156, 157, 160, 163, 166, 169, 170, 173, 176, 177, 178, 179, 180, 181, 183, 186, 187, 188, 191, 192, 195, 196, 199, 200, 201, 202, 205, 206, 207, 210, 213, 214],
  [0, 1, 4, 7, 8, 9, 11, 14, 17, 18, 19, 22, 23, 24, 25, 28, 31, 32, 34, 37, 38, 39, 42, 45, 46, 48, 51, 52, 54, 57, 58, 61, 62, 63, 66, 69, 70, 71, 72, 74, 75, 78, 80, 81, 82, 83, 86, 88, 89, 90, 91, 92, 93, 96, 98, 99, 100, 101, 102, 103, 106, 109, 110, 111, 112, 113, 114, 115, 116, 119, 122, 123, 126],
  [0, 1, 2, 3, 6, 9, 10, 11, 12, 15, 18, 19, 21, 24, 25, 26, 29, 32, 33, 34, 35, 36, 37, 38, 39, 40, 41, 42, 43, 44, 47, 50, 51, 52, 55, 56, 59, 62, 63, 64, 65, 68, 71, 72, 73, 74, 75, 76, 77, 80, 83, 84, 85, 88, 91, 92, 95],
  [0, 1, 2, 3, 4, 5, 6, 9, 12, 13, 16, 19, 20, 21, 22, 23, 25, 26, 27, 30, 32, 33, 34, 35, 38, 41, 42, 43, 46, 49, 50, 51, 52, 55, 56, 59, 60, 63, 65, 66, 67, 68, 71, 72, 75, 76, 78, 79, 80, 83, 85, 86, 87, 88, 89, 92, 94, 97, 98, 101, 102, 105, 107, 110, 111, 114, 115, 118, 120, 121, 122, 123, 126, 127, 130, 131, 132, 133, 136, 139, 140],
  [0, 1, 4, 7, 8, 9, 12, 15, 16],
  [0, 1, 2, 3, 4, 5, 7, 10, 11, 12, 13, 16, 19, 20, 21, 22, 25, 26, 27, 28, 31, 34, 35],
  [0, 1, 2, 4, 5, 6, 7, 8, 10, 13, 14, 15, 18, 20, 22, 23, 26, 29, 30, 31, 33, 34, 37, 40, 41],
  [0, 1, 2, 4, 7, 10, 11, 14, 17, 18, 19, 21, 24, 27, 29, 30, 32, 35, 38, 39, 40, 43, 44, 45, 46, 49, 50, 53, 55, 56, 59, 61, 62, 63, 66, 67, 69, 72, 73, 75, 76, 78, 80, 82, 85, 86, 87, 88, 91, 94, 95, 96, 99, 102, 103, 104, 107, 110, 111, 112, 113, 116, 117, 120, 122, 123, 126, 127, 128, 131, 133, 134, 137, 138, 140, 141, 144, 146, 149, 150, 153, 155, 158, 159, 162, 163, 164, 166, 169, 172, 173, 175, 178],
  [0, 1, 2, 3, 6, 7, 8, 11, 14, 15, 16, 17, 20, 23, 24, 27, 28, 31, 32, 35, 36, 37, 40, 41, 44, 45, 46],
  [0, 1, 2, 3, 4, 5, 7, 10, 11, 12, 13, 16, 19, 20, 23, 24, 25, 26, 29, 32, 33, 108, 109, 112, 115, 116, 117, 118, 121, 124, 125, 126, 127, 130, 133, 134, 135, 136, 137, 138, 141, 142, 143, 146, 147, 148, 149, 150, 151, 152, 155, 156, 157, 158, 159, 162, 164, 165, 166, 167, 170, 173, 174, 175, 176, 179, 182, 183, 184, 186, 187, 188, 189, 190],
  [0, 1, 4],
  [0, 1, 4, 5, 7, 10, 13, 14, 16, 18, 21, 22, 24, 26, 29, 30, 32, 34, 37, 38, 39, 42, 43, 46, 47, 50],
  [0, 1, 4, 5, 6, 7, 8, 9, 10],
  [0, 1, 2, 3, 5, 8, 9, 12, 13, 14, 15, 16, 17, 18, 21, 24],
  [0, 1, 4, 7, 8, 9, 12, 13, 15, 18, 19, 22, 25, 26, 27, 30, 31],
  [0, 1, 4, 5, 6, 9, 10, 13, 16, 17, 20, 21],
  [0, 1, 4, 7, 8, 11, 12, 13, 14, 17, 18, 19, 20, 21, 24, 27, 28, 29, 32, 33, 34, 37, 38, 39, 40, 41, 43, 45, 47, 50, 51, 54, 56, 57, 58, 61, 63, 64, 67, 68, 70, 71, 74, 76, 77, 80, 83, 86, 87],
  [0, 1, 2, 3, 4, 5, 6, 7, 10, 13, 14, 15, 16, 17, 18, 19, 21, 24, 27, 28, 30, 31, 34, 35, 37, 38, 39, 40, 42, 43, 45],
  [0, 1, 3, 4, 5, 6, 8, 9, 12, 14, 15, 17, 20, 21, 24, 26, 27, 28, 29, 30, 33, 36, 37, 40, 42, 44, 47, 49, 52, 54, 55, 58, 59, 62, 65, 66, 67, 70, 72, 73],
  [0, 1, 4, 5, 6, 7, 8, 11, 12, 13, 14, 17, 20, 21, 22, 23, 24, 25, 28, 29, 30, 31, 32, 35, 36, 37, 40, 43, 44, 45, 46, 47, 50, 51, 52, 55, 58, 59, 60, 61, 62, 65, 66, 67, 68],
  [0, 1, 4, 5, 8, 10, 13, 14, 17, 19, 22, 23, 26, 28, 31, 32, 33, 36],
  [0, 1, 2, 5],
  [0, 1, 4, 7, 8, 11, 12, 15, 18, 21, 22, 25, 26, 29, 32, 35, 36, 39, 40, 43, 46, 49, 50, 51, 52, 53, 56, 59, 60, 63, 64, 66, 67, 70, 71, 74, 75, 76, 79, 82, 83, 84, 87, 88, 89, 92, 95, 96, 97, 100, 101, 102, 105, 108, 109, 112, 115, 116, 117, 120, 121, 122, 125, 128, 131, 132, 133, 136, 139, 142, 143, 144, 147, 150, 153],
  [0, 1, 2, 3, 4, 5, 8, 11, 12, 15, 16, 17, 18, 21, 24, 27, 30, 31],
  [0, 1, 4, 5, 6, 7, 10, 11, 14, 15, 18, 19, 20, 21, 22, 23, 26, 27, 30, 31],
  [0, 1, 2, 3, 4, 5, 8, 11, 12, 13, 14, 17, 20, 23, 26, 29, 30],
  [0, 1, 2, 3, 5, 7, 10, 13, 14, 16, 17, 20, 23, 24, 25, 28, 30, 32, 33, 34, 37, 40, 43, 45],
  [0, 1, 3, 4, 5, 6, 7, 8, 11, 14, 15, 18, 19, 20, 21, 22, 23, 26, 29, 32, 33, 35, 36],
  [0, 1, 4, 5, 7, 8, 9, 10, 11, 14, 15, 17, 18, 19, 21, 23, 24, 27, 28, 29, 31, 32, 35, 36, 39, 40],
  [0, 1, 4, 5, 7, 8, 9, 10, 11, 13, 15, 16, 19, 20, 21, 24, 26, 28, 29, 30, 33, 34, 37, 40, 41],
  [0, 1, 4, 5, 7, 8, 9, 10, 11, 13, 15, 16, 19, 20, 21, 24, 26, 28, 29, 30, 33, 34, 37, 40, 41],
  [0, 1, 2, 3, 4, 5, 6, 7, 9, 11, 14, 17, 18, 21, 23, 24, 25, 28, 29, 30, 31, 34, 36, 37, 38, 39, 40, 41, 42, 45, 48, 49],
  [0, 1, 2, 3, 4, 5, 7, 10, 11, 14, 15, 16, 17, 20, 23, 26, 29, 30],
  [0, 2, 3, 4, 7, 8, 11, 12, 13, 14, 17, 18, 20, 21, 22, 25, 28, 30],
  [0, 1, 2, 3, 5, 8, 9, 12, 13, 14, 15, 18, 19, 21, 22, 23, 26, 29, 31],
  [0, 3, 4, 5, 8, 9, 12, 13, 14, 17, 18, 20, 21, 22, 25, 28, 30],
  [0, 1, 2, 3, 6, 9, 10, 13, 14, 15, 16, 19, 20, 23, 24, 25, 26, 29, 30, 32, 33, 34, 37, 40, 42],
  [0, 1, 4, 5, 8, 10, 13, 14, 17, 19, 22, 23, 25, 27, 30, 31, 32, 35],
  [0, 1, 3, 4, 5, 6, 7, 8, 9, 11, 12, 15, 16, 19, 20, 22, 23, 24, 27, 28, 30, 31, 34, 37, 38, 41, 42, 43, 44],
  [0, 1, 4, 5, 6, 9, 10, 11, 14, 15, 16, 19, 20, 22, 25],
  [0, 1, 4, 5, 6, 9, 10, 13, 14, 15, 16, 17, 20, 21, 24, 25, 28, 29, 32, 33, 34, 35, 36, 38, 39, 42, 43, 44, 45, 48, 49, 50, 53, 54, 55, 58, 59, 60, 61, 64, 65, 66, 67, 68, 71, 74, 75, 76, 77, 78, 81, 82, 85, 86, 88, 90, 93, 94, 96, 97, 100, 101, 102, 103, 104, 107, 110, 112, 114, 115, 116, 117, 120, 123, 124, 127, 130, 132],
  [0, 1, 3, 4, 6, 8, 9, 12, 14, 15, 18, 19, 22, 23, 26, 28, 29, 31, 32, 34, 35, 38, 40, 41, 42, 43, 45, 47, 48, 51, 53, 54, 55, 57, 58, 61, 63, 66, 68, 69, 72, 74, 75, 76, 79, 80, 81, 84, 86, 88, 90, 93, 95, 98, 99, 101, 102, 103, 106, 108, 109, 112, 114, 117, 118, 119, 121, 122, 125, 127, 129, 130, 132, 134, 135, 136, 137, 140, 142, 144, 145, 146, 149, 150, 153, 154, 156, 157, 160, 161, 164, 165, 168, 170, 172, 173, 174, 177, 179, 182, 185, 188, 190, 191, 194, 195, 196, 198, 200, 202, 203, 204, 205, 206, 208, 210, 211, 212, 215, 217, 219, 222, 223, 226, 228, 231, 232, 235, 236, 237, 240, 242, 244, 246, 247, 248, 251, 254, 256, 259, 260, 263, 264],
  [0, 1, 44, 45, 46, 47, 48, 49, 50, 51, 52, 53, 54, 55, 56, 57, 58, 59, 62, 65, 68, 69, 70, 71, 72, 73, 74, 75, 78, 79, 82, 83, 84, 85, 86, 87, 90, 91, 94, 95, 96, 97, 98, 99, 102, 103, 106, 107, 108, 111],
  [0, 1, 4, 5, 7, 9, 12, 13, 15, 17, 20, 21, 22, 25, 26, 27, 30, 31, 34, 35, 38, 39, 40, 41, 44, 47],
  [0, 1, 2, 5, 8, 9, 10, 13, 14, 15, 18, 21, 22, 23, 26, 27, 28, 31, 34, 35, 36, 39, 40, 41, 44, 47, 48, 49, 52, 53, 54, 57, 58, 59, 62],
  [0, 1, 2, 5, 6, 9, 12],
  [0, 1, 4, 7, 8, 11, 14, 15, 18, 21, 22, 23, 26, 29, 30, 31, 34, 36, 38, 39, 42, 43, 45, 46, 48, 49, 51, 52, 55, 57, 59, 60, 61, 63, 65, 68, 70, 72, 75, 78, 80, 82, 83, 85, 86, 89, 92, 94, 95, 96, 97, 100, 101, 102, 103, 106, 107, 110, 111, 112, 114, 115, 118, 120, 122, 123, 125, 127, 128, 131, 134, 136, 137, 138, 139, 141, 143, 146, 148, 151, 154, 155, 157, 158, 159, 162, 164, 166, 167, 170, 173, 174, 176, 177, 178, 179, 182, 183, 186, 187, 189, 191, 194, 196, 198, 201, 202, 204, 206, 207, 209, 211, 212, 213, 214, 216, 218, 220, 223, 224, 227, 228, 231, 233, 235, 237, 238, 241, 243, 246, 249, 251, 252, 255, 257, 258, 259, 262, 265, 267, 270, 271, 273, 276, 277, 279, 282, 283, 285, 288, 289, 291, 294, 295, 298, 299, 301, 302, 304, 306, 307, 310, 313, 315, 316, 317, 318, 320, 323],
  [0, 1, 2, 5, 6, 9, 10, 13, 14, 17, 18, 19, 22, 23, 26, 27, 28],
  [0, 1, 2, 5, 6, 7, 10, 11, 14, 15, 18, 21, 24, 25, 26, 29, 32, 33, 36, 37, 38, 41, 44, 45, 46, 49, 50, 51, 54, 55, 56, 58, 59, 62],
  [0, 1, 4, 5, 6, 9, 10, 11, 12, 13, 14, 17, 20, 21, 24, 25, 26, 27, 30, 31, 32, 35, 36, 37, 40, 43, 44],
  [0, 1, 2, 3, 4, 5, 8, 9, 10, 11, 14, 17, 18, 21, 22, 23, 24, 25, 26, 29, 30, 31, 32, 35, 37, 39, 42, 43, 45, 46, 47, 50, 51, 54, 55, 56, 57, 59, 60, 63, 66, 67],
  [0, 1, 2, 5, 8, 9, 10, 13, 16, 17, 20, 21],
  [0, 1, 2, 5, 8, 10, 11, 12, 13, 16, 17, 18, 21, 24, 25, 28, 29, 30, 31, 34, 35, 38, 39, 40, 43, 45],
  [0, 1, 4, 5, 8, 10, 13, 14, 17, 19, 22, 23, 26, 28, 31, 32, 35, 37, 40, 41, 43, 45, 48, 49, 51, 53, 56],
  [0, 1, 2, 3, 4, 5, 8, 11, 14, 17, 18, 19, 22, 23, 24, 27, 28, 29, 32, 33, 34, 37, 38, 39, 42, 43, 46, 47, 48, 50, 52, 55, 58, 59, 62, 63, 65, 68, 71, 72, 75, 76, 79, 82, 83, 86, 87, 90, 93, 96, 97, 100, 101, 104, 105, 108, 109],
  [0, 3, 4, 5, 8, 9, 12, 15, 16, 19, 20, 23, 26, 27, 30, 31, 34, 37, 38, 41, 44],
  [0, 1, 2, 5, 7, 8, 9, 11, 13, 14, 17, 18, 20, 21, 24, 26, 28, 31, 34, 35, 38, 41, 42, 43, 45, 46, 49, 52, 54, 57, 60, 61, 64, 66, 67, 69, 70, 72, 73, 76, 79, 81, 84, 87, 88, 91, 94, 95, 96, 98, 99, 102, 104, 105, 108, 111, 113, 116, 119, 121, 123, 126, 127, 129, 131, 132, 135, 137, 138, 141, 144, 145, 148, 149, 150, 153],
  [0, 1, 3, 6, 7, 9, 12, 15, 16, 17, 19, 22, 23, 25, 28, 31, 34, 35],
  [0, 1, 4, 5, 8, 9, 12, 13, 16, 17, 20, 21, 22, 23, 26, 27, 30, 31, 32, 33, 36, 37, 40, 41, 42, 43, 44, 47, 48, 49, 52],
  [0, 1, 4, 7, 8, 11, 12, 15, 16, 17, 18, 21, 24, 25, 28, 29, 32, 33, 34, 35, 38, 39, 42, 43, 44, 45, 47, 48, 49, 50, 52, 53, 54],
  [0, 1, 2, 3, 4, 7, 8, 9, 10, 13, 16, 19, 22, 25, 26, 27, 28, 30, 33, 36, 39, 40, 41, 42, 43, 45, 48, 51, 54, 55, 56, 57, 58, 60, 63, 66, 69, 70, 71, 72, 73, 75, 78, 81, 84, 85, 86, 87, 88, 90, 93, 96, 99, 100, 101, 102, 103, 106, 108, 110, 111, 114, 117, 120, 123, 125, 126],
  [0, 1, 2, 3, 5, 8, 11, 12, 13, 14, 15, 16, 18, 21, 24, 25, 26, 27, 28, 29, 31, 34, 37, 38, 39, 40, 41, 42, 44, 47, 50, 51, 52, 53, 54, 55, 57, 60, 63, 64, 65, 66, 67, 68, 70, 73, 76, 77, 80, 81],
  [0, 1, 2, 3, 4, 7, 10, 11, 12, 13, 15, 17, 18, 21, 24, 25, 26, 28, 29, 30, 31, 33, 36, 39, 40, 41, 44, 47, 48],
  [0, 1, 4, 5, 8, 11, 12, 15, 16, 19, 20, 23, 26],
  [0, 1, 4, 5, 8, 11, 12, 15, 16, 19, 20, 21, 24, 25, 26, 27, 28, 31, 32, 33, 36, 37],
  [0, 1, 4, 5, 6, 9, 10, 13, 14, 17, 18, 21, 22, 25, 26, 27, 28, 29, 30, 31, 32, 33, 36, 37, 38, 41, 42],
  [0, 1, 2, 5, 6, 9, 10, 13, 14, 15, 16, 17, 20, 21, 22, 23, 24],
  [0, 1, 4, 6, 9, 10, 13, 16, 19, 20, 21, 24, 27, 28, 29, 30, 33, 34, 37, 38, 41, 42, 43, 46, 49, 52, 53, 54, 57, 60, 61, 62, 63, 66, 67, 70, 71, 74, 75, 76, 77, 80, 81, 82, 85, 86],
  [0, 1, 2, 5, 8, 9, 10, 11, 12, 13, 16, 19, 20, 23, 26, 29, 30, 31, 32, 35, 36, 37, 38, 41, 44, 45, 46, 47, 48, 51, 54, 57, 58],
  [0, 1, 2, 5, 8, 9, 10, 11, 12, 13, 16, 19, 20, 23, 26, 29, 30, 31, 32, 35, 36, 37, 38, 41, 44, 45, 46, 47, 48, 51, 54, 57, 58],
  [0, 1, 2, 3, 4, 5, 8, 11, 12, 15, 18, 21, 22, 25, 26, 29, 30, 31, 34, 37, 38, 41, 43, 46, 47, 48, 51, 54, 55, 56, 59, 60, 61, 64, 65, 68, 69, 70, 71, 74, 75, 76],
  [0, 1, 3, 6, 7, 9, 12, 15, 16, 17, 18, 19, 22, 25, 26, 28, 31, 34, 35, 38, 39],
  [0, 1, 2, 5, 8, 9, 10, 11, 14, 15, 16, 18, 21, 22, 24, 27, 28, 30, 33, 34, 35, 36, 37, 40, 41, 42, 45, 46, 47, 50, 53, 54, 55, 56, 57, 59, 62, 64, 67, 68, 70, 73, 75, 78, 80, 81, 84, 85, 86],
  [0, 1, 2, 5, 8, 9, 10, 11, 12, 13, 16, 19, 20, 23, 25, 28, 29, 32, 34, 37, 38, 41, 43, 46, 47, 50, 52, 53, 54, 55, 58, 59, 60, 63, 64, 65, 68, 71, 72, 73, 74, 75, 76, 79, 80, 83, 86, 87],
  [0, 1, 2, 5, 8, 9, 10, 11, 12, 13, 16, 19, 20, 23, 25, 28, 29, 32, 34, 37, 38, 41, 43, 46, 48, 51, 53, 54, 55, 56, 59, 60, 61, 64, 65, 66, 69, 72, 73, 74, 75, 76, 77, 80, 81, 84, 87, 88],
  [0, 1, 4, 5, 6, 8, 11, 12, 14, 17, 18, 20, 23, 26, 27, 28, 29, 30, 33, 36, 37, 39, 42, 45, 46, 49, 50, 51, 52, 55, 58, 59, 62, 63, 66, 67, 70, 73, 74, 77, 78, 79, 80, 83, 86, 87, 90, 93, 94, 97, 98, 100, 101, 104, 106, 109, 110, 113, 115, 118, 119, 120, 121, 124, 125, 126, 127, 130, 131, 134, 135, 138, 139, 142, 143, 144, 145, 148, 149, 152, 153, 154, 155, 158, 161, 162, 165, 168, 169, 172, 173, 176, 177, 178, 181, 182, 183, 186, 187, 188, 191, 192, 193, 196, 197],
  [0, 1, 4, 5, 7, 9, 12, 13, 15, 17, 20, 21, 23, 25, 28, 29, 31, 33, 36, 37, 39, 41, 44, 45, 46, 48, 51, 52, 54, 57, 60, 61, 63, 65, 68, 69, 71, 73, 76, 77, 79, 81, 84, 85, 88, 89, 92, 95, 96, 97, 100, 101, 102, 105, 106, 107, 110],
  [0, 1, 4, 5, 6, 9, 10, 12, 15, 16, 19, 20, 21, 24, 25, 27, 30, 31, 34, 35, 36, 39, 40, 42, 45, 46, 49, 50, 51, 54, 55, 57, 60, 61, 64, 65, 66, 69, 70, 72, 75, 76, 77, 80, 83, 84, 87, 88, 89, 92, 93, 94, 97, 98, 99, 100, 102, 105, 106, 109, 110, 111, 114, 115, 116, 117, 120, 123, 124, 125, 128, 131, 132, 133, 136, 139, 140, 143, 144, 145, 148, 149, 151, 154, 155, 158, 159, 160, 163, 164, 166, 169, 170, 173, 174, 175, 178, 179, 181, 184, 185, 186, 189, 192],
  [0, 1, 4, 5, 6, 9, 12, 13, 16, 17],
  [0, 1, 4, 5, 6, 8, 9, 12, 13, 16, 17, 18, 19, 20, 23],
  [0, 1, 2, 3, 4, 5, 7, 10, 11, 14, 15, 16, 19, 22, 25, 28, 29],
  [0, 1, 2, 3, 4, 5, 6, 9, 12, 13, 16, 17, 18, 21, 22, 23, 24, 25, 26, 27, 30, 31, 32, 35, 36, 37, 38, 39, 40, 41, 44, 45, 46, 49, 50, 51, 52, 53, 54, 57, 60, 61, 62, 65, 66, 67, 70],
  [0, 1, 4, 5, 7, 9, 12, 13, 15, 17, 20, 21, 22, 25, 26, 27, 30],
  [0, 1, 4, 5, 8, 9, 12, 15, 16, 17, 20, 23, 24, 25, 28, 29, 31, 34, 35, 38, 39, 42, 43, 44, 47, 50, 53, 55, 56, 59, 62, 63, 64, 66, 68, 70, 73, 74, 77, 80, 82, 83, 84, 87, 89, 90, 93, 95, 96, 99, 102, 103],
  [0, 1, 4, 5, 8, 9, 12, 13, 16, 17, 20, 21, 24],
  [0, 2, 3, 6, 9, 10, 11, 12, 13, 14, 17, 20, 21, 22, 24, 25, 28, 29, 32, 35, 37, 38, 41, 43, 46, 49, 51, 52, 54, 55, 56, 57, 60, 61, 64, 65],
  [0, 2, 3, 4, 6, 9, 10, 13, 14, 17, 18, 21, 24, 25, 26, 28, 30, 31, 34, 37, 40, 41, 43, 44, 47, 50, 51, 54, 56, 57, 58, 59, 60, 61, 64, 67, 70, 73],
  [0, 1, 4, 5, 6, 9],
  [0, 1, 2, 3, 6, 9, 10, 11, 12, 13, 15, 18, 19, 22, 25, 26, 27, 28, 31, 32, 33, 36, 37, 38, 41, 42, 43, 46, 49, 50, 51, 54, 57, 58],
  [0, 2, 3, 4, 6, 9, 10, 13, 14, 17, 18, 21, 24, 25, 26, 27, 28, 30, 33, 34, 35, 36, 39, 42, 43, 46, 47, 49, 51, 52, 55, 56, 57, 60, 61, 64, 65, 66, 67, 68, 69, 70, 71, 74, 75, 77, 78, 81, 84, 87, 90],
  [0, 1, 4, 7, 8, 9, 10, 11, 13, 16, 17, 20, 23, 24, 25, 26, 29, 30, 33, 34, 35, 36, 39, 40, 41, 44, 47, 48],
  [0, 1, 4, 5, 8, 10, 13],
  [0, 2, 3, 4, 7, 8, 11, 14, 17, 18, 21, 22, 25, 26, 27, 28, 31, 32, 33, 34, 35, 38, 39, 40, 43, 46, 49],
  [0, 3, 4, 7, 8, 11, 12, 15, 16, 17, 18, 19, 20, 21, 23, 24, 27, 28, 29, 30, 32, 33, 220, 221, 222, 223, 224, 225, 226, 227, 228, 229, 230, 231, 234, 235, 236, 237, 238, 239, 240, 241, 242, 243, 244, 245, 248, 251, 252, 253, 254, 255, 256, 257, 258, 259, 260, 261, 262, 263, 264, 265, 266, 267, 268, 269, 272, 273, 274, 275, 276, 277, 278, 279, 280, 281, 282, 283, 284, 285, 286, 287, 288, 291, 294, 295, 296, 297, 298, 299, 300, 301, 302, 303, 304, 305, 306, 307, 310, 311, 312, 313, 314, 315, 316, 317, 318, 319, 320, 321, 324, 327, 328, 329, 330, 331, 332, 333, 334, 335, 336, 337, 338, 339, 340, 343, 344, 345, 346, 347, 348, 349, 350, 351, 352, 353, 354, 357, 360, 361, 362, 363, 364, 365, 366, 367, 368, 369, 370, 371, 372, 373, 376, 377, 378, 379, 380, 381, 382, 383, 384, 385, 386, 387, 390, 393, 394, 395, 396, 397, 398, 399, 400, 401, 402, 403, 404, 405, 406, 409, 410, 411, 412, 413, 414, 415, 416, 417, 418, 419, 420, 423, 426, 427, 428, 429, 430, 431, 432, 433, 434, 435, 436, 437, 438, 439, 440, 441, 442, 443, 444, 445, 446, 447, 448, 449, 450, 451, 452, 453, 454, 457, 458, 459, 460, 461, 462, 463, 464, 465, 466, 467, 468, 469, 470, 471, 472, 473, 474, 475, 476, 477, 478, 479, 480, 481, 482, 483, 486, 489, 490, 491, 492, 493, 494, 495, 496, 497, 500, 501, 502, 503, 504, 505, 506, 509, 512, 513, 514, 515, 518, 519, 522, 525, 526, 527, 528, 531, 532, 535, 538, 539, 540, 541, 544, 545, 548, 551, 552, 553, 554, 557, 558, 561, 564, 565, 566, 567, 568, 569, 570, 571, 572, 575, 576, 577, 578, 579, 580, 581, 584, 587, 588, 589, 590, 591, 592, 593, 594, 595, 596, 597, 598, 599, 600, 601, 602, 603, 604, 605, 608, 609, 610, 611, 612, 613, 614, 615, 616, 617, 618, 619, 620, 621, 622, 623, 624, 627, 630, 631, 632, 633, 634, 635, 636, 637, 638, 639, 640, 641, 642, 643, 646, 647, 648, 649, 650, 651, 652, 653, 654, 655, 656, 657, 660, 663, 664, 665, 666, 667, 668, 669, 670, 671, 672, 673, 674, 675, 676, 679, 680, 681, 682, 683, 684, 685, 686, 687, 688, 689, 690, 693, 696, 697, 698, 699, 700, 701, 702, 703, 704, 707, 708, 709, 710, 711, 712, 713, 716, 719, 720, 721, 722, 723, 724, 725, 726, 727, 730, 731, 732, 733, 734, 735, 736, 739, 742, 743, 744, 745, 746, 747, 748, 749, 750, 751, 752, 753, 754, 755, 756, 757, 758, 759, 760, 763, 764, 765, 766, 767, 768, 769, 770, 771, 772, 773, 774, 775, 776, 777, 778, 779, 782, 785, 786, 787, 788, 789, 790, 791, 792, 793, 796, 797, 798, 799, 800, 801, 802, 805, 808, 809, 810, 811, 812, 813, 814, 815, 816, 819, 820, 821, 822, 823, 824, 825, 828, 831, 832, 833, 834, 837, 838, 841, 844, 845, 846, 847, 848, 849, 850, 851, 852, 853, 854, 855, 856, 857, 860, 861, 862, 863, 864, 865, 866, 867, 868, 869, 870, 871, 874, 877, 878, 879, 880, 881, 882, 883, 884, 885, 886, 887, 888, 889, 890, 893, 894, 895, 896, 897, 898, 899, 900, 901, 902, 903, 904, 907, 910, 911, 912, 913, 914, 915, 916, 917, 918, 921, 922, 923, 924, 925, 926, 927, 930, 933, 934, 935, 936, 937, 938, 939, 940, 941, 942, 943, 944, 945, 946, 949, 950, 951, 952, 953, 954, 955, 956, 957, 958, 959, 960, 963, 966, 967, 968, 969, 970, 971, 972, 973, 974, 977, 978, 979, 980, 981, 982, 983, 986, 989, 990, 991, 992, 993, 994, 995, 996, 997, 998, 999, 1000, 1001, 1002, 1005, 1006, 1007, 1008, 1009, 1010, 1011, 1012, 1013, 1014, 1015, 1016, 1019, 1022, 1023, 1024, 1025, 1026, 1027, 1028, 1029, 1030, 1033, 1034, 1035, 1036, 1037, 1038, 1039, 1042, 1045, 1046, 1047, 1048, 1049, 1050, 1051, 1052, 1053, 1056, 1057, 1058, 1059, 1060, 1061, 1062, 1065, 1068, 1069, 1070, 1071, 1072, 1073, 1074, 1075, 1076, 1077, 1078, 1079, 1080, 1081, 1084, 1085, 1086, 1087, 1088, 1089, 1090, 1091, 1092, 1093, 1094, 1095, 1098, 1101, 1102, 1103, 1104, 1105, 1106, 1107, 1108, 1109, 1110, 1111, 1112, 1113, 1114, 1117, 1118, 1119, 1120, 1121, 1122, 1123, 1124, 1125, 1126, 1127, 1128, 1131, 1134, 1135, 1136, 1137, 1138, 1139, 1140, 1141, 1142, 1143, 1144, 1145, 1146, 1147, 1148, 1149, 1150, 1151, 1152, 1155, 1156, 1157, 1158, 1159, 1160, 1161, 1162, 1163, 1164, 1165, 1166, 1167, 1168, 1169, 1170, 1171, 1174, 1177, 1178, 1179, 1180, 1181, 1182, 1183, 1184, 1185, 1188, 1189, 1190, 1191, 1192, 1193, 1194, 1197, 1200, 1201, 1202, 1203, 1204, 1205, 1206, 1207, 1208, 1211, 1212, 1213, 1214, 1215, 1216, 1217, 1220, 1223, 1224, 1225, 1226, 1229, 1230, 1233, 1236, 1237, 1238, 1239, 1242, 1243, 1246, 1249, 1250, 1251, 1252, 1253, 1254, 1255, 1256, 1257, 1258, 1259, 1260, 1261, 1262, 1263, 1264, 1265, 1266, 1267, 1268, 1269, 1270, 1271, 1272, 1275, 1276, 1277, 1278, 1279, 1280, 1281, 1282, 1283, 1284, 1285, 1286, 1287, 1288, 1289, 1290, 1291, 1292, 1293, 1294, 1295, 1296, 1299, 1302, 1303, 1304, 1305, 1306, 1307, 1308, 1309, 1310, 1311, 1312, 1313, 1314, 1315, 1318, 1319, 1320, 1321, 1322, 1323, 1324, 1325, 1326, 1327, 1328, 1329, 1332, 1335, 1336, 1337, 1338, 1339, 1340, 1341, 1342, 1343, 1346, 1347, 1348, 1349, 1350, 1351, 1352, 1355, 1358, 1359, 1360, 1361, 1362, 1363, 1364, 1365, 1366, 1369, 1370, 1371, 1372, 1373, 1374, 1375, 1378, 1381, 1382, 1383, 1384, 1385, 1386, 1387, 1388, 1389, 1392, 1393, 1394, 1395, 1396, 1397, 1398, 1401, 1404, 1405, 1406, 1407, 1410, 1411, 1414, 1417, 1418, 1419, 1422, 1425, 1426],
  [0, 1, 2, 3, 4, 7, 8, 9, 10, 11, 14, 15, 16, 17, 18, 21, 22, 23, 24, 25, 26, 27, 28, 29, 32, 33, 34, 35, 36, 38, 39, 40, 41, 42, 43, 45, 46, 47, 48, 49, 51, 52],
  [0, 1, 3, 4, 5, 6, 8, 9, 10],
  [0, 1, 2, 3, 6, 7, 10, 13, 14, 15, 17, 18, 19, 20, 21, 22, 23, 24, 25, 28, 31, 32],
  [0, 1, 2, 3, 4, 5, 6, 7, 10, 11, 12, 13, 14, 17, 20]]
