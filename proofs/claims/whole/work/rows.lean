section
-- ===== PART A: goes FIRST, ahead of the names: the tables' words, and 'selects' of the private methods out of them =====
/-- a private method of a class that the tables say can be made, by its rows of tables_1 -/
def lw_okq (q : MethodName × Nat) : Prop := (q.1.cls ≠ "java/lang/invoke/MethodHandle" ∧ q.1.cls ≠ "java/lang/invoke/VarHandle") ∧ Cond.instantiable q.1.cls q.2 ∈ tables_1 ∧ Cond.privateMethod q.1 ∈ tables_1 ∧ Cond.instanceMethod q.1 ∈ tables_1
theorem lw_p0 : lw_okq (⟨"MatrixScripts$Script", "advance", "()V"⟩, 17) := ⟨⟨by decide +kernel, by decide +kernel⟩, List.mem_of_getElem? (i := 49) (by decide +kernel), List.mem_of_getElem? (i := 614) (by decide +kernel), List.mem_of_getElem? (i := 615) (by decide +kernel)⟩
theorem lw_p1 : lw_okq (⟨"MatrixScripts$Tape", "behindBlanks", "(I)I"⟩, 5) := ⟨⟨by decide +kernel, by decide +kernel⟩, List.mem_of_getElem? (i := 55) (by decide +kernel), List.mem_of_getElem? (i := 622) (by decide +kernel), List.mem_of_getElem? (i := 623) (by decide +kernel)⟩
theorem lw_p2 : lw_okq (⟨"MatrixScripts$Script", "fail", "(II)V"⟩, 17) := ⟨⟨by decide +kernel, by decide +kernel⟩, List.mem_of_getElem? (i := 49) (by decide +kernel), List.mem_of_getElem? (i := 754) (by decide +kernel), List.mem_of_getElem? (i := 755) (by decide +kernel)⟩
theorem lw_p3 : lw_okq (⟨"java/lang/Throwable", "fillInStackTrace", "(I)Ljava/lang/Throwable;"⟩, 6) := ⟨⟨by decide +kernel, by decide +kernel⟩, List.mem_of_getElem? (i := 797) (by decide +kernel), List.mem_of_getElem? (i := 795) (by decide +kernel), List.mem_of_getElem? (i := 796) (by decide +kernel)⟩
theorem lw_p4 : lw_okq (⟨"MatrixScripts$Script", "take", "(I)V"⟩, 17) := ⟨⟨by decide +kernel, by decide +kernel⟩, List.mem_of_getElem? (i := 49) (by decide +kernel), List.mem_of_getElem? (i := 825) (by decide +kernel), List.mem_of_getElem? (i := 826) (by decide +kernel)⟩
theorem lw_p5 : lw_okq (⟨"MatrixScripts$Script", "emit", "(III)V"⟩, 17) := ⟨⟨by decide +kernel, by decide +kernel⟩, List.mem_of_getElem? (i := 49) (by decide +kernel), List.mem_of_getElem? (i := 829) (by decide +kernel), List.mem_of_getElem? (i := 830) (by decide +kernel)⟩
theorem lw_p6 : lw_okq (⟨"MatrixScripts$Script", "sum", "()V"⟩, 17) := ⟨⟨by decide +kernel, by decide +kernel⟩, List.mem_of_getElem? (i := 49) (by decide +kernel), List.mem_of_getElem? (i := 847) (by decide +kernel), List.mem_of_getElem? (i := 848) (by decide +kernel)⟩
theorem lw_p7 : lw_okq (⟨"MatrixScripts$Script", "term", "()V"⟩, 17) := ⟨⟨by decide +kernel, by decide +kernel⟩, List.mem_of_getElem? (i := 49) (by decide +kernel), List.mem_of_getElem? (i := 851) (by decide +kernel), List.mem_of_getElem? (i := 852) (by decide +kernel)⟩
theorem lw_p8 : lw_okq (⟨"MatrixScripts$Script", "factor", "()V"⟩, 17) := ⟨⟨by decide +kernel, by decide +kernel⟩, List.mem_of_getElem? (i := 49) (by decide +kernel), List.mem_of_getElem? (i := 855) (by decide +kernel), List.mem_of_getElem? (i := 856) (by decide +kernel)⟩
theorem lw_p9 : lw_okq (⟨"MatrixScripts$Script", "atom", "()V"⟩, 17) := ⟨⟨by decide +kernel, by decide +kernel⟩, List.mem_of_getElem? (i := 49) (by decide +kernel), List.mem_of_getElem? (i := 859) (by decide +kernel), List.mem_of_getElem? (i := 860) (by decide +kernel)⟩
theorem lw_p10 : lw_okq (⟨"MatrixScripts$Script", "call", "(I)V"⟩, 17) := ⟨⟨by decide +kernel, by decide +kernel⟩, List.mem_of_getElem? (i := 49) (by decide +kernel), List.mem_of_getElem? (i := 863) (by decide +kernel), List.mem_of_getElem? (i := 864) (by decide +kernel)⟩
theorem lw_p11 : lw_okq (⟨"MatrixScripts$Script", "open", "()V"⟩, 17) := ⟨⟨by decide +kernel, by decide +kernel⟩, List.mem_of_getElem? (i := 49) (by decide +kernel), List.mem_of_getElem? (i := 867) (by decide +kernel), List.mem_of_getElem? (i := 868) (by decide +kernel)⟩
theorem lw_p12 : lw_okq (⟨"MatrixScripts$Script", "join", "(I)V"⟩, 17) := ⟨⟨by decide +kernel, by decide +kernel⟩, List.mem_of_getElem? (i := 49) (by decide +kernel), List.mem_of_getElem? (i := 871) (by decide +kernel), List.mem_of_getElem? (i := 872) (by decide +kernel)⟩
theorem lw_p13 : lw_okq (⟨"MatrixScripts$Maker", "step", "(I)Z"⟩, 12) := ⟨⟨by decide +kernel, by decide +kernel⟩, List.mem_of_getElem? (i := 171) (by decide +kernel), List.mem_of_getElem? (i := 887) (by decide +kernel), List.mem_of_getElem? (i := 888) (by decide +kernel)⟩
theorem lw_p14 : lw_okq (⟨"MatrixScripts$Whole", "trim", "()V"⟩, 3) := ⟨⟨by decide +kernel, by decide +kernel⟩, List.mem_of_getElem? (i := 88) (by decide +kernel), List.mem_of_getElem? (i := 924) (by decide +kernel), List.mem_of_getElem? (i := 925) (by decide +kernel)⟩
theorem lw_p15 : lw_okq (⟨"MatrixScripts$Maker", "finish", "(I)I"⟩, 12) := ⟨⟨by decide +kernel, by decide +kernel⟩, List.mem_of_getElem? (i := 171) (by decide +kernel), List.mem_of_getElem? (i := 928) (by decide +kernel), List.mem_of_getElem? (i := 929) (by decide +kernel)⟩
def lw_privs_1 : List (MethodName × Nat) := [(⟨"MatrixScripts$Script", "advance", "()V"⟩, 17), (⟨"MatrixScripts$Tape", "behindBlanks", "(I)I"⟩, 5), (⟨"MatrixScripts$Script", "fail", "(II)V"⟩, 17), (⟨"java/lang/Throwable", "fillInStackTrace", "(I)Ljava/lang/Throwable;"⟩, 6), (⟨"MatrixScripts$Script", "take", "(I)V"⟩, 17), (⟨"MatrixScripts$Script", "emit", "(III)V"⟩, 17), (⟨"MatrixScripts$Script", "sum", "()V"⟩, 17), (⟨"MatrixScripts$Script", "term", "()V"⟩, 17), (⟨"MatrixScripts$Script", "factor", "()V"⟩, 17), (⟨"MatrixScripts$Script", "atom", "()V"⟩, 17), (⟨"MatrixScripts$Script", "call", "(I)V"⟩, 17), (⟨"MatrixScripts$Script", "open", "()V"⟩, 17), (⟨"MatrixScripts$Script", "join", "(I)V"⟩, 17), (⟨"MatrixScripts$Maker", "step", "(I)Z"⟩, 12), (⟨"MatrixScripts$Whole", "trim", "()V"⟩, 3), (⟨"MatrixScripts$Maker", "finish", "(I)I"⟩, 12)]
theorem lw_r1 : ∀ q ∈ lw_privs_1, lw_okq q := List.forall_mem_cons.mpr ⟨lw_p0, List.forall_mem_cons.mpr ⟨lw_p1, List.forall_mem_cons.mpr ⟨lw_p2, List.forall_mem_cons.mpr ⟨lw_p3, List.forall_mem_cons.mpr ⟨lw_p4, List.forall_mem_cons.mpr ⟨lw_p5, List.forall_mem_cons.mpr ⟨lw_p6, List.forall_mem_cons.mpr ⟨lw_p7, List.forall_mem_cons.mpr ⟨lw_p8, List.forall_mem_cons.mpr ⟨lw_p9, List.forall_mem_cons.mpr ⟨lw_p10, List.forall_mem_cons.mpr ⟨lw_p11, List.forall_mem_cons.mpr ⟨lw_p12, List.forall_mem_cons.mpr ⟨lw_p13, List.forall_mem_cons.mpr ⟨lw_p14, List.forall_mem_cons.mpr ⟨lw_p15, fun _ h => absurd h List.not_mem_nil⟩⟩⟩⟩⟩⟩⟩⟩⟩⟩⟩⟩⟩⟩⟩⟩
theorem lw_p16 : lw_okq (⟨"MatrixScripts$Calc", "lehmer", "()V"⟩, 14) := ⟨⟨by decide +kernel, by decide +kernel⟩, List.mem_of_getElem? (i := 242) (by decide +kernel), List.mem_of_getElem? (i := 963) (by decide +kernel), List.mem_of_getElem? (i := 964) (by decide +kernel)⟩
theorem lw_p17 : lw_okq (⟨"MatrixScripts$Calc", "digit", "(II)I"⟩, 14) := ⟨⟨by decide +kernel, by decide +kernel⟩, List.mem_of_getElem? (i := 242) (by decide +kernel), List.mem_of_getElem? (i := 997) (by decide +kernel), List.mem_of_getElem? (i := 998) (by decide +kernel)⟩
theorem lw_p18 : lw_okq (⟨"MatrixScripts$Calc", "mixBoth", "(Z)V"⟩, 14) := ⟨⟨by decide +kernel, by decide +kernel⟩, List.mem_of_getElem? (i := 242) (by decide +kernel), List.mem_of_getElem? (i := 1265) (by decide +kernel), List.mem_of_getElem? (i := 1266) (by decide +kernel)⟩
theorem lw_p19 : lw_okq (⟨"MatrixScripts$Values", "reckon", "(II)V"⟩, 6) := ⟨⟨by decide +kernel, by decide +kernel⟩, List.mem_of_getElem? (i := 138) (by decide +kernel), List.mem_of_getElem? (i := 1279) (by decide +kernel), List.mem_of_getElem? (i := 1280) (by decide +kernel)⟩
theorem lw_p20 : lw_okq (⟨"MatrixScripts$Values", "add", "(I)I"⟩, 6) := ⟨⟨by decide +kernel, by decide +kernel⟩, List.mem_of_getElem? (i := 138) (by decide +kernel), List.mem_of_getElem? (i := 1296) (by decide +kernel), List.mem_of_getElem? (i := 1297) (by decide +kernel)⟩
theorem lw_p21 : lw_okq (⟨"MatrixScripts$Values", "pack", "(LMatrixScripts$Whole;I)I"⟩, 6) := ⟨⟨by decide +kernel, by decide +kernel⟩, List.mem_of_getElem? (i := 138) (by decide +kernel), List.mem_of_getElem? (i := 1302) (by decide +kernel), List.mem_of_getElem? (i := 1303) (by decide +kernel)⟩
theorem lw_p22 : lw_okq (⟨"MatrixScripts$Script", "tell", "(I)I"⟩, 17) := ⟨⟨by decide +kernel, by decide +kernel⟩, List.mem_of_getElem? (i := 49) (by decide +kernel), List.mem_of_getElem? (i := 1307) (by decide +kernel), List.mem_of_getElem? (i := 1308) (by decide +kernel)⟩
theorem lw_p23 : lw_okq (⟨"MatrixScripts$Script", "called", "(I)LMatrixScripts$Called;"⟩, 17) := ⟨⟨by decide +kernel, by decide +kernel⟩, List.mem_of_getElem? (i := 49) (by decide +kernel), List.mem_of_getElem? (i := 1311) (by decide +kernel), List.mem_of_getElem? (i := 1312) (by decide +kernel)⟩
theorem lw_p24 : lw_okq (⟨"MatrixScripts$Script", "find", "(I)I"⟩, 17) := ⟨⟨by decide +kernel, by decide +kernel⟩, List.mem_of_getElem? (i := 49) (by decide +kernel), List.mem_of_getElem? (i := 1319) (by decide +kernel), List.mem_of_getElem? (i := 1320) (by decide +kernel)⟩
theorem lw_p25 : lw_okq (⟨"MatrixScripts$Script", "noteNumber", "(I)V"⟩, 17) := ⟨⟨by decide +kernel, by decide +kernel⟩, List.mem_of_getElem? (i := 49) (by decide +kernel), List.mem_of_getElem? (i := 1344) (by decide +kernel), List.mem_of_getElem? (i := 1345) (by decide +kernel)⟩
theorem lw_p26 : lw_okq (⟨"MatrixScripts$Maker", "refuse", "(LMatrixScripts$Called;I[JI)I"⟩, 12) := ⟨⟨by decide +kernel, by decide +kernel⟩, List.mem_of_getElem? (i := 171) (by decide +kernel), List.mem_of_getElem? (i := 1359) (by decide +kernel), List.mem_of_getElem? (i := 1360) (by decide +kernel)⟩
theorem lw_p27 : lw_okq (⟨"MatrixScripts$Values", "unpack", "(LMatrixScripts$Whole;I)I"⟩, 6) := ⟨⟨by decide +kernel, by decide +kernel⟩, List.mem_of_getElem? (i := 138) (by decide +kernel), List.mem_of_getElem? (i := 1369) (by decide +kernel), List.mem_of_getElem? (i := 1370) (by decide +kernel)⟩
theorem lw_p28 : lw_okq (⟨"MatrixScripts$Maker", "allows", "(LMatrixScripts$Called;[J)Z"⟩, 12) := ⟨⟨by decide +kernel, by decide +kernel⟩, List.mem_of_getElem? (i := 171) (by decide +kernel), List.mem_of_getElem? (i := 1374) (by decide +kernel), List.mem_of_getElem? (i := 1375) (by decide +kernel)⟩
theorem lw_p29 : lw_okq (⟨"MatrixScripts$Lattices", "prepare", "(LMatrixScripts$Matrix;LMatrixScripts$Matrix;)I"⟩, 12) := ⟨⟨by decide +kernel, by decide +kernel⟩, List.mem_of_getElem? (i := 179) (by decide +kernel), List.mem_of_getElem? (i := 1405) (by decide +kernel), List.mem_of_getElem? (i := 1406) (by decide +kernel)⟩
theorem lw_p30 : lw_okq (⟨"MatrixScripts$Elimination", "clearCell", "(II)V"⟩, 15) := ⟨⟨by decide +kernel, by decide +kernel⟩, List.mem_of_getElem? (i := 185) (by decide +kernel), List.mem_of_getElem? (i := 1447) (by decide +kernel), List.mem_of_getElem? (i := 1448) (by decide +kernel)⟩
theorem lw_p31 : lw_okq (⟨"MatrixScripts$Lattices", "clear", "(LMatrixScripts$Matrix;IIZ)Z"⟩, 12) := ⟨⟨by decide +kernel, by decide +kernel⟩, List.mem_of_getElem? (i := 179) (by decide +kernel), List.mem_of_getElem? (i := 1463) (by decide +kernel), List.mem_of_getElem? (i := 1464) (by decide +kernel)⟩
def lw_privs_2 : List (MethodName × Nat) := [(⟨"MatrixScripts$Calc", "lehmer", "()V"⟩, 14), (⟨"MatrixScripts$Calc", "digit", "(II)I"⟩, 14), (⟨"MatrixScripts$Calc", "mixBoth", "(Z)V"⟩, 14), (⟨"MatrixScripts$Values", "reckon", "(II)V"⟩, 6), (⟨"MatrixScripts$Values", "add", "(I)I"⟩, 6), (⟨"MatrixScripts$Values", "pack", "(LMatrixScripts$Whole;I)I"⟩, 6), (⟨"MatrixScripts$Script", "tell", "(I)I"⟩, 17), (⟨"MatrixScripts$Script", "called", "(I)LMatrixScripts$Called;"⟩, 17), (⟨"MatrixScripts$Script", "find", "(I)I"⟩, 17), (⟨"MatrixScripts$Script", "noteNumber", "(I)V"⟩, 17), (⟨"MatrixScripts$Maker", "refuse", "(LMatrixScripts$Called;I[JI)I"⟩, 12), (⟨"MatrixScripts$Values", "unpack", "(LMatrixScripts$Whole;I)I"⟩, 6), (⟨"MatrixScripts$Maker", "allows", "(LMatrixScripts$Called;[J)Z"⟩, 12), (⟨"MatrixScripts$Lattices", "prepare", "(LMatrixScripts$Matrix;LMatrixScripts$Matrix;)I"⟩, 12), (⟨"MatrixScripts$Elimination", "clearCell", "(II)V"⟩, 15), (⟨"MatrixScripts$Lattices", "clear", "(LMatrixScripts$Matrix;IIZ)Z"⟩, 12)]
theorem lw_r2 : ∀ q ∈ lw_privs_2, lw_okq q := List.forall_mem_cons.mpr ⟨lw_p16, List.forall_mem_cons.mpr ⟨lw_p17, List.forall_mem_cons.mpr ⟨lw_p18, List.forall_mem_cons.mpr ⟨lw_p19, List.forall_mem_cons.mpr ⟨lw_p20, List.forall_mem_cons.mpr ⟨lw_p21, List.forall_mem_cons.mpr ⟨lw_p22, List.forall_mem_cons.mpr ⟨lw_p23, List.forall_mem_cons.mpr ⟨lw_p24, List.forall_mem_cons.mpr ⟨lw_p25, List.forall_mem_cons.mpr ⟨lw_p26, List.forall_mem_cons.mpr ⟨lw_p27, List.forall_mem_cons.mpr ⟨lw_p28, List.forall_mem_cons.mpr ⟨lw_p29, List.forall_mem_cons.mpr ⟨lw_p30, List.forall_mem_cons.mpr ⟨lw_p31, fun _ h => absurd h List.not_mem_nil⟩⟩⟩⟩⟩⟩⟩⟩⟩⟩⟩⟩⟩⟩⟩⟩
theorem lw_p32 : lw_okq (⟨"MatrixScripts$Lattices", "closeRow", "(LMatrixScripts$Matrix;I)V"⟩, 12) := ⟨⟨by decide +kernel, by decide +kernel⟩, List.mem_of_getElem? (i := 179) (by decide +kernel), List.mem_of_getElem? (i := 1487) (by decide +kernel), List.mem_of_getElem? (i := 1488) (by decide +kernel)⟩
theorem lw_p33 : lw_okq (⟨"MatrixScripts$Lattices", "reduceAbove", "(LMatrixScripts$Matrix;II)V"⟩, 12) := ⟨⟨by decide +kernel, by decide +kernel⟩, List.mem_of_getElem? (i := 179) (by decide +kernel), List.mem_of_getElem? (i := 1492) (by decide +kernel), List.mem_of_getElem? (i := 1493) (by decide +kernel)⟩
theorem lw_p34 : lw_okq (⟨"MatrixScripts$Lattices", "dependent", "(LMatrixScripts$Matrix;IIILMatrixScripts$Whole;)V"⟩, 12) := ⟨⟨by decide +kernel, by decide +kernel⟩, List.mem_of_getElem? (i := 179) (by decide +kernel), List.mem_of_getElem? (i := 1501) (by decide +kernel), List.mem_of_getElem? (i := 1502) (by decide +kernel)⟩
theorem lw_p35 : lw_okq (⟨"MatrixScripts$Lattices", "findPivot", "(LMatrixScripts$Matrix;I)Z"⟩, 12) := ⟨⟨by decide +kernel, by decide +kernel⟩, List.mem_of_getElem? (i := 179) (by decide +kernel), List.mem_of_getElem? (i := 1511) (by decide +kernel), List.mem_of_getElem? (i := 1512) (by decide +kernel)⟩
theorem lw_p36 : lw_okq (⟨"MatrixScripts$Lattices", "chain", "(LMatrixScripts$Matrix;I)V"⟩, 12) := ⟨⟨by decide +kernel, by decide +kernel⟩, List.mem_of_getElem? (i := 179) (by decide +kernel), List.mem_of_getElem? (i := 1516) (by decide +kernel), List.mem_of_getElem? (i := 1517) (by decide +kernel)⟩
theorem lw_p37 : lw_okq (⟨"MatrixScripts$Lattices", "measure", "(LMatrixScripts$Matrix;LMatrixScripts$Matrix;I)V"⟩, 12) := ⟨⟨by decide +kernel, by decide +kernel⟩, List.mem_of_getElem? (i := 179) (by decide +kernel), List.mem_of_getElem? (i := 1524) (by decide +kernel), List.mem_of_getElem? (i := 1525) (by decide +kernel)⟩
theorem lw_p38 : lw_okq (⟨"MatrixScripts$Lattices", "share", "(II)LMatrixScripts$Whole;"⟩, 12) := ⟨⟨by decide +kernel, by decide +kernel⟩, List.mem_of_getElem? (i := 179) (by decide +kernel), List.mem_of_getElem? (i := 1528) (by decide +kernel), List.mem_of_getElem? (i := 1529) (by decide +kernel)⟩
theorem lw_p39 : lw_okq (⟨"MatrixScripts$Lattices", "shorten", "(LMatrixScripts$Matrix;LMatrixScripts$Matrix;II)V"⟩, 12) := ⟨⟨by decide +kernel, by decide +kernel⟩, List.mem_of_getElem? (i := 179) (by decide +kernel), List.mem_of_getElem? (i := 1532) (by decide +kernel), List.mem_of_getElem? (i := 1533) (by decide +kernel)⟩
theorem lw_p40 : lw_okq (⟨"MatrixScripts$Lattices", "isLong", "(LMatrixScripts$Matrix;I)Z"⟩, 12) := ⟨⟨by decide +kernel, by decide +kernel⟩, List.mem_of_getElem? (i := 179) (by decide +kernel), List.mem_of_getElem? (i := 1536) (by decide +kernel), List.mem_of_getElem? (i := 1537) (by decide +kernel)⟩
theorem lw_p41 : lw_okq (⟨"MatrixScripts$Lattices", "swap", "(LMatrixScripts$Matrix;LMatrixScripts$Matrix;II)V"⟩, 12) := ⟨⟨by decide +kernel, by decide +kernel⟩, List.mem_of_getElem? (i := 179) (by decide +kernel), List.mem_of_getElem? (i := 1542) (by decide +kernel), List.mem_of_getElem? (i := 1543) (by decide +kernel)⟩
theorem lw_p42 : lw_okq (⟨"MatrixScripts$Polynomials", "start", "(I)V"⟩, 8) := ⟨⟨by decide +kernel, by decide +kernel⟩, List.mem_of_getElem? (i := 388) (by decide +kernel), List.mem_of_getElem? (i := 1557) (by decide +kernel), List.mem_of_getElem? (i := 1558) (by decide +kernel)⟩
theorem lw_p43 : lw_okq (⟨"MatrixScripts$Modular", "toHessenberg", "()V"⟩, 17) := ⟨⟨by decide +kernel, by decide +kernel⟩, List.mem_of_getElem? (i := 394) (by decide +kernel), List.mem_of_getElem? (i := 1578) (by decide +kernel), List.mem_of_getElem? (i := 1579) (by decide +kernel)⟩
theorem lw_p44 : lw_okq (⟨"MatrixScripts$Modular", "exchange", "(II)V"⟩, 17) := ⟨⟨by decide +kernel, by decide +kernel⟩, List.mem_of_getElem? (i := 394) (by decide +kernel), List.mem_of_getElem? (i := 1582) (by decide +kernel), List.mem_of_getElem? (i := 1583) (by decide +kernel)⟩
theorem lw_p45 : lw_okq (⟨"MatrixScripts$Modular", "less", "(IJI)I"⟩, 17) := ⟨⟨by decide +kernel, by decide +kernel⟩, List.mem_of_getElem? (i := 394) (by decide +kernel), List.mem_of_getElem? (i := 1586) (by decide +kernel), List.mem_of_getElem? (i := 1587) (by decide +kernel)⟩
theorem lw_p46 : lw_okq (⟨"MatrixScripts$Modular", "characteristic", "()V"⟩, 17) := ⟨⟨by decide +kernel, by decide +kernel⟩, List.mem_of_getElem? (i := 394) (by decide +kernel), List.mem_of_getElem? (i := 1590) (by decide +kernel), List.mem_of_getElem? (i := 1591) (by decide +kernel)⟩
theorem lw_p47 : lw_okq (⟨"MatrixScripts$Modular", "longest", "()V"⟩, 17) := ⟨⟨by decide +kernel, by decide +kernel⟩, List.mem_of_getElem? (i := 394) (by decide +kernel), List.mem_of_getElem? (i := 1598) (by decide +kernel), List.mem_of_getElem? (i := 1599) (by decide +kernel)⟩
def lw_privs_3 : List (MethodName × Nat) := [(⟨"MatrixScripts$Lattices", "closeRow", "(LMatrixScripts$Matrix;I)V"⟩, 12), (⟨"MatrixScripts$Lattices", "reduceAbove", "(LMatrixScripts$Matrix;II)V"⟩, 12), (⟨"MatrixScripts$Lattices", "dependent", "(LMatrixScripts$Matrix;IIILMatrixScripts$Whole;)V"⟩, 12), (⟨"MatrixScripts$Lattices", "findPivot", "(LMatrixScripts$Matrix;I)Z"⟩, 12), (⟨"MatrixScripts$Lattices", "chain", "(LMatrixScripts$Matrix;I)V"⟩, 12), (⟨"MatrixScripts$Lattices", "measure", "(LMatrixScripts$Matrix;LMatrixScripts$Matrix;I)V"⟩, 12), (⟨"MatrixScripts$Lattices", "share", "(II)LMatrixScripts$Whole;"⟩, 12), (⟨"MatrixScripts$Lattices", "shorten", "(LMatrixScripts$Matrix;LMatrixScripts$Matrix;II)V"⟩, 12), (⟨"MatrixScripts$Lattices", "isLong", "(LMatrixScripts$Matrix;I)Z"⟩, 12), (⟨"MatrixScripts$Lattices", "swap", "(LMatrixScripts$Matrix;LMatrixScripts$Matrix;II)V"⟩, 12), (⟨"MatrixScripts$Polynomials", "start", "(I)V"⟩, 8), (⟨"MatrixScripts$Modular", "toHessenberg", "()V"⟩, 17), (⟨"MatrixScripts$Modular", "exchange", "(II)V"⟩, 17), (⟨"MatrixScripts$Modular", "less", "(IJI)I"⟩, 17), (⟨"MatrixScripts$Modular", "characteristic", "()V"⟩, 17), (⟨"MatrixScripts$Modular", "longest", "()V"⟩, 17)]
theorem lw_r3 : ∀ q ∈ lw_privs_3, lw_okq q := List.forall_mem_cons.mpr ⟨lw_p32, List.forall_mem_cons.mpr ⟨lw_p33, List.forall_mem_cons.mpr ⟨lw_p34, List.forall_mem_cons.mpr ⟨lw_p35, List.forall_mem_cons.mpr ⟨lw_p36, List.forall_mem_cons.mpr ⟨lw_p37, List.forall_mem_cons.mpr ⟨lw_p38, List.forall_mem_cons.mpr ⟨lw_p39, List.forall_mem_cons.mpr ⟨lw_p40, List.forall_mem_cons.mpr ⟨lw_p41, List.forall_mem_cons.mpr ⟨lw_p42, List.forall_mem_cons.mpr ⟨lw_p43, List.forall_mem_cons.mpr ⟨lw_p44, List.forall_mem_cons.mpr ⟨lw_p45, List.forall_mem_cons.mpr ⟨lw_p46, List.forall_mem_cons.mpr ⟨lw_p47, fun _ h => absurd h List.not_mem_nil⟩⟩⟩⟩⟩⟩⟩⟩⟩⟩⟩⟩⟩⟩⟩⟩
theorem lw_p48 : lw_okq (⟨"MatrixScripts$Modular", "reach", "([I)V"⟩, 17) := ⟨⟨by decide +kernel, by decide +kernel⟩, List.mem_of_getElem? (i := 394) (by decide +kernel), List.mem_of_getElem? (i := 1602) (by decide +kernel), List.mem_of_getElem? (i := 1603) (by decide +kernel)⟩
theorem lw_p49 : lw_okq (⟨"MatrixScripts$Modular", "advance", "()V"⟩, 17) := ⟨⟨by decide +kernel, by decide +kernel⟩, List.mem_of_getElem? (i := 394) (by decide +kernel), List.mem_of_getElem? (i := 1606) (by decide +kernel), List.mem_of_getElem? (i := 1607) (by decide +kernel)⟩
theorem lw_p50 : lw_okq (⟨"MatrixScripts$Modular", "applyOrder", "(II)V"⟩, 17) := ⟨⟨by decide +kernel, by decide +kernel⟩, List.mem_of_getElem? (i := 394) (by decide +kernel), List.mem_of_getElem? (i := 1610) (by decide +kernel), List.mem_of_getElem? (i := 1611) (by decide +kernel)⟩
theorem lw_p51 : lw_okq (⟨"MatrixScripts$Polynomials", "compareDegrees", "()I"⟩, 8) := ⟨⟨by decide +kernel, by decide +kernel⟩, List.mem_of_getElem? (i := 388) (by decide +kernel), List.mem_of_getElem? (i := 1614) (by decide +kernel), List.mem_of_getElem? (i := 1615) (by decide +kernel)⟩
theorem lw_p52 : lw_okq (⟨"MatrixScripts$Polynomials", "putTogether", "(I)V"⟩, 8) := ⟨⟨by decide +kernel, by decide +kernel⟩, List.mem_of_getElem? (i := 388) (by decide +kernel), List.mem_of_getElem? (i := 1622) (by decide +kernel), List.mem_of_getElem? (i := 1623) (by decide +kernel)⟩
theorem lw_p53 : lw_okq (⟨"MatrixScripts$Polynomials", "areSmall", "(I)Z"⟩, 8) := ⟨⟨by decide +kernel, by decide +kernel⟩, List.mem_of_getElem? (i := 388) (by decide +kernel), List.mem_of_getElem? (i := 1633) (by decide +kernel), List.mem_of_getElem? (i := 1634) (by decide +kernel)⟩
theorem lw_p54 : lw_okq (⟨"MatrixScripts$Polynomials", "raise", "(LMatrixScripts$Whole;I)V"⟩, 8) := ⟨⟨by decide +kernel, by decide +kernel⟩, List.mem_of_getElem? (i := 388) (by decide +kernel), List.mem_of_getElem? (i := 1644) (by decide +kernel), List.mem_of_getElem? (i := 1645) (by decide +kernel)⟩
theorem lw_p55 : lw_okq (⟨"MatrixScripts$Polynomials", "fillBlocks", "(ILMatrixScripts$Matrix;)V"⟩, 8) := ⟨⟨by decide +kernel, by decide +kernel⟩, List.mem_of_getElem? (i := 388) (by decide +kernel), List.mem_of_getElem? (i := 1649) (by decide +kernel), List.mem_of_getElem? (i := 1650) (by decide +kernel)⟩
theorem lw_p56 : lw_okq (⟨"MatrixScripts$Polynomials", "fillRow", "(LMatrixScripts$Matrix;)V"⟩, 8) := ⟨⟨by decide +kernel, by decide +kernel⟩, List.mem_of_getElem? (i := 388) (by decide +kernel), List.mem_of_getElem? (i := 1654) (by decide +kernel), List.mem_of_getElem? (i := 1655) (by decide +kernel)⟩
theorem lw_p57 : lw_okq (⟨"MatrixScripts$Maker", "cellsOf", "(LMatrixScripts$Called;[J)I"⟩, 12) := ⟨⟨by decide +kernel, by decide +kernel⟩, List.mem_of_getElem? (i := 171) (by decide +kernel), List.mem_of_getElem? (i := 1666) (by decide +kernel), List.mem_of_getElem? (i := 1667) (by decide +kernel)⟩
theorem lw_p58 : lw_okq (⟨"MatrixScripts$Maker", "count", "(LMatrixScripts$Called;)V"⟩, 12) := ⟨⟨by decide +kernel, by decide +kernel⟩, List.mem_of_getElem? (i := 171) (by decide +kernel), List.mem_of_getElem? (i := 1681) (by decide +kernel), List.mem_of_getElem? (i := 1682) (by decide +kernel)⟩
theorem lw_p59 : lw_okq (⟨"MatrixScripts$Elimination", "prepare", "(LMatrixScripts$Matrix;LMatrixScripts$Matrix;Z)Z"⟩, 15) := ⟨⟨by decide +kernel, by decide +kernel⟩, List.mem_of_getElem? (i := 185) (by decide +kernel), List.mem_of_getElem? (i := 1708) (by decide +kernel), List.mem_of_getElem? (i := 1709) (by decide +kernel)⟩
theorem lw_p60 : lw_okq (⟨"MatrixScripts$Elimination", "prepareResidues", "(LMatrixScripts$Matrix;LMatrixScripts$Matrix;ZI)Z"⟩, 15) := ⟨⟨by decide +kernel, by decide +kernel⟩, List.mem_of_getElem? (i := 185) (by decide +kernel), List.mem_of_getElem? (i := 1720) (by decide +kernel), List.mem_of_getElem? (i := 1721) (by decide +kernel)⟩
theorem lw_p61 : lw_okq (⟨"MatrixScripts$Elimination", "reduceResidues", "(II)V"⟩, 15) := ⟨⟨by decide +kernel, by decide +kernel⟩, List.mem_of_getElem? (i := 185) (by decide +kernel), List.mem_of_getElem? (i := 1726) (by decide +kernel), List.mem_of_getElem? (i := 1727) (by decide +kernel)⟩
theorem lw_p62 : lw_okq (⟨"MatrixScripts$Elimination", "takeRow", "(IIJI)V"⟩, 15) := ⟨⟨by decide +kernel, by decide +kernel⟩, List.mem_of_getElem? (i := 185) (by decide +kernel), List.mem_of_getElem? (i := 1730) (by decide +kernel), List.mem_of_getElem? (i := 1731) (by decide +kernel)⟩
theorem lw_p63 : lw_okq (⟨"MatrixScripts$Elimination", "isMissing", "(LMatrixScripts$Called;LMatrixScripts$Matrix;)Z"⟩, 15) := ⟨⟨by decide +kernel, by decide +kernel⟩, List.mem_of_getElem? (i := 185) (by decide +kernel), List.mem_of_getElem? (i := 1734) (by decide +kernel), List.mem_of_getElem? (i := 1735) (by decide +kernel)⟩
def lw_privs_4 : List (MethodName × Nat) := [(⟨"MatrixScripts$Modular", "reach", "([I)V"⟩, 17), (⟨"MatrixScripts$Modular", "advance", "()V"⟩, 17), (⟨"MatrixScripts$Modular", "applyOrder", "(II)V"⟩, 17), (⟨"MatrixScripts$Polynomials", "compareDegrees", "()I"⟩, 8), (⟨"MatrixScripts$Polynomials", "putTogether", "(I)V"⟩, 8), (⟨"MatrixScripts$Polynomials", "areSmall", "(I)Z"⟩, 8), (⟨"MatrixScripts$Polynomials", "raise", "(LMatrixScripts$Whole;I)V"⟩, 8), (⟨"MatrixScripts$Polynomials", "fillBlocks", "(ILMatrixScripts$Matrix;)V"⟩, 8), (⟨"MatrixScripts$Polynomials", "fillRow", "(LMatrixScripts$Matrix;)V"⟩, 8), (⟨"MatrixScripts$Maker", "cellsOf", "(LMatrixScripts$Called;[J)I"⟩, 12), (⟨"MatrixScripts$Maker", "count", "(LMatrixScripts$Called;)V"⟩, 12), (⟨"MatrixScripts$Elimination", "prepare", "(LMatrixScripts$Matrix;LMatrixScripts$Matrix;Z)Z"⟩, 15), (⟨"MatrixScripts$Elimination", "prepareResidues", "(LMatrixScripts$Matrix;LMatrixScripts$Matrix;ZI)Z"⟩, 15), (⟨"MatrixScripts$Elimination", "reduceResidues", "(II)V"⟩, 15), (⟨"MatrixScripts$Elimination", "takeRow", "(IIJI)V"⟩, 15), (⟨"MatrixScripts$Elimination", "isMissing", "(LMatrixScripts$Called;LMatrixScripts$Matrix;)Z"⟩, 15)]
theorem lw_r4 : ∀ q ∈ lw_privs_4, lw_okq q := List.forall_mem_cons.mpr ⟨lw_p48, List.forall_mem_cons.mpr ⟨lw_p49, List.forall_mem_cons.mpr ⟨lw_p50, List.forall_mem_cons.mpr ⟨lw_p51, List.forall_mem_cons.mpr ⟨lw_p52, List.forall_mem_cons.mpr ⟨lw_p53, List.forall_mem_cons.mpr ⟨lw_p54, List.forall_mem_cons.mpr ⟨lw_p55, List.forall_mem_cons.mpr ⟨lw_p56, List.forall_mem_cons.mpr ⟨lw_p57, List.forall_mem_cons.mpr ⟨lw_p58, List.forall_mem_cons.mpr ⟨lw_p59, List.forall_mem_cons.mpr ⟨lw_p60, List.forall_mem_cons.mpr ⟨lw_p61, List.forall_mem_cons.mpr ⟨lw_p62, List.forall_mem_cons.mpr ⟨lw_p63, fun _ h => absurd h List.not_mem_nil⟩⟩⟩⟩⟩⟩⟩⟩⟩⟩⟩⟩⟩⟩⟩⟩
theorem lw_p64 : lw_okq (⟨"MatrixScripts$Elimination", "determinant", "(IILMatrixScripts$Matrix;)I"⟩, 15) := ⟨⟨by decide +kernel, by decide +kernel⟩, List.mem_of_getElem? (i := 185) (by decide +kernel), List.mem_of_getElem? (i := 1740) (by decide +kernel), List.mem_of_getElem? (i := 1741) (by decide +kernel)⟩
theorem lw_p65 : lw_okq (⟨"MatrixScripts$Elimination", "fillKernel", "(LMatrixScripts$Matrix;I)V"⟩, 15) := ⟨⟨by decide +kernel, by decide +kernel⟩, List.mem_of_getElem? (i := 185) (by decide +kernel), List.mem_of_getElem? (i := 1750) (by decide +kernel), List.mem_of_getElem? (i := 1751) (by decide +kernel)⟩
theorem lw_p66 : lw_okq (⟨"MatrixScripts$Elimination", "fillRows", "(LMatrixScripts$Matrix;Z)V"⟩, 15) := ⟨⟨by decide +kernel, by decide +kernel⟩, List.mem_of_getElem? (i := 185) (by decide +kernel), List.mem_of_getElem? (i := 1754) (by decide +kernel), List.mem_of_getElem? (i := 1755) (by decide +kernel)⟩
theorem lw_p67 : lw_okq (⟨"MatrixScripts$Maker", "joinCommons", "(I)Z"⟩, 12) := ⟨⟨by decide +kernel, by decide +kernel⟩, List.mem_of_getElem? (i := 171) (by decide +kernel), List.mem_of_getElem? (i := 1772) (by decide +kernel), List.mem_of_getElem? (i := 1773) (by decide +kernel)⟩
theorem lw_p68 : lw_okq (⟨"MatrixScripts$Maker", "loadTwo", "()V"⟩, 12) := ⟨⟨by decide +kernel, by decide +kernel⟩, List.mem_of_getElem? (i := 171) (by decide +kernel), List.mem_of_getElem? (i := 1796) (by decide +kernel), List.mem_of_getElem? (i := 1797) (by decide +kernel)⟩
theorem lw_p69 : lw_okq (⟨"MatrixScripts$Maker", "multiplyLines", "(LMatrixScripts$Matrix;LMatrixScripts$Matrix;)V"⟩, 12) := ⟨⟨by decide +kernel, by decide +kernel⟩, List.mem_of_getElem? (i := 171) (by decide +kernel), List.mem_of_getElem? (i := 1805) (by decide +kernel), List.mem_of_getElem? (i := 1806) (by decide +kernel)⟩
theorem lw_p70 : lw_okq (⟨"MatrixScripts$Maker", "scale", "(LMatrixScripts$Matrix;LMatrixScripts$Whole;LMatrixScripts$Whole;)V"⟩, 12) := ⟨⟨by decide +kernel, by decide +kernel⟩, List.mem_of_getElem? (i := 171) (by decide +kernel), List.mem_of_getElem? (i := 1809) (by decide +kernel), List.mem_of_getElem? (i := 1810) (by decide +kernel)⟩
theorem lw_p71 : lw_okq (⟨"MatrixScripts$Page", "put", "(I)V"⟩, 5) := ⟨⟨by decide +kernel, by decide +kernel⟩, List.mem_of_getElem? (i := 82) (by decide +kernel), List.mem_of_getElem? (i := 1834) (by decide +kernel), List.mem_of_getElem? (i := 1835) (by decide +kernel)⟩
theorem lw_p72 : lw_okq (⟨"MatrixScripts$Page", "fraction", "(LMatrixScripts$Whole;LMatrixScripts$Whole;LMatrixScripts$Calc;)V"⟩, 5) := ⟨⟨by decide +kernel, by decide +kernel⟩, List.mem_of_getElem? (i := 82) (by decide +kernel), List.mem_of_getElem? (i := 1843) (by decide +kernel), List.mem_of_getElem? (i := 1844) (by decide +kernel)⟩
theorem lw_p73 : lw_okq (⟨"MatrixScripts$Page", "digits", "(LMatrixScripts$Whole;)V"⟩, 5) := ⟨⟨by decide +kernel, by decide +kernel⟩, List.mem_of_getElem? (i := 82) (by decide +kernel), List.mem_of_getElem? (i := 1849) (by decide +kernel), List.mem_of_getElem? (i := 1850) (by decide +kernel)⟩
theorem lw_p74 : lw_okq (⟨"MatrixScripts$Script", "statement", "(II)I"⟩, 17) := ⟨⟨by decide +kernel, by decide +kernel⟩, List.mem_of_getElem? (i := 49) (by decide +kernel), List.mem_of_getElem? (i := 1858) (by decide +kernel), List.mem_of_getElem? (i := 1859) (by decide +kernel)⟩
theorem lw_p75 : lw_okq (⟨"MatrixScripts$Script", "keep", "(I)Z"⟩, 17) := ⟨⟨by decide +kernel, by decide +kernel⟩, List.mem_of_getElem? (i := 49) (by decide +kernel), List.mem_of_getElem? (i := 1862) (by decide +kernel), List.mem_of_getElem? (i := 1863) (by decide +kernel)⟩
theorem lw_p76 : lw_okq (⟨"MatrixScriptsModel", "statements", "(Z)I"⟩, 37) := ⟨⟨by decide +kernel, by decide +kernel⟩, List.mem_of_getElem? (i := 1951) (by decide +kernel), List.mem_of_getElem? (i := 2193) (by decide +kernel), List.mem_of_getElem? (i := 2194) (by decide +kernel)⟩
theorem lw_p77 : lw_okq (⟨"MatrixScriptsModel", "next", "()V"⟩, 37) := ⟨⟨by decide +kernel, by decide +kernel⟩, List.mem_of_getElem? (i := 1951) (by decide +kernel), List.mem_of_getElem? (i := 2197) (by decide +kernel), List.mem_of_getElem? (i := 2198) (by decide +kernel)⟩
theorem lw_p78 : lw_okq (⟨"MatrixScriptsModel", "peek", "(I)I"⟩, 37) := ⟨⟨by decide +kernel, by decide +kernel⟩, List.mem_of_getElem? (i := 1951) (by decide +kernel), List.mem_of_getElem? (i := 2201) (by decide +kernel), List.mem_of_getElem? (i := 2202) (by decide +kernel)⟩
theorem lw_p79 : lw_okq (⟨"MatrixScriptsModel", "need", "(ZII)V"⟩, 37) := ⟨⟨by decide +kernel, by decide +kernel⟩, List.mem_of_getElem? (i := 1951) (by decide +kernel), List.mem_of_getElem? (i := 2211) (by decide +kernel), List.mem_of_getElem? (i := 2212) (by decide +kernel)⟩
def lw_privs_5 : List (MethodName × Nat) := [(⟨"MatrixScripts$Elimination", "determinant", "(IILMatrixScripts$Matrix;)I"⟩, 15), (⟨"MatrixScripts$Elimination", "fillKernel", "(LMatrixScripts$Matrix;I)V"⟩, 15), (⟨"MatrixScripts$Elimination", "fillRows", "(LMatrixScripts$Matrix;Z)V"⟩, 15), (⟨"MatrixScripts$Maker", "joinCommons", "(I)Z"⟩, 12), (⟨"MatrixScripts$Maker", "loadTwo", "()V"⟩, 12), (⟨"MatrixScripts$Maker", "multiplyLines", "(LMatrixScripts$Matrix;LMatrixScripts$Matrix;)V"⟩, 12), (⟨"MatrixScripts$Maker", "scale", "(LMatrixScripts$Matrix;LMatrixScripts$Whole;LMatrixScripts$Whole;)V"⟩, 12), (⟨"MatrixScripts$Page", "put", "(I)V"⟩, 5), (⟨"MatrixScripts$Page", "fraction", "(LMatrixScripts$Whole;LMatrixScripts$Whole;LMatrixScripts$Calc;)V"⟩, 5), (⟨"MatrixScripts$Page", "digits", "(LMatrixScripts$Whole;)V"⟩, 5), (⟨"MatrixScripts$Script", "statement", "(II)I"⟩, 17), (⟨"MatrixScripts$Script", "keep", "(I)Z"⟩, 17), (⟨"MatrixScriptsModel", "statements", "(Z)I"⟩, 37), (⟨"MatrixScriptsModel", "next", "()V"⟩, 37), (⟨"MatrixScriptsModel", "peek", "(I)I"⟩, 37), (⟨"MatrixScriptsModel", "need", "(ZII)V"⟩, 37)]
theorem lw_r5 : ∀ q ∈ lw_privs_5, lw_okq q := List.forall_mem_cons.mpr ⟨lw_p64, List.forall_mem_cons.mpr ⟨lw_p65, List.forall_mem_cons.mpr ⟨lw_p66, List.forall_mem_cons.mpr ⟨lw_p67, List.forall_mem_cons.mpr ⟨lw_p68, List.forall_mem_cons.mpr ⟨lw_p69, List.forall_mem_cons.mpr ⟨lw_p70, List.forall_mem_cons.mpr ⟨lw_p71, List.forall_mem_cons.mpr ⟨lw_p72, List.forall_mem_cons.mpr ⟨lw_p73, List.forall_mem_cons.mpr ⟨lw_p74, List.forall_mem_cons.mpr ⟨lw_p75, List.forall_mem_cons.mpr ⟨lw_p76, List.forall_mem_cons.mpr ⟨lw_p77, List.forall_mem_cons.mpr ⟨lw_p78, List.forall_mem_cons.mpr ⟨lw_p79, fun _ h => absurd h List.not_mem_nil⟩⟩⟩⟩⟩⟩⟩⟩⟩⟩⟩⟩⟩⟩⟩⟩
theorem lw_p80 : lw_okq (⟨"MatrixScriptsModel", "fail", "(II)V"⟩, 37) := ⟨⟨by decide +kernel, by decide +kernel⟩, List.mem_of_getElem? (i := 1951) (by decide +kernel), List.mem_of_getElem? (i := 2215) (by decide +kernel), List.mem_of_getElem? (i := 2216) (by decide +kernel)⟩
theorem lw_p81 : lw_okq (⟨"MatrixScriptsModel", "statement", "()V"⟩, 37) := ⟨⟨by decide +kernel, by decide +kernel⟩, List.mem_of_getElem? (i := 1951) (by decide +kernel), List.mem_of_getElem? (i := 2224) (by decide +kernel), List.mem_of_getElem? (i := 2225) (by decide +kernel)⟩
theorem lw_p82 : lw_okq (⟨"MatrixScriptsModel", "isOwn", "()Z"⟩, 37) := ⟨⟨by decide +kernel, by decide +kernel⟩, List.mem_of_getElem? (i := 1951) (by decide +kernel), List.mem_of_getElem? (i := 2228) (by decide +kernel), List.mem_of_getElem? (i := 2229) (by decide +kernel)⟩
theorem lw_p83 : lw_okq (⟨"MatrixScriptsModel", "isWord", "(Ljava/lang/String;II)Z"⟩, 37) := ⟨⟨by decide +kernel, by decide +kernel⟩, List.mem_of_getElem? (i := 1951) (by decide +kernel), List.mem_of_getElem? (i := 2233) (by decide +kernel), List.mem_of_getElem? (i := 2234) (by decide +kernel)⟩
theorem lw_p84 : lw_okq (⟨"MatrixScriptsModel", "called", "(II)I"⟩, 37) := ⟨⟨by decide +kernel, by decide +kernel⟩, List.mem_of_getElem? (i := 1951) (by decide +kernel), List.mem_of_getElem? (i := 2240) (by decide +kernel), List.mem_of_getElem? (i := 2241) (by decide +kernel)⟩
theorem lw_p85 : lw_okq (⟨"MatrixScriptsModel", "sign", "(I)V"⟩, 37) := ⟨⟨by decide +kernel, by decide +kernel⟩, List.mem_of_getElem? (i := 1951) (by decide +kernel), List.mem_of_getElem? (i := 2245) (by decide +kernel), List.mem_of_getElem? (i := 2246) (by decide +kernel)⟩
theorem lw_p86 : lw_okq (⟨"MatrixScriptsModel", "isSign", "(I)Z"⟩, 37) := ⟨⟨by decide +kernel, by decide +kernel⟩, List.mem_of_getElem? (i := 1951) (by decide +kernel), List.mem_of_getElem? (i := 2249) (by decide +kernel), List.mem_of_getElem? (i := 2250) (by decide +kernel)⟩
theorem lw_p87 : lw_okq (⟨"MatrixScriptsModel", "sum", "()I"⟩, 37) := ⟨⟨by decide +kernel, by decide +kernel⟩, List.mem_of_getElem? (i := 1951) (by decide +kernel), List.mem_of_getElem? (i := 2253) (by decide +kernel), List.mem_of_getElem? (i := 2254) (by decide +kernel)⟩
theorem lw_p88 : lw_okq (⟨"MatrixScriptsModel", "term", "()I"⟩, 37) := ⟨⟨by decide +kernel, by decide +kernel⟩, List.mem_of_getElem? (i := 1951) (by decide +kernel), List.mem_of_getElem? (i := 2257) (by decide +kernel), List.mem_of_getElem? (i := 2258) (by decide +kernel)⟩
theorem lw_p89 : lw_okq (⟨"MatrixScriptsModel", "factor", "()I"⟩, 37) := ⟨⟨by decide +kernel, by decide +kernel⟩, List.mem_of_getElem? (i := 1951) (by decide +kernel), List.mem_of_getElem? (i := 2261) (by decide +kernel), List.mem_of_getElem? (i := 2262) (by decide +kernel)⟩
theorem lw_p90 : lw_okq (⟨"MatrixScriptsModel", "atom", "()I"⟩, 37) := ⟨⟨by decide +kernel, by decide +kernel⟩, List.mem_of_getElem? (i := 1951) (by decide +kernel), List.mem_of_getElem? (i := 2265) (by decide +kernel), List.mem_of_getElem? (i := 2266) (by decide +kernel)⟩
theorem lw_p91 : lw_okq (⟨"MatrixScriptsModel", "step", "(JI)V"⟩, 37) := ⟨⟨by decide +kernel, by decide +kernel⟩, List.mem_of_getElem? (i := 1951) (by decide +kernel), List.mem_of_getElem? (i := 2269) (by decide +kernel), List.mem_of_getElem? (i := 2270) (by decide +kernel)⟩
theorem lw_p92 : lw_okq (⟨"MatrixScriptsModel", "literal", "(II)I"⟩, 37) := ⟨⟨by decide +kernel, by decide +kernel⟩, List.mem_of_getElem? (i := 1951) (by decide +kernel), List.mem_of_getElem? (i := 2274) (by decide +kernel), List.mem_of_getElem? (i := 2275) (by decide +kernel)⟩
theorem lw_p93 : lw_okq (⟨"MatrixScriptsModel$Wholes", "room", "(I)V"⟩, 3) := ⟨⟨by decide +kernel, by decide +kernel⟩, List.mem_of_getElem? (i := 1964) (by decide +kernel), List.mem_of_getElem? (i := 2288) (by decide +kernel), List.mem_of_getElem? (i := 2289) (by decide +kernel)⟩
theorem lw_p94 : lw_okq (⟨"MatrixScriptsModel$Wholes", "finish", "(IZ)I"⟩, 3) := ⟨⟨by decide +kernel, by decide +kernel⟩, List.mem_of_getElem? (i := 1964) (by decide +kernel), List.mem_of_getElem? (i := 2296) (by decide +kernel), List.mem_of_getElem? (i := 2297) (by decide +kernel)⟩
theorem lw_p95 : lw_okq (⟨"MatrixScriptsModel$Wholes", "combine", "(IIZ)I"⟩, 3) := ⟨⟨by decide +kernel, by decide +kernel⟩, List.mem_of_getElem? (i := 1964) (by decide +kernel), List.mem_of_getElem? (i := 2312) (by decide +kernel), List.mem_of_getElem? (i := 2313) (by decide +kernel)⟩
def lw_privs_6 : List (MethodName × Nat) := [(⟨"MatrixScriptsModel", "fail", "(II)V"⟩, 37), (⟨"MatrixScriptsModel", "statement", "()V"⟩, 37), (⟨"MatrixScriptsModel", "isOwn", "()Z"⟩, 37), (⟨"MatrixScriptsModel", "isWord", "(Ljava/lang/String;II)Z"⟩, 37), (⟨"MatrixScriptsModel", "called", "(II)I"⟩, 37), (⟨"MatrixScriptsModel", "sign", "(I)V"⟩, 37), (⟨"MatrixScriptsModel", "isSign", "(I)Z"⟩, 37), (⟨"MatrixScriptsModel", "sum", "()I"⟩, 37), (⟨"MatrixScriptsModel", "term", "()I"⟩, 37), (⟨"MatrixScriptsModel", "factor", "()I"⟩, 37), (⟨"MatrixScriptsModel", "atom", "()I"⟩, 37), (⟨"MatrixScriptsModel", "step", "(JI)V"⟩, 37), (⟨"MatrixScriptsModel", "literal", "(II)I"⟩, 37), (⟨"MatrixScriptsModel$Wholes", "room", "(I)V"⟩, 3), (⟨"MatrixScriptsModel$Wholes", "finish", "(IZ)I"⟩, 3), (⟨"MatrixScriptsModel$Wholes", "combine", "(IIZ)I"⟩, 3)]
theorem lw_r6 : ∀ q ∈ lw_privs_6, lw_okq q := List.forall_mem_cons.mpr ⟨lw_p80, List.forall_mem_cons.mpr ⟨lw_p81, List.forall_mem_cons.mpr ⟨lw_p82, List.forall_mem_cons.mpr ⟨lw_p83, List.forall_mem_cons.mpr ⟨lw_p84, List.forall_mem_cons.mpr ⟨lw_p85, List.forall_mem_cons.mpr ⟨lw_p86, List.forall_mem_cons.mpr ⟨lw_p87, List.forall_mem_cons.mpr ⟨lw_p88, List.forall_mem_cons.mpr ⟨lw_p89, List.forall_mem_cons.mpr ⟨lw_p90, List.forall_mem_cons.mpr ⟨lw_p91, List.forall_mem_cons.mpr ⟨lw_p92, List.forall_mem_cons.mpr ⟨lw_p93, List.forall_mem_cons.mpr ⟨lw_p94, List.forall_mem_cons.mpr ⟨lw_p95, fun _ h => absurd h List.not_mem_nil⟩⟩⟩⟩⟩⟩⟩⟩⟩⟩⟩⟩⟩⟩⟩⟩
theorem lw_p96 : lw_okq (⟨"MatrixScriptsModel$Wholes", "sumSizes", "(IIZ)I"⟩, 3) := ⟨⟨by decide +kernel, by decide +kernel⟩, List.mem_of_getElem? (i := 1964) (by decide +kernel), List.mem_of_getElem? (i := 2316) (by decide +kernel), List.mem_of_getElem? (i := 2317) (by decide +kernel)⟩
theorem lw_p97 : lw_okq (⟨"MatrixScriptsModel$Wholes", "digit", "(II)I"⟩, 3) := ⟨⟨by decide +kernel, by decide +kernel⟩, List.mem_of_getElem? (i := 1964) (by decide +kernel), List.mem_of_getElem? (i := 2321) (by decide +kernel), List.mem_of_getElem? (i := 2322) (by decide +kernel)⟩
theorem lw_p98 : lw_okq (⟨"MatrixScriptsModel$Wholes", "orderSizes", "(II)I"⟩, 3) := ⟨⟨by decide +kernel, by decide +kernel⟩, List.mem_of_getElem? (i := 1964) (by decide +kernel), List.mem_of_getElem? (i := 2326) (by decide +kernel), List.mem_of_getElem? (i := 2327) (by decide +kernel)⟩
theorem lw_p99 : lw_okq (⟨"MatrixScriptsModel$Wholes", "lessSizes", "(IIZ)I"⟩, 3) := ⟨⟨by decide +kernel, by decide +kernel⟩, List.mem_of_getElem? (i := 1964) (by decide +kernel), List.mem_of_getElem? (i := 2330) (by decide +kernel), List.mem_of_getElem? (i := 2331) (by decide +kernel)⟩
theorem lw_p100 : lw_okq (⟨"MatrixScriptsModel", "fits", "(II)I"⟩, 37) := ⟨⟨by decide +kernel, by decide +kernel⟩, List.mem_of_getElem? (i := 1951) (by decide +kernel), List.mem_of_getElem? (i := 2346) (by decide +kernel), List.mem_of_getElem? (i := 2347) (by decide +kernel)⟩
theorem lw_p101 : lw_okq (⟨"MatrixScriptsModel", "limbsOf", "(I)I"⟩, 37) := ⟨⟨by decide +kernel, by decide +kernel⟩, List.mem_of_getElem? (i := 1951) (by decide +kernel), List.mem_of_getElem? (i := 2362) (by decide +kernel), List.mem_of_getElem? (i := 2363) (by decide +kernel)⟩
theorem lw_p102 : lw_okq (⟨"MatrixScriptsModel", "commonOf", "(I)I"⟩, 37) := ⟨⟨by decide +kernel, by decide +kernel⟩, List.mem_of_getElem? (i := 1951) (by decide +kernel), List.mem_of_getElem? (i := 2366) (by decide +kernel), List.mem_of_getElem? (i := 2367) (by decide +kernel)⟩
theorem lw_p103 : lw_okq (⟨"MatrixScriptsModel$Wholes", "leading", "(III)J"⟩, 3) := ⟨⟨by decide +kernel, by decide +kernel⟩, List.mem_of_getElem? (i := 1964) (by decide +kernel), List.mem_of_getElem? (i := 2382) (by decide +kernel), List.mem_of_getElem? (i := 2383) (by decide +kernel)⟩
theorem lw_p104 : lw_okq (⟨"MatrixScriptsModel$Wholes", "takes", "(IIII)Z"⟩, 3) := ⟨⟨by decide +kernel, by decide +kernel⟩, List.mem_of_getElem? (i := 1964) (by decide +kernel), List.mem_of_getElem? (i := 2390) (by decide +kernel), List.mem_of_getElem? (i := 2391) (by decide +kernel)⟩
theorem lw_p105 : lw_okq (⟨"MatrixScriptsModel", "timesCommon", "(III)I"⟩, 37) := ⟨⟨by decide +kernel, by decide +kernel⟩, List.mem_of_getElem? (i := 1951) (by decide +kernel), List.mem_of_getElem? (i := 2425) (by decide +kernel), List.mem_of_getElem? (i := 2426) (by decide +kernel)⟩
theorem lw_p106 : lw_okq (⟨"MatrixScriptsModel", "hold", "(III)V"⟩, 37) := ⟨⟨by decide +kernel, by decide +kernel⟩, List.mem_of_getElem? (i := 1951) (by decide +kernel), List.mem_of_getElem? (i := 2434) (by decide +kernel), List.mem_of_getElem? (i := 2435) (by decide +kernel)⟩
theorem lw_p107 : lw_okq (⟨"MatrixScriptsModel", "open", "(I)V"⟩, 37) := ⟨⟨by decide +kernel, by decide +kernel⟩, List.mem_of_getElem? (i := 1951) (by decide +kernel), List.mem_of_getElem? (i := 2439) (by decide +kernel), List.mem_of_getElem? (i := 2440) (by decide +kernel)⟩
theorem lw_p108 : lw_okq (⟨"MatrixScriptsModel", "close", "(I)V"⟩, 37) := ⟨⟨by decide +kernel, by decide +kernel⟩, List.mem_of_getElem? (i := 1951) (by decide +kernel), List.mem_of_getElem? (i := 2443) (by decide +kernel), List.mem_of_getElem? (i := 2444) (by decide +kernel)⟩
theorem lw_p109 : lw_okq (⟨"MatrixScriptsModel", "together", "()I"⟩, 37) := ⟨⟨by decide +kernel, by decide +kernel⟩, List.mem_of_getElem? (i := 1951) (by decide +kernel), List.mem_of_getElem? (i := 2447) (by decide +kernel), List.mem_of_getElem? (i := 2448) (by decide +kernel)⟩
theorem lw_p110 : lw_okq (⟨"MatrixScriptsModel", "part", "(I)V"⟩, 37) := ⟨⟨by decide +kernel, by decide +kernel⟩, List.mem_of_getElem? (i := 1951) (by decide +kernel), List.mem_of_getElem? (i := 2451) (by decide +kernel), List.mem_of_getElem? (i := 2452) (by decide +kernel)⟩
theorem lw_p111 : lw_okq (⟨"MatrixScriptsModel", "down", "(IIIIIII)I"⟩, 37) := ⟨⟨by decide +kernel, by decide +kernel⟩, List.mem_of_getElem? (i := 1951) (by decide +kernel), List.mem_of_getElem? (i := 2465) (by decide +kernel), List.mem_of_getElem? (i := 2466) (by decide +kernel)⟩
def lw_privs_7 : List (MethodName × Nat) := [(⟨"MatrixScriptsModel$Wholes", "sumSizes", "(IIZ)I"⟩, 3), (⟨"MatrixScriptsModel$Wholes", "digit", "(II)I"⟩, 3), (⟨"MatrixScriptsModel$Wholes", "orderSizes", "(II)I"⟩, 3), (⟨"MatrixScriptsModel$Wholes", "lessSizes", "(IIZ)I"⟩, 3), (⟨"MatrixScriptsModel", "fits", "(II)I"⟩, 37), (⟨"MatrixScriptsModel", "limbsOf", "(I)I"⟩, 37), (⟨"MatrixScriptsModel", "commonOf", "(I)I"⟩, 37), (⟨"MatrixScriptsModel$Wholes", "leading", "(III)J"⟩, 3), (⟨"MatrixScriptsModel$Wholes", "takes", "(IIII)Z"⟩, 3), (⟨"MatrixScriptsModel", "timesCommon", "(III)I"⟩, 37), (⟨"MatrixScriptsModel", "hold", "(III)V"⟩, 37), (⟨"MatrixScriptsModel", "open", "(I)V"⟩, 37), (⟨"MatrixScriptsModel", "close", "(I)V"⟩, 37), (⟨"MatrixScriptsModel", "together", "()I"⟩, 37), (⟨"MatrixScriptsModel", "part", "(I)V"⟩, 37), (⟨"MatrixScriptsModel", "down", "(IIIIIII)I"⟩, 37)]
theorem lw_r7 : ∀ q ∈ lw_privs_7, lw_okq q := List.forall_mem_cons.mpr ⟨lw_p96, List.forall_mem_cons.mpr ⟨lw_p97, List.forall_mem_cons.mpr ⟨lw_p98, List.forall_mem_cons.mpr ⟨lw_p99, List.forall_mem_cons.mpr ⟨lw_p100, List.forall_mem_cons.mpr ⟨lw_p101, List.forall_mem_cons.mpr ⟨lw_p102, List.forall_mem_cons.mpr ⟨lw_p103, List.forall_mem_cons.mpr ⟨lw_p104, List.forall_mem_cons.mpr ⟨lw_p105, List.forall_mem_cons.mpr ⟨lw_p106, List.forall_mem_cons.mpr ⟨lw_p107, List.forall_mem_cons.mpr ⟨lw_p108, List.forall_mem_cons.mpr ⟨lw_p109, List.forall_mem_cons.mpr ⟨lw_p110, List.forall_mem_cons.mpr ⟨lw_p111, fun _ h => absurd h List.not_mem_nil⟩⟩⟩⟩⟩⟩⟩⟩⟩⟩⟩⟩⟩⟩⟩⟩
theorem lw_p112 : lw_okq (⟨"MatrixScriptsModel", "call", "(II)I"⟩, 37) := ⟨⟨by decide +kernel, by decide +kernel⟩, List.mem_of_getElem? (i := 1951) (by decide +kernel), List.mem_of_getElem? (i := 2475) (by decide +kernel), List.mem_of_getElem? (i := 2476) (by decide +kernel)⟩
theorem lw_p113 : lw_okq (⟨"MatrixScriptsModel", "small", "(II)J"⟩, 37) := ⟨⟨by decide +kernel, by decide +kernel⟩, List.mem_of_getElem? (i := 1951) (by decide +kernel), List.mem_of_getElem? (i := 2479) (by decide +kernel), List.mem_of_getElem? (i := 2480) (by decide +kernel)⟩
theorem lw_p114 : lw_okq (⟨"MatrixScriptsModel", "done", "(IIIIJ)I"⟩, 37) := ⟨⟨by decide +kernel, by decide +kernel⟩, List.mem_of_getElem? (i := 1951) (by decide +kernel), List.mem_of_getElem? (i := 2485) (by decide +kernel), List.mem_of_getElem? (i := 2486) (by decide +kernel)⟩
theorem lw_p115 : lw_okq (⟨"MatrixScriptsModel", "wants", "(IIII)V"⟩, 37) := ⟨⟨by decide +kernel, by decide +kernel⟩, List.mem_of_getElem? (i := 1951) (by decide +kernel), List.mem_of_getElem? (i := 2489) (by decide +kernel), List.mem_of_getElem? (i := 2490) (by decide +kernel)⟩
theorem lw_p116 : lw_okq (⟨"MatrixScriptsModel", "zeros", "(II)I"⟩, 37) := ⟨⟨by decide +kernel, by decide +kernel⟩, List.mem_of_getElem? (i := 1951) (by decide +kernel), List.mem_of_getElem? (i := 2504) (by decide +kernel), List.mem_of_getElem? (i := 2505) (by decide +kernel)⟩
theorem lw_p117 : lw_okq (⟨"MatrixScriptsModel", "square", "(II)V"⟩, 37) := ⟨⟨by decide +kernel, by decide +kernel⟩, List.mem_of_getElem? (i := 1951) (by decide +kernel), List.mem_of_getElem? (i := 2515) (by decide +kernel), List.mem_of_getElem? (i := 2516) (by decide +kernel)⟩
theorem lw_p118 : lw_okq (⟨"MatrixScriptsModel$Fractions", "reduce", "(III)V"⟩, 7) := ⟨⟨by decide +kernel, by decide +kernel⟩, List.mem_of_getElem? (i := 1958) (by decide +kernel), List.mem_of_getElem? (i := 2531) (by decide +kernel), List.mem_of_getElem? (i := 2532) (by decide +kernel)⟩
theorem lw_p119 : lw_okq (⟨"MatrixScriptsModel$Fractions", "settle", "(III)V"⟩, 7) := ⟨⟨by decide +kernel, by decide +kernel⟩, List.mem_of_getElem? (i := 1958) (by decide +kernel), List.mem_of_getElem? (i := 2544) (by decide +kernel), List.mem_of_getElem? (i := 2545) (by decide +kernel)⟩
theorem lw_p120 : lw_okq (⟨"MatrixScriptsModel", "one", "()I"⟩, 37) := ⟨⟨by decide +kernel, by decide +kernel⟩, List.mem_of_getElem? (i := 1951) (by decide +kernel), List.mem_of_getElem? (i := 2554) (by decide +kernel), List.mem_of_getElem? (i := 2555) (by decide +kernel)⟩
theorem lw_p121 : lw_okq (⟨"MatrixScriptsModel", "prime", "()J"⟩, 37) := ⟨⟨by decide +kernel, by decide +kernel⟩, List.mem_of_getElem? (i := 1951) (by decide +kernel), List.mem_of_getElem? (i := 2558) (by decide +kernel), List.mem_of_getElem? (i := 2559) (by decide +kernel)⟩
theorem lw_p122 : lw_okq (⟨"MatrixScriptsModel", "cleared", "(IIIIJ)I"⟩, 37) := ⟨⟨by decide +kernel, by decide +kernel⟩, List.mem_of_getElem? (i := 1951) (by decide +kernel), List.mem_of_getElem? (i := 2589) (by decide +kernel), List.mem_of_getElem? (i := 2590) (by decide +kernel)⟩
theorem lw_p123 : lw_okq (⟨"MatrixScriptsModel", "weight", "(IIZ)J"⟩, 37) := ⟨⟨by decide +kernel, by decide +kernel⟩, List.mem_of_getElem? (i := 1951) (by decide +kernel), List.mem_of_getElem? (i := 2593) (by decide +kernel), List.mem_of_getElem? (i := 2594) (by decide +kernel)⟩
theorem lw_p124 : lw_okq (⟨"MatrixScriptsModel", "multiple", "(III)I"⟩, 37) := ⟨⟨by decide +kernel, by decide +kernel⟩, List.mem_of_getElem? (i := 1951) (by decide +kernel), List.mem_of_getElem? (i := 2597) (by decide +kernel), List.mem_of_getElem? (i := 2598) (by decide +kernel)⟩
theorem lw_p125 : lw_okq (⟨"MatrixScriptsModel", "longest", "(III)I"⟩, 37) := ⟨⟨by decide +kernel, by decide +kernel⟩, List.mem_of_getElem? (i := 1951) (by decide +kernel), List.mem_of_getElem? (i := 2601) (by decide +kernel), List.mem_of_getElem? (i := 2602) (by decide +kernel)⟩
theorem lw_p126 : lw_okq (⟨"MatrixScriptsModel", "clearedAt", "(IIIIJ)I"⟩, 37) := ⟨⟨by decide +kernel, by decide +kernel⟩, List.mem_of_getElem? (i := 1951) (by decide +kernel), List.mem_of_getElem? (i := 2611) (by decide +kernel), List.mem_of_getElem? (i := 2612) (by decide +kernel)⟩
theorem lw_p127 : lw_okq (⟨"MatrixScriptsModel$Fractions", "cleared", "(IIIII)I"⟩, 7) := ⟨⟨by decide +kernel, by decide +kernel⟩, List.mem_of_getElem? (i := 1958) (by decide +kernel), List.mem_of_getElem? (i := 2659) (by decide +kernel), List.mem_of_getElem? (i := 2660) (by decide +kernel)⟩
def lw_privs_8 : List (MethodName × Nat) := [(⟨"MatrixScriptsModel", "call", "(II)I"⟩, 37), (⟨"MatrixScriptsModel", "small", "(II)J"⟩, 37), (⟨"MatrixScriptsModel", "done", "(IIIIJ)I"⟩, 37), (⟨"MatrixScriptsModel", "wants", "(IIII)V"⟩, 37), (⟨"MatrixScriptsModel", "zeros", "(II)I"⟩, 37), (⟨"MatrixScriptsModel", "square", "(II)V"⟩, 37), (⟨"MatrixScriptsModel$Fractions", "reduce", "(III)V"⟩, 7), (⟨"MatrixScriptsModel$Fractions", "settle", "(III)V"⟩, 7), (⟨"MatrixScriptsModel", "one", "()I"⟩, 37), (⟨"MatrixScriptsModel", "prime", "()J"⟩, 37), (⟨"MatrixScriptsModel", "cleared", "(IIIIJ)I"⟩, 37), (⟨"MatrixScriptsModel", "weight", "(IIZ)J"⟩, 37), (⟨"MatrixScriptsModel", "multiple", "(III)I"⟩, 37), (⟨"MatrixScriptsModel", "longest", "(III)I"⟩, 37), (⟨"MatrixScriptsModel", "clearedAt", "(IIIIJ)I"⟩, 37), (⟨"MatrixScriptsModel$Fractions", "cleared", "(IIIII)I"⟩, 7)]
theorem lw_r8 : ∀ q ∈ lw_privs_8, lw_okq q := List.forall_mem_cons.mpr ⟨lw_p112, List.forall_mem_cons.mpr ⟨lw_p113, List.forall_mem_cons.mpr ⟨lw_p114, List.forall_mem_cons.mpr ⟨lw_p115, List.forall_mem_cons.mpr ⟨lw_p116, List.forall_mem_cons.mpr ⟨lw_p117, List.forall_mem_cons.mpr ⟨lw_p118, List.forall_mem_cons.mpr ⟨lw_p119, List.forall_mem_cons.mpr ⟨lw_p120, List.forall_mem_cons.mpr ⟨lw_p121, List.forall_mem_cons.mpr ⟨lw_p122, List.forall_mem_cons.mpr ⟨lw_p123, List.forall_mem_cons.mpr ⟨lw_p124, List.forall_mem_cons.mpr ⟨lw_p125, List.forall_mem_cons.mpr ⟨lw_p126, List.forall_mem_cons.mpr ⟨lw_p127, fun _ h => absurd h List.not_mem_nil⟩⟩⟩⟩⟩⟩⟩⟩⟩⟩⟩⟩⟩⟩⟩⟩
theorem lw_p128 : lw_okq (⟨"MatrixScriptsModel$Forms", "pivotOf", "(I)I"⟩, 11) := ⟨⟨by decide +kernel, by decide +kernel⟩, List.mem_of_getElem? (i := 2021) (by decide +kernel), List.mem_of_getElem? (i := 2673) (by decide +kernel), List.mem_of_getElem? (i := 2674) (by decide +kernel)⟩
theorem lw_p129 : lw_okq (⟨"MatrixScriptsModel", "formed", "(IIIJ)I"⟩, 37) := ⟨⟨by decide +kernel, by decide +kernel⟩, List.mem_of_getElem? (i := 1951) (by decide +kernel), List.mem_of_getElem? (i := 2696) (by decide +kernel), List.mem_of_getElem? (i := 2697) (by decide +kernel)⟩
theorem lw_p130 : lw_okq (⟨"MatrixScriptsModel", "weightOfAll", "(I)J"⟩, 37) := ⟨⟨by decide +kernel, by decide +kernel⟩, List.mem_of_getElem? (i := 1951) (by decide +kernel), List.mem_of_getElem? (i := 2700) (by decide +kernel), List.mem_of_getElem? (i := 2701) (by decide +kernel)⟩
theorem lw_p131 : lw_okq (⟨"MatrixScriptsModel$Forms", "whole", "(III)V"⟩, 11) := ⟨⟨by decide +kernel, by decide +kernel⟩, List.mem_of_getElem? (i := 2021) (by decide +kernel), List.mem_of_getElem? (i := 2718) (by decide +kernel), List.mem_of_getElem? (i := 2719) (by decide +kernel)⟩
theorem lw_p132 : lw_okq (⟨"MatrixScriptsModel$Forms", "triangle", "(III)I"⟩, 11) := ⟨⟨by decide +kernel, by decide +kernel⟩, List.mem_of_getElem? (i := 2021) (by decide +kernel), List.mem_of_getElem? (i := 2722) (by decide +kernel), List.mem_of_getElem? (i := 2723) (by decide +kernel)⟩
theorem lw_p133 : lw_okq (⟨"MatrixScriptsModel$Forms", "common", "(II)I"⟩, 11) := ⟨⟨by decide +kernel, by decide +kernel⟩, List.mem_of_getElem? (i := 2021) (by decide +kernel), List.mem_of_getElem? (i := 2726) (by decide +kernel), List.mem_of_getElem? (i := 2727) (by decide +kernel)⟩
theorem lw_p134 : lw_okq (⟨"MatrixScriptsModel$Forms", "modulo", "(II)I"⟩, 11) := ⟨⟨by decide +kernel, by decide +kernel⟩, List.mem_of_getElem? (i := 2021) (by decide +kernel), List.mem_of_getElem? (i := 2736) (by decide +kernel), List.mem_of_getElem? (i := 2737) (by decide +kernel)⟩
theorem lw_p135 : lw_okq (⟨"MatrixScriptsModel$Forms", "isDiagonal", "(I)Z"⟩, 11) := ⟨⟨by decide +kernel, by decide +kernel⟩, List.mem_of_getElem? (i := 2021) (by decide +kernel), List.mem_of_getElem? (i := 2760) (by decide +kernel), List.mem_of_getElem? (i := 2761) (by decide +kernel)⟩
theorem lw_p136 : lw_okq (⟨"MatrixScriptsModel$Forms", "after", "(IIII)I"⟩, 11) := ⟨⟨by decide +kernel, by decide +kernel⟩, List.mem_of_getElem? (i := 2021) (by decide +kernel), List.mem_of_getElem? (i := 2774) (by decide +kernel), List.mem_of_getElem? (i := 2775) (by decide +kernel)⟩
theorem lw_p137 : lw_okq (⟨"MatrixScriptsModel$Forms", "own", "(II)I"⟩, 11) := ⟨⟨by decide +kernel, by decide +kernel⟩, List.mem_of_getElem? (i := 2021) (by decide +kernel), List.mem_of_getElem? (i := 2782) (by decide +kernel), List.mem_of_getElem? (i := 2783) (by decide +kernel)⟩
theorem lw_p138 : lw_okq (⟨"MatrixScriptsModel$Forms", "powers", "(III)I"⟩, 11) := ⟨⟨by decide +kernel, by decide +kernel⟩, List.mem_of_getElem? (i := 2021) (by decide +kernel), List.mem_of_getElem? (i := 2786) (by decide +kernel), List.mem_of_getElem? (i := 2787) (by decide +kernel)⟩
theorem lw_p139 : lw_okq (⟨"MatrixScriptsModel$Forms", "beyond", "(II)I"⟩, 11) := ⟨⟨by decide +kernel, by decide +kernel⟩, List.mem_of_getElem? (i := 2021) (by decide +kernel), List.mem_of_getElem? (i := 2797) (by decide +kernel), List.mem_of_getElem? (i := 2798) (by decide +kernel)⟩
theorem lw_p140 : lw_okq (⟨"MatrixScriptsModel$Forms", "orthogonal", "(II)I"⟩, 11) := ⟨⟨by decide +kernel, by decide +kernel⟩, List.mem_of_getElem? (i := 2021) (by decide +kernel), List.mem_of_getElem? (i := 2805) (by decide +kernel), List.mem_of_getElem? (i := 2806) (by decide +kernel)⟩
theorem lw_p141 : lw_okq (⟨"MatrixScriptsModel$Forms", "factor", "(IIII)V"⟩, 11) := ⟨⟨by decide +kernel, by decide +kernel⟩, List.mem_of_getElem? (i := 2021) (by decide +kernel), List.mem_of_getElem? (i := 2809) (by decide +kernel), List.mem_of_getElem? (i := 2810) (by decide +kernel)⟩
theorem lw_p142 : lw_okq (⟨"MatrixScriptsModel$Forms", "goes", "(III)Z"⟩, 11) := ⟨⟨by decide +kernel, by decide +kernel⟩, List.mem_of_getElem? (i := 2021) (by decide +kernel), List.mem_of_getElem? (i := 2820) (by decide +kernel), List.mem_of_getElem? (i := 2821) (by decide +kernel)⟩
theorem lw_p143 : lw_okq (⟨"MatrixScriptsModel", "find", "(II)I"⟩, 37) := ⟨⟨by decide +kernel, by decide +kernel⟩, List.mem_of_getElem? (i := 1951) (by decide +kernel), List.mem_of_getElem? (i := 2831) (by decide +kernel), List.mem_of_getElem? (i := 2832) (by decide +kernel)⟩
def lw_privs_9 : List (MethodName × Nat) := [(⟨"MatrixScriptsModel$Forms", "pivotOf", "(I)I"⟩, 11), (⟨"MatrixScriptsModel", "formed", "(IIIJ)I"⟩, 37), (⟨"MatrixScriptsModel", "weightOfAll", "(I)J"⟩, 37), (⟨"MatrixScriptsModel$Forms", "whole", "(III)V"⟩, 11), (⟨"MatrixScriptsModel$Forms", "triangle", "(III)I"⟩, 11), (⟨"MatrixScriptsModel$Forms", "common", "(II)I"⟩, 11), (⟨"MatrixScriptsModel$Forms", "modulo", "(II)I"⟩, 11), (⟨"MatrixScriptsModel$Forms", "isDiagonal", "(I)Z"⟩, 11), (⟨"MatrixScriptsModel$Forms", "after", "(IIII)I"⟩, 11), (⟨"MatrixScriptsModel$Forms", "own", "(II)I"⟩, 11), (⟨"MatrixScriptsModel$Forms", "powers", "(III)I"⟩, 11), (⟨"MatrixScriptsModel$Forms", "beyond", "(II)I"⟩, 11), (⟨"MatrixScriptsModel$Forms", "orthogonal", "(II)I"⟩, 11), (⟨"MatrixScriptsModel$Forms", "factor", "(IIII)V"⟩, 11), (⟨"MatrixScriptsModel$Forms", "goes", "(III)Z"⟩, 11), (⟨"MatrixScriptsModel", "find", "(II)I"⟩, 37)]
theorem lw_r9 : ∀ q ∈ lw_privs_9, lw_okq q := List.forall_mem_cons.mpr ⟨lw_p128, List.forall_mem_cons.mpr ⟨lw_p129, List.forall_mem_cons.mpr ⟨lw_p130, List.forall_mem_cons.mpr ⟨lw_p131, List.forall_mem_cons.mpr ⟨lw_p132, List.forall_mem_cons.mpr ⟨lw_p133, List.forall_mem_cons.mpr ⟨lw_p134, List.forall_mem_cons.mpr ⟨lw_p135, List.forall_mem_cons.mpr ⟨lw_p136, List.forall_mem_cons.mpr ⟨lw_p137, List.forall_mem_cons.mpr ⟨lw_p138, List.forall_mem_cons.mpr ⟨lw_p139, List.forall_mem_cons.mpr ⟨lw_p140, List.forall_mem_cons.mpr ⟨lw_p141, List.forall_mem_cons.mpr ⟨lw_p142, List.forall_mem_cons.mpr ⟨lw_p143, fun _ h => absurd h List.not_mem_nil⟩⟩⟩⟩⟩⟩⟩⟩⟩⟩⟩⟩⟩⟩⟩⟩
theorem lw_p144 : lw_okq (⟨"MatrixScriptsModel", "loaded", "(I)I"⟩, 37) := ⟨⟨by decide +kernel, by decide +kernel⟩, List.mem_of_getElem? (i := 1951) (by decide +kernel), List.mem_of_getElem? (i := 2835) (by decide +kernel), List.mem_of_getElem? (i := 2836) (by decide +kernel)⟩
theorem lw_p145 : lw_okq (⟨"MatrixScriptsModel", "power", "(IIIIZII)I"⟩, 37) := ⟨⟨by decide +kernel, by decide +kernel⟩, List.mem_of_getElem? (i := 1951) (by decide +kernel), List.mem_of_getElem? (i := 2848) (by decide +kernel), List.mem_of_getElem? (i := 2849) (by decide +kernel)⟩
theorem lw_p146 : lw_okq (⟨"MatrixScriptsModel", "settled", "(IIIII)I"⟩, 37) := ⟨⟨by decide +kernel, by decide +kernel⟩, List.mem_of_getElem? (i := 1951) (by decide +kernel), List.mem_of_getElem? (i := 2853) (by decide +kernel), List.mem_of_getElem? (i := 2854) (by decide +kernel)⟩
theorem lw_p147 : lw_okq (⟨"MatrixScriptsModel", "give", "(III)V"⟩, 37) := ⟨⟨by decide +kernel, by decide +kernel⟩, List.mem_of_getElem? (i := 1951) (by decide +kernel), List.mem_of_getElem? (i := 2871) (by decide +kernel), List.mem_of_getElem? (i := 2872) (by decide +kernel)⟩
theorem lw_p148 : lw_okq (⟨"MatrixScriptsModel", "show", "(II)V"⟩, 37) := ⟨⟨by decide +kernel, by decide +kernel⟩, List.mem_of_getElem? (i := 1951) (by decide +kernel), List.mem_of_getElem? (i := 2884) (by decide +kernel), List.mem_of_getElem? (i := 2885) (by decide +kernel)⟩
theorem lw_p149 : lw_okq (⟨"MatrixScriptsModel", "widthOf", "(I)I"⟩, 37) := ⟨⟨by decide +kernel, by decide +kernel⟩, List.mem_of_getElem? (i := 1951) (by decide +kernel), List.mem_of_getElem? (i := 2889) (by decide +kernel), List.mem_of_getElem? (i := 2890) (by decide +kernel)⟩
theorem lw_p150 : lw_okq (⟨"MatrixScriptsModel", "figures", "(I[I)I"⟩, 37) := ⟨⟨by decide +kernel, by decide +kernel⟩, List.mem_of_getElem? (i := 1951) (by decide +kernel), List.mem_of_getElem? (i := 2893) (by decide +kernel), List.mem_of_getElem? (i := 2894) (by decide +kernel)⟩
theorem lw_p151 : lw_okq (⟨"MatrixScriptsModel", "say", "(I)V"⟩, 37) := ⟨⟨by decide +kernel, by decide +kernel⟩, List.mem_of_getElem? (i := 1951) (by decide +kernel), List.mem_of_getElem? (i := 2903) (by decide +kernel), List.mem_of_getElem? (i := 2904) (by decide +kernel)⟩
theorem lw_p152 : lw_okq (⟨"MatrixScriptsModel", "sayNumber", "(I)V"⟩, 37) := ⟨⟨by decide +kernel, by decide +kernel⟩, List.mem_of_getElem? (i := 1951) (by decide +kernel), List.mem_of_getElem? (i := 2909) (by decide +kernel), List.mem_of_getElem? (i := 2910) (by decide +kernel)⟩
def lw_privs_10 : List (MethodName × Nat) := [(⟨"MatrixScriptsModel", "loaded", "(I)I"⟩, 37), (⟨"MatrixScriptsModel", "power", "(IIIIZII)I"⟩, 37), (⟨"MatrixScriptsModel", "settled", "(IIIII)I"⟩, 37), (⟨"MatrixScriptsModel", "give", "(III)V"⟩, 37), (⟨"MatrixScriptsModel", "show", "(II)V"⟩, 37), (⟨"MatrixScriptsModel", "widthOf", "(I)I"⟩, 37), (⟨"MatrixScriptsModel", "figures", "(I[I)I"⟩, 37), (⟨"MatrixScriptsModel", "say", "(I)V"⟩, 37), (⟨"MatrixScriptsModel", "sayNumber", "(I)V"⟩, 37)]
theorem lw_r10 : ∀ q ∈ lw_privs_10, lw_okq q := List.forall_mem_cons.mpr ⟨lw_p144, List.forall_mem_cons.mpr ⟨lw_p145, List.forall_mem_cons.mpr ⟨lw_p146, List.forall_mem_cons.mpr ⟨lw_p147, List.forall_mem_cons.mpr ⟨lw_p148, List.forall_mem_cons.mpr ⟨lw_p149, List.forall_mem_cons.mpr ⟨lw_p150, List.forall_mem_cons.mpr ⟨lw_p151, List.forall_mem_cons.mpr ⟨lw_p152, fun _ h => absurd h List.not_mem_nil⟩⟩⟩⟩⟩⟩⟩⟩⟩
def lw_privs : List (MethodName × Nat) := lw_privs_1 ++ (lw_privs_2 ++ (lw_privs_3 ++ (lw_privs_4 ++ (lw_privs_5 ++ (lw_privs_6 ++ (lw_privs_7 ++ (lw_privs_8 ++ (lw_privs_9 ++ (lw_privs_10)))))))))
def lw_tbl : List Cond := k2_sels lw_privs ++ tables_1
theorem lw_privs_ok : ∀ q ∈ lw_privs, lw_okq q := by
  show ∀ q ∈ lw_privs_1 ++ (lw_privs_2 ++ (lw_privs_3 ++ (lw_privs_4 ++ (lw_privs_5 ++ (lw_privs_6 ++ (lw_privs_7 ++ (lw_privs_8 ++ (lw_privs_9 ++ (lw_privs_10))))))))), lw_okq q
  exact List.forall_mem_append.mpr ⟨lw_r1, List.forall_mem_append.mpr ⟨lw_r2, List.forall_mem_append.mpr ⟨lw_r3, List.forall_mem_append.mpr ⟨lw_r4, List.forall_mem_append.mpr ⟨lw_r5, List.forall_mem_append.mpr ⟨lw_r6, List.forall_mem_append.mpr ⟨lw_r7, List.forall_mem_append.mpr ⟨lw_r8, List.forall_mem_append.mpr ⟨lw_r9, lw_r10⟩⟩⟩⟩⟩⟩⟩⟩⟩
-- ===== end of PART A; then your names; then what follows =====
end
section
/-! WORLDS WITH A BLOCK THAT NOBODY LOOKS INTO: the list of cells is 'ACT ++ B', ACT written out, B any list. -/
section Pm
theorem pm_mem {D : va_G} {cl : List vw_C} {ws : va_W} {H : Heap} : va_P D cl ws H ↔ ∀ q ∈ ws, va_at D cl q H := by
  constructor
  · intro h q hq
    obtain ⟨k, hk⟩ := List.mem_iff_getElem?.mp hq
    exact h k q hk
  · intro h k q hk
    exact h q (List.mem_of_getElem? hk)
theorem pm_P {D : va_G} {cl : List vw_C} {ws ws' : va_W} {H : Heap} (h : va_P D cl ws H) (hp : ∀ x ∈ ws', x ∈ ws) : va_P D cl ws' H := pm_mem.mpr fun q hq => pm_mem.mp h q (hp q hq)
theorem pm_nd {A : Nat → Prop} {ws : va_W} (h : va_D A ws) : (ws.map (·.1)).Nodup := by
  rw [List.nodup_iff_pairwise_ne, List.pairwise_iff_getElem]
  intro i j hi hj hij e
  rw [List.length_map] at hi hj
  rw [List.getElem_map, List.getElem_map] at e
  have := h.1 i j _ _ (List.getElem?_eq_getElem hi) (List.getElem?_eq_getElem hj) e
  omega
theorem pm_of {A : Nat → Prop} {ws : va_W} (hn : (ws.map (·.1)).Nodup) (hA : ∀ q ∈ ws, A q.1) : va_D A ws := by
  refine ⟨fun i j p q hi hj e => ?_, fun k q hk => hA q (List.mem_of_getElem? hk)⟩
  have li : i < ws.length := (List.getElem?_eq_some_iff.mp hi).1
  have lj : j < ws.length := (List.getElem?_eq_some_iff.mp hj).1
  rw [List.nodup_iff_pairwise_ne, List.pairwise_iff_getElem] at hn
  have ei : ws[i] = p := (List.getElem?_eq_some_iff.mp hi).2
  have ej : ws[j] = q := (List.getElem?_eq_some_iff.mp hj).2
  rcases Nat.lt_trichotomy i j with h | h | h
  · exact absurd (by rw [List.getElem_map, List.getElem_map, ei, ej]; exact e) (hn i j (by simpa using li) (by simpa using lj) h)
  · exact h
  · exact absurd (by rw [List.getElem_map, List.getElem_map, ei, ej]; exact e.symm) (hn j i (by simpa using lj) (by simpa using li) h)
theorem pm_DA {A : Nat → Prop} {ws : va_W} (h : va_D A ws) : ∀ q ∈ ws, A q.1 := fun q hq => by
  obtain ⟨k, hk⟩ := List.mem_iff_getElem?.mp hq
  exact h.2 k q hk
theorem pm_D {A : Nat → Prop} {ws ws' : va_W} (h : va_D A ws) (hp : ws'.Perm ws) : va_D A ws' :=
  pm_of ((hp.map (·.1)).nodup_iff.mpr (pm_nd h)) (fun q hq => pm_DA h q (hp.mem_iff.mp hq))
theorem pm_Dl {A : Nat → Prop} {a b : va_W} (h : va_D A (a ++ b)) : va_D A a := by
  refine pm_of ?_ (fun q hq => pm_DA h q (List.mem_append_left _ hq))
  have := pm_nd h
  rw [List.map_append, List.nodup_append] at this
  exact this.1
theorem pm_Dr {A : Nat → Prop} {a b : va_W} (h : va_D A (a ++ b)) : va_D A b := by
  refine pm_of ?_ (fun q hq => pm_DA h q (List.mem_append_right _ hq))
  have := pm_nd h
  rw [List.map_append, List.nodup_append] at this
  exact this.2.1
theorem pm_Dx {A : Nat → Prop} {a b : va_W} (h : va_D A (a ++ b)) {x y : Nat × va_E} (hx : x ∈ a) (hy : y ∈ b) : x.1 ≠ y.1 := by
  have := pm_nd h
  rw [List.map_append, List.nodup_append] at this
  exact this.2.2 _ (List.mem_map_of_mem hx) _ (List.mem_map_of_mem hy)
theorem pm_app {A : Nat → Prop} {a b : va_W} (ha : va_D A a) (hb : va_D A b) (hx : ∀ x ∈ a, ∀ y ∈ b, x.1 ≠ y.1) : va_D A (a ++ b) :=
  ha.app hb (fun _ _ p q h1 h2 => hx p (List.mem_of_getElem? h1) q (List.mem_of_getElem? h2))
/-- the written part chosen anew, by places; what isn't chosen goes -/
theorem pm_subP {D : va_G} {cl : List vw_C} {a a' B : va_W} {H : Heap} (h : va_P D cl (a ++ B) H) (is : List Nat) (hs : is.map (fun i => a[i]?) = a'.map some) : va_P D cl (a' ++ B) H := by
  refine pm_P h (fun x hx => ?_)
  rcases List.mem_append.mp hx with h1 | h1
  · refine List.mem_append_left _ ?_
    have h2 : some x ∈ a'.map some := List.mem_map_of_mem h1
    rw [← hs] at h2
    obtain ⟨i, -, hi⟩ := List.mem_map.mp h2
    exact List.mem_of_getElem? hi
  · exact List.mem_append_right _ h1
theorem pm_subD {A : Nat → Prop} {a a' B : va_W} (h : va_D A (a ++ B)) (is : List Nat) (hn : va_nd is = true) (hs : is.map (fun i => a[i]?) = a'.map some) : va_D A (a' ++ B) := by
  refine pm_app ((pm_Dl h).sub is hn hs) (pm_Dr h) (fun x hx y hy => ?_)
  have h2 : some x ∈ a'.map some := List.mem_map_of_mem hx
  rw [← hs] at h2
  obtain ⟨i, -, hi⟩ := List.mem_map.mp h2
  exact pm_Dx h (List.mem_of_getElem? hi) hy
/-- the callee's cells stand in front: what came back beside all the rest -/
theorem pm_join {A0 : Nat → Prop} {D : va_G} {cl : List vw_C} {wc wr w1 : va_W} {H H1 : Heap} (hP : va_P D cl (wc ++ wr) H) (hD : va_D A0 (wc ++ wr)) (hk : ∀ q : Nat, q < H.size → ¬ va_A wc H.size q → H1[q]? = H[q]?) (hF : ∀ q, va_A wc H.size q → A0 q)
    (hP1 : va_P D cl w1 H1) (hD1 : va_D (va_A wc H.size) w1) : va_P D cl (w1 ++ wr) H1 ∧ va_D A0 (w1 ++ wr) := by
  have hn : ∀ y ∈ wr, ¬ va_A wc H.size y.1 := by
    intro y hy h
    rcases h with ⟨k, e, hk'⟩ | h
    · exact pm_Dx hD (List.mem_of_getElem? hk') hy rfl
    · exact absurd (pm_mem.mp hP y (List.mem_append_right _ hy)).lt (Nat.not_lt.mpr h)
  refine ⟨pm_mem.mpr fun q hq => ?_, pm_app (hD1.weaken fun k q hq h => hF _ h) (pm_Dr hD) (fun x hx y hy e => ?_)⟩
  · rcases List.mem_append.mp hq with h | h
    · exact pm_mem.mp hP1 q h
    · have h0 := pm_mem.mp hP q (List.mem_append_right _ h)
      exact h0.kept (hk _ h0.lt (hn q h))
  · exact hn y hy (e ▸ pm_DA hD1 x hx)
theorem pm_free {A0 : Nat → Prop} {wc wr : va_W} {H0 H : Heap} {locs : List Loc} (hD : va_D A0 (wc ++ wr)) (hS : va_S A0 H0 H locs) (hA : ∀ q, H0.size ≤ q → A0 q) : ∀ q, va_A wc H.size q → A0 q := by
  intro q h
  rcases h with ⟨k, e, hk⟩ | h
  · exact pm_DA hD (q, e) (List.mem_append_left _ (List.mem_of_getElem? hk))
  · exact hA q (Nat.le_trans hS.1 h)
theorem pm_rotP {D : va_G} {cl : List vw_C} {a B : va_W} {x : Nat × va_E} {H : Heap} (h : va_P D cl ((a ++ B) ++ [x]) H) : va_P D cl ((a ++ [x]) ++ B) H :=
  pm_P h (fun y hy => by simp only [List.mem_append] at hy ⊢; rcases hy with (h1 | h1) | h1; exact Or.inl (Or.inl h1); exact Or.inr h1; exact Or.inl (Or.inr h1))
theorem pm_rotD {A : Nat → Prop} {a B : va_W} {x : Nat × va_E} (h : va_D A ((a ++ B) ++ [x])) : va_D A ((a ++ [x]) ++ B) :=
  pm_D h (by rw [List.append_assoc, List.append_assoc]; exact (List.perm_append_comm).append_left a)
/-- cells of the written part join the block -/
theorem pm_packP {D : va_G} {cl : List vw_C} {a b B : va_W} {H : Heap} (h : va_P D cl ((a ++ b) ++ B) H) : va_P D cl (a ++ (b ++ B)) H := by rw [← List.append_assoc]; exact h
theorem pm_packD {A : Nat → Prop} {a b B : va_W} (h : va_D A ((a ++ b) ++ B)) : va_D A (a ++ (b ++ B)) := by rw [← List.append_assoc]; exact h
theorem pm_int {U : State} {c c' : ClassId} (h : va_RA U c .int) (h' : va_RA U c' .int) : c = c' := Option.some.inj ((va_nm_int h).symm.trans (va_nm_int h'))
theorem pm_long {U : State} {c c' : ClassId} (h : va_RA U c .long) (h' : va_RA U c' .long) : c = c' := Option.some.inj ((va_nm_long h).symm.trans (va_nm_long h'))
variable {p : Program} {l : Launch} {e : Env} {R : Room} {s : State} {m : MethodId} {args : Array Value} {below : List Frame} {meth : Method} {c : Code} {H H0 : Heap} {locs : List Loc} {cells slots : Nat} {Q : State → Prop}
  {D : va_G} {cl : List vw_C} {tys : List (ClassId × FieldType)} {A : Nat → Prop} {a B : va_W} {cc : ByteArray} {pc : Nat} {ls : Array Slot} {rest : List Value}
/-- 'new int[n]', n known -/
theorem pm_newi (hexec : p.tables.exec = Jvm.exec) (hb : c.code = cc) (harr : (Cond.arrayClass .int).before args s = true) (hK : va_K D cl tys s) (t0 : Nat) {cI : ClassId} (ht : tys[t0]? = some (cI, .int)) (hP : va_P D cl (a ++ B) H) (hD : va_D A (a ++ B)) (hS : va_S A H0 H locs) (hA : ∀ q, H0.size ≤ q → A q)
    {n : Int32} {N : Nat} (hn : ¬ n < 0) (hN : n.toNatClampNeg = N) (hbytes : N * 4 ≤ 536870912) (hcells : cells + 1 ≤ R.cells) (hslots : slots + N ≤ R.slots) (hdg : decode cc pc = .ok (.newarray .int, 2))
    (kk : ∀ (q : Nat) (H1 : Heap), va_P D cl ((a ++ [(q, .inl (cI, N, .inl (fun _ => 0)))]) ++ B) H1 → va_D A ((a ++ [(q, .inl (cI, N, .inl (fun _ => 0)))]) ++ B) → va_S A H0 H1 locs →
      W p l e R s m args below meth c H1 locs (cells + 1) (slots + N) Q (F0 m (pc + 2) ls (.ref q :: rest))) : W p l e R s m args below meth c H locs cells slots Q (F0 m pc ls (.int n :: rest)) := by
  refine va_newa (atype := .int) (ty := .int) (N' := N) (n := n) (a0 := (N, .inl (fun _ => 0))) hexec hb harr rfl hK hP hD hS hA (fun cA => rfl) hn hN hbytes hcells hslots hdg (fun q cA H1 hK1 hP1 hD1 hS1 => ?_)
  have e : cA = cI := by
    have h1 := (hK1.2 tys.length (cA, .int) (by simp)).2
    exact pm_int h1 (hK.2 t0 _ ht).2
  subst e
  exact kk q H1 (pm_rotP hP1) (pm_rotD hD1) hS1
theorem pm_newl (hexec : p.tables.exec = Jvm.exec) (hb : c.code = cc) (harr : (Cond.arrayClass .long).before args s = true) (hK : va_K D cl tys s) (t0 : Nat) {cI : ClassId} (ht : tys[t0]? = some (cI, .long)) (hP : va_P D cl (a ++ B) H) (hD : va_D A (a ++ B)) (hS : va_S A H0 H locs) (hA : ∀ q, H0.size ≤ q → A q)
    {n : Int32} {N : Nat} (hn : ¬ n < 0) (hN : n.toNatClampNeg = N) (hbytes : N * 8 ≤ 536870912) (hcells : cells + 1 ≤ R.cells) (hslots : slots + N ≤ R.slots) (hdg : decode cc pc = .ok (.newarray .long, 2))
    (kk : ∀ (q : Nat) (H1 : Heap), va_P D cl ((a ++ [(q, .inl (cI, N, .inr (.inl (fun _ => 0))))]) ++ B) H1 → va_D A ((a ++ [(q, .inl (cI, N, .inr (.inl (fun _ => 0))))]) ++ B) → va_S A H0 H1 locs →
      W p l e R s m args below meth c H1 locs (cells + 1) (slots + N) Q (F0 m (pc + 2) ls (.ref q :: rest))) : W p l e R s m args below meth c H locs cells slots Q (F0 m pc ls (.int n :: rest)) := by
  refine va_newa (atype := .long) (ty := .long) (N' := N) (n := n) (a0 := (N, .inr (.inl (fun _ => 0)))) hexec hb harr rfl hK hP hD hS hA (fun cA => rfl) hn hN hbytes hcells hslots hdg (fun q cA H1 hK1 hP1 hD1 hS1 => ?_)
  have e : cA = cI := by
    have h1 := (hK1.2 tys.length (cA, .long) (by simp)).2
    exact pm_long h1 (hK.2 t0 _ ht).2
  subst e
  exact kk q H1 (pm_rotP hP1) (pm_rotD hD1) hS1
end Pm
section Pm2
theorem pm_swapP {D : va_G} {cl : List vw_C} {a b B : va_W} {H : Heap} (h : va_P D cl (a ++ (b ++ B)) H) : va_P D cl (b ++ (a ++ B)) H := pm_P h (fun x hx => (List.perm_append_comm_assoc b a B).mem_iff.mp hx)
theorem pm_swapD {A : Nat → Prop} {a b B : va_W} (h : va_D A (a ++ (b ++ B))) : va_D A (b ++ (a ++ B)) := pm_D h (List.perm_append_comm_assoc b a B)
theorem pm_byte {U : State} {c c' : ClassId} (h : va_RA U c .byte) (h' : va_RA U c' .byte) : c = c' := Option.some.inj ((va_nm_byte h).symm.trans (va_nm_byte h'))
theorem pm_obj {U : State} {c c' : ClassId} {C : String} (h : va_RA U c (.object C)) (h' : va_RA U c' (.object C)) : c = c' := by
  obtain ⟨-, -, -, -, -, h4⟩ := h
  obtain ⟨-, -, -, -, -, h5⟩ := h'
  exact Option.some.inj (h4.symm.trans h5)
variable {p : Program} {l : Launch} {e : Env} {R : Room} {s : State} {m : MethodId} {args : Array Value} {below : List Frame} {meth : Method} {c : Code} {H H0 : Heap} {locs : List Loc} {cells slots : Nat} {Q : State → Prop}
  {D : va_G} {cl : List vw_C} {tys : List (ClassId × FieldType)} {A : Nat → Prop} {a B : va_W} {cc : ByteArray} {pc : Nat} {ls : Array Slot} {rest : List Value}
theorem pm_newb (hexec : p.tables.exec = Jvm.exec) (hb : c.code = cc) (harr : (Cond.arrayClass .byte).before args s = true) (hK : va_K D cl tys s) (t0 : Nat) {cI : ClassId} (ht : tys[t0]? = some (cI, .byte)) (hP : va_P D cl (a ++ B) H) (hD : va_D A (a ++ B)) (hS : va_S A H0 H locs) (hA : ∀ q, H0.size ≤ q → A q)
    {n : Int32} {N : Nat} (hn : ¬ n < 0) (hN : n.toNatClampNeg = N) (hbytes : N * 1 ≤ 536870912) (hcells : cells + 1 ≤ R.cells) (hslots : slots + N ≤ R.slots) (hdg : decode cc pc = .ok (.newarray .byte, 2))
    (kk : ∀ (q : Nat) (H1 : Heap), va_P D cl ((a ++ [(q, .inl (cI, N, .inl (fun _ => 0)))]) ++ B) H1 → va_D A ((a ++ [(q, .inl (cI, N, .inl (fun _ => 0)))]) ++ B) → va_S A H0 H1 locs →
      W p l e R s m args below meth c H1 locs (cells + 1) (slots + N) Q (F0 m (pc + 2) ls (.ref q :: rest))) : W p l e R s m args below meth c H locs cells slots Q (F0 m pc ls (.int n :: rest)) := by
  refine va_newa (atype := .byte) (ty := .byte) (N' := N) (n := n) (a0 := (N, .inl (fun _ => 0))) hexec hb harr rfl hK hP hD hS hA (fun cA => rfl) hn hN hbytes hcells hslots hdg (fun q cA H1 hK1 hP1 hD1 hS1 => ?_)
  have e : cA = cI := by
    have h1 := (hK1.2 tys.length (cA, .byte) (by simp)).2
    exact pm_byte h1 (hK.2 t0 _ ht).2
  subst e
  exact kk q H1 (pm_rotP hP1) (pm_rotD hD1) hS1
theorem pm_newq (hexec : p.tables.exec = Jvm.exec) (hb : c.code = cc) {own C : String} {index : Nat} (hown : s.vm.findClass own = some m.cls) (hclink : (Cond.classLink own index C).before args s = true) (hover : va_AO C s) (hK : va_K D cl tys s) (t0 : Nat) {cI : ClassId} (ht : tys[t0]? = some (cI, .object C)) (hP : va_P D cl (a ++ B) H) (hD : va_D A (a ++ B)) (hS : va_S A H0 H locs) (hA : ∀ q, H0.size ≤ q → A q)
    {n : Int32} {N : Nat} (hn : ¬ n < 0) (hN : n.toNatClampNeg = N) (hbytes : N * 4 ≤ 536870912) (hcells : cells + 1 ≤ R.cells) (hslots : slots + N ≤ R.slots) (hdg : decode cc pc = .ok (.anewarray index, 3))
    (kk : ∀ (q : Nat) (H1 : Heap), va_P D cl ((a ++ [(q, .inl (cI, N, .inr (.inr (.inr (.inr (fun _ => none))))))]) ++ B) H1 → va_D A ((a ++ [(q, .inl (cI, N, .inr (.inr (.inr (.inr (fun _ => none))))))]) ++ B) → va_S A H0 H1 locs →
      W p l e R s m args below meth c H1 locs (cells + 1) (slots + N) Q (F0 m (pc + 3) ls (.ref q :: rest))) : W p l e R s m args below meth c H locs cells slots Q (F0 m pc ls (.int n :: rest)) := by
  refine va_newq hexec hb hown hclink hover hK hP hD hS hA hn hN hbytes hcells hslots hdg (fun q cA H1 hK1 hP1 hD1 hS1 => ?_)
  have e : cA = cI := by
    have h1 := (hK1.2 tys.length (cA, .object C) (by simp)).2
    exact pm_obj h1 (hK.2 t0 _ ht).2
  subst e
  exact kk q H1 (pm_rotP hP1) (pm_rotD hD1) hS1
theorem pm_new (hexec : p.tables.exec = Jvm.exec) (hb : c.code = cc) {own C : String} {T : u_T} {N ci index : Nat} {Ts : List Cond} (hts : ∀ w ∈ Ts, w.before args s = true) (hin : ∀ w ∈ u_ws C T N, w ∈ Ts) (ty : Nat → FieldType) (hty : ∀ k, k < N → parseFieldDescriptor (T k).2.2.1 = some (ty k)) (hown : s.vm.findClass own = some m.cls) (hcl : (Cond.classLink own index C).before args s = true) (hinst : (Cond.instantiable C N).before args s = true) (hini : (Cond.initialized C).before args s = true)
    (hK : va_K D cl tys s) (hP : va_P D cl (a ++ B) H) (hD : va_D A (a ++ B)) (hS : va_S A H0 H locs) (hA : ∀ q, H0.size ≤ q → A q) (hc : cl[ci]? = some (C, T, N)) {fs : List Value} (hfs : ∀ j, j < N → defaultValue (ty j) = vp_V fs j) (hcells : cells + 1 ≤ R.cells) (hslots : slots + N ≤ R.slots) (hdg : decode cc pc = .ok (.new index, 3))
    (kk : ∀ (q : Nat) (H1 : Heap), va_P D cl ((a ++ [(q, .inr (ci, fs))]) ++ B) H1 → va_D A ((a ++ [(q, .inr (ci, fs))]) ++ B) → va_S A H0 H1 locs →
      W p l e R s m args below meth c H1 locs (cells + 1) (slots + N) Q (F0 m (pc + 3) ls (.ref q :: rest))) : W p l e R s m args below meth c H locs cells slots Q (F0 m pc ls rest) :=
  va_new hexec hb hts hin ty hty hown hcl hinst hini hK hP hD hS hA hc hfs hcells hslots hdg (fun q H1 hP1 hD1 hS1 => kk q H1 (pm_rotP hP1) (pm_rotD hD1) hS1)
end Pm2
end
section
/-! METHODS THAT MAY THROW: their contracts (MetE), a new exception thrown out of a method, the call whose exception is caught in the caller's own table. -/
section Ex
variable {p : Program} {l : Launch} {e : Env} {R : Room} {s : State} {m : MethodId} {args : Array Value} {below : List Frame} {meth : Method} {c : Code} {H : Heap} {locs : List Loc} {cells slots : Nat} {Q : State → Prop}
/-- how a method ends that may throw: with its frame, whichever way -/
def ex_End (st : State) (o : Outcome) (t : State) (mc ms : Nat) (free : Addr → Prop) : Prop :=
  ∃ L, (FrameEnd st o t L mc ms ∨ FramedT st o t L mc ms) ∧ ∀ q ∈ L, free q.base
def ex_MQ (below : List Frame) (Qc : Array Value → State → Outcome → State → Prop) (a : Array Value) (s : State) (mc ms : Nat) (free : Addr → Prop) : State → Prop := fun t =>
  ∃ o, t.status = .running ∧ Ended t below o ∧ Qc a s o t ∧ ex_End s o t mc ms free
def MetE (l : Launch) (y : MethodName) (ws : List Cond) (rm : Room) (Pc : Array Value → State → Prop) (Qc : Array Value → State → Outcome → State → Prop) (mc ms : Nat) (free : Addr → Prop) : Prop :=
  MetFree l y (headSpec ws rm) Pc (fun _ _ _ _ _ => True) (fun a st o t => Qc a st o t ∧ ex_End st o t mc ms free)
theorem ex_of {Qc : Array Value → State → Outcome → State → Prop} {a : Array Value} {mc ms : Nat} {free : Addr → Prop} {g : JFrame}
    (h : W p l e R s m args below meth c H locs cells slots (MQ below Qc a s mc ms free) g) : W p l e R s m args below meth c H locs cells slots (ex_MQ below Qc a s mc ms free) g := by
  intro T hT X
  obtain ⟨t, h1, o, h2, h3, h4, L, h5, h6⟩ := h T hT X
  exact ⟨t, h1, o, h2, h3, h4, L, Or.inl h5, h6⟩
theorem ex_widen {Qc : Array Value → State → Outcome → State → Prop} {a : Array Value} {mc ms mc' ms' : Nat} {free : Addr → Prop} {g : JFrame} (h1 : mc ≤ mc') (h2 : ms ≤ ms')
    (h : W p l e R s m args below meth c H locs cells slots (ex_MQ below Qc a s mc ms free) g) : W p l e R s m args below meth c H locs cells slots (ex_MQ below Qc a s mc' ms' free) g := by
  intro T hT X
  obtain ⟨t, q1, o, q2, q3, q4, L, q5, q6⟩ := h T hT X
  refine ⟨t, q1, o, q2, q3, q4, L, ?_, q6⟩
  rcases q5 with ⟨r1, r2, r3⟩ | ⟨r1, r2, r3⟩
  · exact Or.inl ⟨r1, r2, r3.mono h1 h2⟩
  · exact Or.inr ⟨r1, r2, r3.mono h1 h2⟩
/-- a method without a table, that may throw -/
theorem MetE.ofW {y : MethodName} {ws ws' : List Cond} {rm : Room} {Pc : Array Value → State → Prop} {Qc : Array Value → State → Outcome → State → Prop} {mc ms : Nat} {free : Addr → Prop} {cc : ByteArray} {maxL : Nat} {ret : Option FieldType}
    (hy : plainName y.cls = true) (hw : ws = Cond.code y cc maxL ret :: ws')
    (body : ∀ p e s m args below meth c s₁, BodyLoose p l y (headSpec ws rm) cc maxL ret e s m args below meth c s₁ → c.maxLocals = maxL → c.exceptionTable.toList = [] → Pc args s →
      W p l e (headSpec ws rm).room s m args below meth c s.heap [] 0 0 (ex_MQ below Qc args s mc ms free) (entryFrame m args maxL)) : MetE l y ws rm Pc Qc mc ms free := by
  have hcd : ∀ (args : Array Value) (s : State), (headSpec ws rm).pre.before args s = true → (Cond.code y cc maxL ret).before args s = true := fun args s h => atoms_spec (ws := ws) h _ (by rw [hw]; exact List.mem_cons_self)
  refine MetFree.of_bodyS (code := cc) (maxLocals := maxL) (ret := ret) hy ?_ ?_
  · intro args s m h hn
    obtain ⟨meth, c, h1, h2, h3, h4, h5, h6, -, -⟩ := Cond.code_spec hn (hcd args s h)
    exact ⟨meth, c, h1, h2, h3, h4, h5, h6⟩
  · intro p e s m args below meth c s₁ B hml hP _
    have hh0 : s₁.heap = s.heap := by rw [B.state]; rfl
    have he : c.exceptionTable.toList = [] := by
      have h0 := B.noHandlers (hcd args s B.pre)
      have h1 : c.exceptionTable.size = 0 := by simpa [Array.isEmpty] using h0
      exact List.eq_nil_of_length_eq_zero (by simpa using h1)
    obtain ⟨t, a1, o, b1, b2, b3⟩ := body p e s m args below meth c s₁ B hml he hP s₁ hh0 (Stand.of_body B)
    exact ⟨t, o, a1, b1, b2, b3⟩
/-- a method with a table, that returns -/
theorem Met.ofWH {y : MethodName} {ws ws' : List Cond} {rm : Room} {Pc : Array Value → State → Prop} {Qc : Array Value → State → Outcome → State → Prop} {mc ms : Nat} {free : Addr → Prop} {cc : ByteArray} {maxL : Nat} {ret : Option FieldType} {hs : List (Nat × Nat × Nat × Nat)}
    (hy : plainName y.cls = true) (hw : ws = Cond.codeWith y cc maxL ret hs :: ws')
    (body : ∀ p e s m args below meth c s₁, BodyLoose p l y (headSpec ws rm) cc maxL ret e s m args below meth c s₁ → c.maxLocals = maxL → c.exceptionTable.toList = tableOf hs → Pc args s →
      W p l e (headSpec ws rm).room s m args below meth c s.heap [] 0 0 (MQ below Qc args s mc ms free) (entryFrame m args maxL)) : Met l y ws rm Pc Qc mc ms free := by
  have hcd : ∀ (args : Array Value) (s : State), (headSpec ws rm).pre.before args s = true → (Cond.codeWith y cc maxL ret hs).before args s = true := fun args s h => atoms_spec (ws := ws) h _ (by rw [hw]; exact List.mem_cons_self)
  refine MetFree.of_bodyS (code := cc) (maxLocals := maxL) (ret := ret) hy ?_ ?_
  · intro args s m h hn
    obtain ⟨m', meth, c, h0, h1, h2, h3, h4, -, h5, h6, -⟩ := Cond.codeWith_spec (hcd args s h)
    cases hn.symm.trans h0
    exact ⟨meth, c, h1, h2, h3, h4, h5, h6⟩
  · intro p e s m args below meth c s₁ B hml hP _
    have hh0 : s₁.heap = s.heap := by rw [B.state]; rfl
    have he : c.exceptionTable.toList = tableOf hs := by
      obtain ⟨m', meth', c', h0, h1, h2, -, -, h5, -⟩ := Cond.codeWith_spec (hcd args s B.pre)
      cases B.named.symm.trans h0
      cases B.method.symm.trans h1
      cases (Stand.of_body B).code.symm.trans h2
      rw [← h5, table_eq]
    obtain ⟨t, a1, o, b1, b2, b3⟩ := body p e s m args below meth c s₁ B hml he hP s₁ hh0 (Stand.of_body B)
    exact ⟨t, o, a1, b1, b2, ⟨b3.1, b3.2⟩⟩
/-- what lies where nothing was written is as it was -/
theorem ex_same {s t : State} {k n : Nat} (h : s.sameButNew t locs k n) {q : Nat} (hq : q < s.heap.size) (hl : ∀ y ∈ locs, y.base ≠ q) : t.heap[q]? = s.heap[q]? := by
  obtain ⟨-, -, -, -, -, h6⟩ := h
  obtain ⟨c', e1, e2, e3, e4⟩ := h6 q s.heap[q] (Array.getElem?_eq_getElem hq)
  rw [e1, Array.getElem?_eq_getElem hq, e2]
  have hs : c'.slots = s.heap[q].slots := by
    refine Array.ext_getElem? (fun i => ?_)
    exact e4 i (fun hm => hl _ hm rfl)
  rw [hs]
/-- 'throw new X()' at pc, nothing of the table covers it: the method ends, it threw the new object -/
theorem ex_throw {cc : ByteArray} {own cls : String} {names : List String} {ia ic pc : Nat} {ls : Array Slot} {st : List Value} {Qc : Array Value → State → Outcome → State → Prop} {free : Addr → Prop}
    (hexec : p.tables.exec = Jvm.exec) (hb : c.code = cc) (htr : e.platform.stackTraces = false) (hown : s.vm.findClass own = some m.cls) (hcls : Bundle.fit cls = true) (hnames : ∀ n ∈ names, Bundle.fit n = true)
    (h : ∀ a ∈ Bundle.ownAtoms0 own ic cls names, a.before args s = true) (hcl : (Cond.classLink own ia cls).before args s = true) (hini : (Cond.initialized cls).before args s = true)
    (hlocs : ∀ x ∈ locs, ∀ cell, s.heap[x.base]? = some cell → cell.vm.isStatics = false) (hsz : s.heap.size ≤ H.size) (hout : ∀ x ∈ c.exceptionTable.toList, covers x (pc + 7) = false) (hsize : ls.size = c.maxLocals)
    (hd0 : decode cc pc = .ok (.new ia, 3)) (hd3 : decode cc (pc + 3) = .ok (.dup, 1)) (hd4 : decode cc (pc + 4) = .ok (.invokespecial ic, 3)) (hd7 : decode cc (pc + 7) = .ok (.athrow, 1))
    (hcells : cells + 1 ≤ R.cells) (hslots : slots + 6 ≤ R.slots) (hRf : names.length + 3 < R.frames) (hRl : (st.map fun v => v.category).sum + (13 * (names.length + 1) + 42) ≤ R.locals) (hlocks : meth.locks = false) (hf : ∀ q ∈ locs, free q.base)
    (hq : ∀ (t : State) (ce : Cell), t.heap[H.size]? = some ce → s.vm.findClass cls = some ce.cls → ce.vm = .none → s.WarmedH t.vm → s.heap.size ≤ t.heap.size → (∀ q : Nat, q < s.heap.size → (∀ y ∈ locs, y.base ≠ q) → t.heap[q]? = s.heap[q]?) → Qc args s (.threw H.size) t) :
    W p l e R s m args below meth c H locs cells slots (ex_MQ below Qc args s (cells + 1) (slots + 6) free) (F0 m pc ls st) := by
  refine W.newc hexec hb hown hcl (h (.instantiable cls 6) (by simp [Bundle.ownAtoms0])) hini rfl hd0 hcells hslots (fun cC kC h1 h2 h3 h4 => ?_)
  refine W.eq (g2 := F0 m (pc + 3) ls (.ref H.size :: st)) rfl ?_
  refine lv_dup hexec hb hd3 rfl ?_
  intro T hT X
  subst hb
  obtain ⟨U, q1, q2, q3, q4, q5, ce, q6, q7⟩ := X.ctorThrow0 hexec htr hown hcls hnames h hlocs (a := H.size) h1 h2 (by rw [hT]; simp) hsz (g := F0 m (pc + 4) ls (.ref H.size :: .ref H.size :: st)) rfl hsize rfl rfl (rest := st) rfl hd4 hd7 hout hRf
    (by rw [List.map_cons, List.sum_cons]; show 2 * 0 + (1 + (st.map fun v => v.category).sum) + (13 * (names.length + 1) + 41) ≤ R.locals; omega)
  refine ⟨U, q1, .threw H.size, q2, q3, hq U ce q6 q7.cls q7.vm q4 ?_ ?_, locs, Or.inr ⟨⟨_, rfl⟩, q4, q5⟩, hf⟩
  · exact q5.2.1
  · exact fun q h5 h6 => ex_same (t := ({ U with vm := s.vm } : State)) q5 h5 h6
end Ex
/-! A CALL OF A METHOD THAT MAY THROW, and the caller's own handler. -/
section Ex2
variable {p : Program} {l : Launch} {e : Env} {R : Room} {s : State} {m : MethodId} {args : Array Value} {below : List Frame} {meth : Method} {c : Code} {H : Heap} {T : State} {locs : List Loc} {cells slots : Nat} {Q : State → Prop}
/-- the call comes back, or its exception lies over the caller's frame -/
theorem ex_call (X : Stand p l e R s m args below meth c T locs cells slots) {y : MethodName} {ws : List Cond} {rm : Room} {Pc : Array Value → State → Prop} {Qc : Array Value → State → Outcome → State → Prop} {mc ms maxL : Nat} {free : Addr → Prop}
    {g : JFrame} {ig : Instr} {len : Nat} {mk : MethodId} {a : Array Value} {my : Method} {cy : Code} (hM : MetE l y ws rm Pc Qc mc ms free)
    (hg : g.method = m) (hsize : g.locals.size = c.maxLocals) (hdg : decode c.code g.pc = .ok (ig, len)) (hW : 2 * g.monitorRoom + (g.stack.map fun v => v.category).sum ≤ 8)
    (hn : T.methodNamed? y = some mk) (hmy : T.vm.method? mk = some my) (hcy : my.code = some cy) (hly : cy.maxLocals = maxL) (hini : (Cond.initialized y.cls).before a T = true) (hws : ∀ w ∈ ws, w.before a T = true)
    (hfr : rm.frames + 1 ≤ R.frames) (hlo : 8 + (maxL + 11) + rm.locals ≤ R.locals) (hc : cells + rm.cells ≤ R.cells) (hs : slots + rm.slots ≤ R.slots) (hP : Pc a (T.calling g mk a)) :
    ∃ (o : Outcome) (t T' : State) (L : List Loc), Qc a (T.calling g mk a) o t ∧ Stand p l e R s m args below meth c T' (locs ++ L) (cells + mc) (slots + ms) ∧ (∀ q ∈ L, free q.base) ∧ T'.heap = t.heap ∧ T'.vm = t.vm ∧
      ((∃ v, o = .returned v ∧ Steps p.tables e below (doInvoke e (T.setTop g) [] mk a).1 (T'.setTop { g with pc := g.pc + len, stack := v.toList ++ g.stack })) ∨
       (∃ x, o = .threw x ∧ Steps p.tables e below (doInvoke e (T.setTop g) [] mk a).1 ((T'.setTop g).pushFrame (.throwing x)))) := by
  obtain ⟨kY, hkY, -⟩ := className_of_methodNamed hn
  have hinitY : kY.init = .initialized := Cond.initialized_spec (findClass_of_methodNamed hn) hkY hini
  have h : At T g.method c below := by rw [hg]; exact X.here
  have happ : (headSpec ws rm).appliesLoose y e.platform (T.calling g mk a) = true :=
    Spec.appliesLoose_calling (g := g) h hdg hn hkY hinitY (X.room_calling (g := g) (R' := (headSpec ws rm).room) hsize hmy hcy hfr (by rw [hly]; have := hlo; show _ + (maxL + 11) + rm.locals ≤ _; omega) hc hs) (atoms_intro hws)
  obtain ⟨mid, hmid⟩ := h.above
  have hfr' : (T.setTop g).frames = (.java g :: mid) ++ below := by rw [State.frames_setTop' g h.top, hmid]; rfl
  obtain ⟨o, t, hsteps, -, hend, hq⟩ := Steps.callFree hM p X.admits X.cas X.clock (acts := []) hfr' happ hP trivial
  rw [State.frames_setTop' g h.top, X.tail] at hend
  obtain ⟨hq1, L, hF, hL⟩ := hq
  rcases hF with ⟨⟨v, rfl⟩, hw2, hs2⟩ | ⟨⟨x, rfl⟩, hw2, hs2⟩
  · obtain ⟨T', X', -, -, ht⟩ := X.outOf hg hdg (mk := mk) (a := a) hend hw2 hs2
    refine ⟨_, t, T', L, hq1, X', hL, ?_, ?_, Or.inl ⟨v, rfl, ht ▸ hsteps⟩⟩
    · rw [ht]; simp
    · rw [ht]; simp
  · obtain ⟨T', X', -, -, ht⟩ := X.outOfThrown hg (mk := mk) (a := a) hend hw2 hs2
    refine ⟨_, t, T', L, hq1, X', hL, ?_, ?_, Or.inr ⟨x, rfl, ht ▸ hsteps⟩⟩
    · rw [ht]; exact (Stand.throwing_heap T' g x).symm
    · rw [ht]; exact (Stand.throwing_vm T' g x).symm
/-- one step: a handler is found, the tables a little warmer -/
theorem ex_stepCatch {u : State} {a : Addr} {f : JFrame} {r : List Frame} {pc : Nat} {vm' : Vm} (hfind : ∀ (Q : Handler → Pre) (E : CtlPost) (d : Bool) (acts : List Action), wp (findHandler f a) Q E e d acts u ↔ Q (.found pc) d acts (u.setVm vm')) :
    (stepThrowing e u a (.java f :: r)).Is ((u.setVm vm').setFrames (.java { f with pc := pc, stack := [.ref a] } :: r)) [] := by
  simp only [stepThrowing, searchFrame, vmDo]
  generalize hr : Sem.go _ e false [] u = res
  obtain ⟨as, rfl, ha⟩ := Sem.eq_ok_of hr (a := Handler.found pc) (s' := u.setVm vm') (acts' := []) (by simp [hfind _ _ _ _])
  exact ⟨rfl, ha⟩
theorem ex_finds {u : State} {f : JFrame} {a : Addr} {my : Method} {cy : Code} {x : ExceptionTableEntry} {cC : ClassId} {cell : Cell} {vm' : Vm}
    (hm : u.vm.method? f.method = some my) (hc : my.code = some cy) (ht : cy.exceptionTable.toList = [x]) (hx : covers x f.pc = true) (h0 : x.catchType ≠ 0)
    (hg : (Jvm.resolveClass f.method.cls x.catchType).Gives e.toSetting u.vm (.ok cC) vm') (hsz : vm'.classes.size ≤ u.vm.classes.size) (hcell : u.heap[a]? = some cell) (hobj : ∀ k, cell.vm ≠ .statics k)
    (hk : ∃ k, vm'.classes[cell.cls]? = some k) (hcl : ∃ k, vm'.classes[cC]? = some k) (hfit : vm'.assignable cell.cls cC = true) :
    ∀ (Q : Handler → Pre) (E : CtlPost) (d : Bool) (acts : List Action), wp (findHandler f a) Q E e d acts u ↔ Q (.found x.handlerPc) d acts (u.setVm vm') := by
  intro Q E d acts
  rw [W.findHandler_eq hm hc, ht]
  simp only [covers] at hx
  obtain ⟨ha, hb⟩ := hg.op (op := VmOp.resolveClass f.method.cls x.catchType) rfl
  simp [findHandler.go, hx, h0, ha, hb, hsz, hcell, hobj, hk, hcl, hfit, VmOp.dirties, VmOp.acts]
/-- the walk goes on at the handler -/
theorem ex_caught (X : Stand p l e R s m args below meth c T locs cells slots) {own C D : String} {x : ExceptionTableEntry} {a : Addr} {g : JFrame} {cell : Cell} (hg : g.method = m) (hown : s.vm.findClass own = some m.cls)
    (ht : c.exceptionTable.toList = [x]) (hx : covers x g.pc = true) (h0 : x.catchType ≠ 0) (hlink : (Cond.classLink own x.catchType D).before args s = true) (hcast : (Cond.castable C D).before args s = true)
    (hcell : T.heap[a]? = some cell) (hcls : s.vm.findClass C = some cell.cls) (hvm : cell.vm = .none) :
    ∃ vm', Stand p l e R s m args below meth c (T.setVm vm') locs cells slots ∧ ∀ target, Steps p.tables e below ((T.setVm vm').setTop { g with pc := x.handlerPc, stack := [.ref a] }) target → Steps p.tables e below ((T.setTop g).pushFrame (.throwing a)) target := by
  subst hg
  have hpl : e.platform.magicAccessors = ({} : Platform).magicAccessors := by rw [X.admits.platform]
  obtain ⟨cD, hfD, hcl⟩ := Cond.classLink_spec hown hlink e.platform hpl
  obtain ⟨c3, c4, hc3, hc4, hasg⟩ := Cond.castable_spec hcast
  cases Option.some.inj (hc3.symm.trans hcls)
  cases Option.some.inj (hc4.symm.trans hfD)
  obtain ⟨hg1, hwarm, hready⟩ := State.classEntry (e := e) X.warmed hcl
  have hsz : (T.vm.noted g.method.cls x.catchType (.cls cD)).classes.size ≤ T.vm.classes.size := by first | no_record | simp [Vm.noted]
  generalize T.vm.noted g.method.cls x.catchType (.cls cD) = vm₁ at hg1 hwarm hready hsz
  have X1 := X.noted hwarm
  refine ⟨vm₁, X1, fun target hrest => ?_⟩
  have hasg' : vm₁.assignable cell.cls cD = true := by first | (rw [hwarm.alike.assignable]; exact hasg) | (rw [← hwarm.alike.assignable]; exact hasg)
  obtain ⟨kD, hkD⟩ := Vm.classAt_of_findClass hfD
  obtain ⟨kD', hkD', -⟩ := hwarm.alike.2.2 _ _ hkD
  have hfind := ex_finds (e := e) (u := (T.setTop g).pushFrame (.throwing a)) (f := g) (a := a) (my := meth) (cy := c) (x := x) (cC := cD) (cell := cell) (vm' := vm₁)
    (by rw [Stand.throwing_vm]; exact X.method') X.code ht hx h0 (by rw [Stand.throwing_vm]; exact hg1) (by rw [Stand.throwing_vm]; exact hsz) (by rw [Stand.throwing_heap]; exact hcell) (fun k => by rw [hvm]; simp)
    (Vm.classAt_of_assignable hasg' ⟨_, hkD'⟩) ⟨_, hkD'⟩ hasg'
  have h : At T g.method c below := X.here
  obtain ⟨hgo, hw⟩ := h.throwing a
  refine Steps.head hgo hw ?_
  rw [stepThread_throwing (frames_entered h.top _), (ex_stepCatch hfind).1]
  obtain ⟨g₀, hg0⟩ := Option.isSome_iff_exists.mp h.top
  obtain ⟨r, hr⟩ := State.topJava?_eq_some.mp hg0
  have hr1 : (T.setVm vm₁).frames = .java g₀ :: r := hr
  rw [State.setTop_of_frames _ hr1] at hrest
  have he : (((T.setTop g).pushFrame (.throwing a)).setVm vm₁).setFrames (.java { g with pc := x.handlerPc, stack := [.ref a] } :: T.frames.tail) = (T.setVm vm₁).setFrames (.java { g with pc := x.handlerPc, stack := [.ref a] } :: r) := by
    rw [hr, State.pushFrame, State.setTop_of_frames _ hr]
    show ((((T.setFrames (.java g :: r)).setFrames _).setVm vm₁).setFrames _) = _
    rw [State.setFrames_setFrames]
    show (((T.setVm vm₁).setFrames _).setFrames _) = _
    rw [State.setFrames_setFrames]
    rfl
  first | (rw [he]; exact hrest) | (rw [← he] at hrest; exact hrest)
/-- invokevirtual of a method that may throw, in a method whose one handler covers the call -/
theorem ex_callV {cc bytes : ByteArray} {nL maxL mc ms n index pc : Nat} {Ts ws : List Cond} {own C E D : String} {y : MethodName} {ret : Option FieldType} {rm : Room} {Pc : Array Value → State → Prop} {Qc : Array Value → State → Outcome → State → Prop} {free : Addr → Prop}
    {b : Addr} {As rest : List Value} {ls : Array Slot} {x : ExceptionTableEntry} (S : CallFix p m c cc nL s args Ts own) (hM : MetE l y ws rm Pc Qc mc ms free) (cw : CallW R s args own C index y bytes maxL ret ws rm mc ms n) (hp : PreV s H C b Pc As)
    (hn : As.length = n) (hsize : ls.size = nL) (hW : (rest.map fun v => v.category).sum ≤ 8) (hdg : decode cc pc = .ok (.invokevirtual index, 3)) (hf : cells + mc ≤ R.cells ∧ slots + ms ≤ R.slots)
    (ht : c.exceptionTable.toList = [x]) (hx : covers x pc = true) (h0 : x.catchType ≠ 0) (hlink : (Cond.classLink own x.catchType D).before args s = true) (hcast : (Cond.castable E D).before args s = true)
    (hthrow : ∀ (st₀ t : State) (a : Addr), Qc (Value.ref b :: As).toArray st₀ (.threw a) t → s.WarmedH st₀.vm → ∃ cell, t.heap[a]? = some cell ∧ s.vm.findClass E = some cell.cls ∧ cell.vm = .none)
    (kr : ∀ (v : Option Value) (st₀ t : State) (L : List Loc), st₀.heap = H → s.WarmedH t.vm → (∀ q ∈ L, free q.base) → Qc (Value.ref b :: As).toArray st₀ (.returned v) t → W p l e R s m args below meth c t.heap (locs ++ L) (cells + mc) (slots + ms) Q (F0 m (pc + 3) ls (v.toList ++ rest)))
    (kt : ∀ (a : Addr) (st₀ t : State) (L : List Loc), st₀.heap = H → s.WarmedH t.vm → (∀ q ∈ L, free q.base) → Qc (Value.ref b :: As).toArray st₀ (.threw a) t → W p l e R s m args below meth c t.heap (locs ++ L) (cells + mc) (slots + ms) Q (F0 m x.handlerPc ls [.ref a])) :
    W p l e R s m args below meth c H locs cells slots Q (F0 m pc ls (As.reverse ++ .ref b :: rest)) := by
  obtain ⟨⟨hrc, hrs, hfr, hlo, hws, -, hcode, hini, hy, hlen, hl⟩, hin, hse⟩ := cw
  obtain ⟨hx1, hb, hml, ho, -⟩ := S
  obtain ⟨hbl, ⟨cellB, hcB, hoB, hclB⟩, hPc⟩ := hp
  intro T hT X
  obtain ⟨mk, methM, hnamed, hmethM, hstM, habM⟩ := Cond.instanceMethod_spec hin
  obtain ⟨methM', cM, hmethM', hcM, -, hlM, -, -, -, hsigM⟩ := Cond.code_spec hnamed hcode
  cases hmethM.symm.trans hmethM'
  obtain ⟨c2, r2, m2, q1, q2, q3, q4, kP, hkP, hkPi⟩ := Cond.selects_spec hse
  cases hclB.symm.trans q1
  cases (State.methodFound?_of_named hnamed hy).symm.trans q2
  cases hnamed.symm.trans q3
  have hselP : selectMethod e.platform s.vm cellB.cls mk = .method mk := by rw [Launch.admits_selectMethod X.admits]; exact q4
  obtain ⟨vm₁, X₁, hstep₁⟩ := X.invokevirtual hx1 ho hl hnamed hmethM hstM hkP hkPi hy (a := b) (cell := cellB) (by rw [hT]; exact hcB)
    (fun z h => by rw [h] at hoB; cases hoB) hselP hmethM habM hkP hkPi (g := F0 m pc ls (As.reverse ++ .ref b :: rest)) rfl (argsL := As) (rest := rest) (hn.trans (hlen _ hsigM)) rfl (by rw [hb]; exact hdg)
  have hW₁ : s.WarmedH vm₁ := X₁.warmed
  obtain ⟨o, t, T', L, hq, X', hL, e1, e2, hcase⟩ := ex_call (T := T.setVm vm₁) X₁ (y := y) (maxL := maxL) (g := F0 m pc ls rest) (ig := .invokevirtual index) (len := 3) (mk := mk) (a := (Value.ref b :: As).toArray) (my := methM) (cy := cM) hM rfl (hsize.trans hml.symm) (by rw [hb]; exact hdg)
    (by show 2 * 0 + _ ≤ 8; simpa using hW) (X₁.named hnamed) (by show vm₁.method? mk = some methM; rw [hW₁.alike.method?]; exact hmethM) hcM hlM (word_at hW₁ (Or.inl (by first | rfl | simp [Cond.onTables, Cond.keeps, Cond.steady])) hini) (fun w hw => hws w hw _ _ hW₁) hfr hlo (by rw [hrc]; exact hf.1) (by rw [hrs]; exact hf.2)
    (hbl _ _ _ _ (hPc (T.setVm vm₁) hT hW₁))
  have hst : ((T.setVm vm₁).calling (F0 m pc ls rest) mk (Value.ref b :: As).toArray).heap = H := hT
  have hwt : s.WarmedH t.vm := e2 ▸ X'.warmed
  rcases hcase with ⟨v, rfl, hs⟩ | ⟨a, rfl, hs⟩
  · obtain ⟨tt, a1, b1⟩ := kr v _ t L hst hwt hL hq T' e1 X'
    exact ⟨tt, hstep₁ _ (fun acts => by rw [doInvoke_state]; exact hs.trans a1), b1⟩
  · obtain ⟨cell, hc1, hc2, hc3⟩ := hthrow _ t a hq hW₁
    obtain ⟨vm2, X2, st2⟩ := ex_caught X' (g := F0 m pc ls rest) (C := E) (D := D) (a := a) (cell := cell) rfl ho ht hx h0 hlink hcast (by rw [e1]; exact hc1) hc2 hc3
    obtain ⟨tt, a1, b1⟩ := kt a _ t L hst hwt hL hq (T'.setVm vm2) e1 X2
    exact ⟨tt, hstep₁ _ (fun acts => by rw [doInvoke_state]; exact hs.trans (st2 _ a1)), b1⟩
end Ex2
/-! CALLS OF METHODS THAT HAVE A TABLE OF HANDLERS AND RETURN. -/
section Ex3
variable {p : Program} {l : Launch} {e : Env} {R : Room} {s : State} {m : MethodId} {args : Array Value} {below : List Frame} {meth : Method} {c : Code} {H : Heap} {locs : List Loc} {cells slots : Nat} {Q : State → Prop}
theorem Met.toE {y : MethodName} {ws : List Cond} {rm : Room} {Pc : Array Value → State → Prop} {Qc : Array Value → State → Outcome → State → Prop} {mc ms : Nat} {free : Addr → Prop} (h : Met l y ws rm Pc Qc mc ms free) : MetE l y ws rm Pc Qc mc ms free := by
  intro p e ha hc hk s m args below hf happ hP hK
  obtain ⟨n, o, h1, h2, h3, h4, L, h5, h6⟩ := h p e ha hc hk s m args below hf happ hP hK
  exact ⟨n, o, h1, h2, h3, h4, L, Or.inl h5, h6⟩
/-- the words of a callee with a table: that it is there, that its words stay, room -/
def ex_CB (R : Room) (s : State) (args : Array Value) (own : String) (index : Nat) (y : MethodName) (bytes : ByteArray) (maxL : Nat) (ret : Option FieldType) (hs : List (Nat × Nat × Nat × Nat)) (ws : List Cond) (rm : Room) (mc ms n : Nat) : Prop :=
  rm.cells = mc ∧ rm.slots = ms ∧ rm.frames + 1 ≤ R.frames ∧ 8 + (maxL + 11) + rm.locals ≤ R.locals ∧ (∀ w ∈ ws, ∀ (a' : Array Value) (U : State), s.WarmedH U.vm → w.before a' U = true) ∧
  (Cond.codeWith y bytes maxL ret hs).before args s = true ∧ (Cond.initialized y.cls).before args s = true ∧ (y.cls ≠ "java/lang/invoke/MethodHandle" ∧ y.cls ≠ "java/lang/invoke/VarHandle") ∧ (∀ sig, parseMethodDescriptor y.desc = some sig → n = sig.parameters.length) ∧ (Cond.methodLink own index y).before args s = true
theorem ex_cb {own : String} {index maxL mc ms : Nat} {y : MethodName} {bytes : ByteArray} {ret : Option FieldType} {hs : List (Nat × Nat × Nat × Nat)} {Ts ws ws' : List Cond} {rm : Room} (n : Nat) (ht : ∀ w ∈ Ts, w.before args s = true) (hG : GoodIn Ts ws) (hw : ws = Cond.codeWith y bytes maxL ret hs :: ws') (hrc : rm.cells = mc) (hrs : rm.slots = ms)
    (hini : (Cond.initialized y.cls).before args s = true) (hl : (Cond.methodLink own index y).before args s = true)
    (hd : y.cls ≠ "java/lang/invoke/MethodHandle" ∧ y.cls ≠ "java/lang/invoke/VarHandle" ∧ (parseMethodDescriptor y.desc).map (fun d => d.parameters.length) = some n) (hR : rm.frames + 1 ≤ R.frames ∧ 8 + (maxL + 11) + rm.locals ≤ R.locals) :
    ex_CB R s args own index y bytes maxL ret hs ws rm mc ms n := by
  have hc : Cond.codeWith y bytes maxL ret hs ∈ ws := by rw [hw]; exact List.mem_cons_self
  refine ⟨hrc, hrs, hR.1, hR.2, pay_in ht hG, ht _ (hG _ hc).1, hini, ⟨hd.1, hd.2.1⟩, fun sig h => ?_, hl⟩
  have h2 := hd.2.2
  rw [h] at h2
  exact (Option.some.inj h2).symm
variable {y : MethodName} {bytes cc : ByteArray} {maxL nL mc ms n index : Nat} {ret : Option FieldType} {hs : List (Nat × Nat × Nat × Nat)} {ws : List Cond} {rm : Room} {Pc : Array Value → State → Prop} {Qc : Array Value → State → Outcome → State → Prop} {free : Addr → Prop} {Ts : List Cond} {own C : String} {b : Addr} {As rest : List Value} {g : JFrame}
theorem ex_runS (S : CallFix p m c cc nL s args Ts own) (hM : Met l y ws rm Pc Qc mc ms free) (hQ : ∀ a st o t, Qc a st o t → ∃ v, o = .returned v) (cw : ex_CB R s args own index y bytes maxL ret hs ws rm mc ms n) (hstt : (Cond.static y).before args s = true) (hp : PreS s H Pc As)
    (hg : g.method = m) (hn : As.length = n) (hsize : g.locals.size = nL) (hstack : g.stack = As.reverse ++ rest) (hW : 2 * g.monitorRoom + (rest.map fun v => v.category).sum ≤ 8) (hdg : decode cc g.pc = .ok (.invokestatic index, 3)) (hf : cells + mc ≤ R.cells ∧ slots + ms ≤ R.slots) :
    va_Run p l e R s m args below meth c H locs cells slots mc ms g rest (Qc As.toArray) (free) := by
  obtain ⟨hrc, hrs, hfr, hlo, hws, hcode, hini, hy, hlen, hl⟩ := cw
  obtain ⟨hx, hb, hml, ho, -⟩ := S
  intro T hT X
  obtain ⟨mk, methM, cM, hnamed, hmethM, hcM, -, hlM, -, -, -, hsigM⟩ := Cond.codeWith_spec hcode
  have hstatic : methM.isStatic = true := Cond.static_spec hnamed hmethM hstt
  obtain ⟨kP, hkP, -⟩ := className_of_methodNamed hnamed
  have hinitP : kP.init = .initialized := Cond.initialized_spec (findClass_of_methodNamed hnamed) hkP hini
  obtain ⟨vm₁, X₁, hstep₁⟩ := X.invokestatic hx ho hl hnamed hmethM hstatic hkP hinitP hy (g := g) hg (argsL := As) (rest := rest) (hn.trans (hlen _ hsigM)) hstack (by rw [hb]; exact hdg)
  have hW₁ : s.WarmedH vm₁ := X₁.warmed
  obtain ⟨o, t, T', L, hq, X', hL, e1, e2, hcase⟩ := ex_call (T := T.setVm vm₁) X₁ (y := y) (maxL := maxL) (g := { g with stack := rest }) (ig := .invokestatic index) (len := 3) (mk := mk) (a := As.toArray) (my := methM) (cy := cM) hM.toE hg (hsize.trans hml.symm) (by rw [hb]; exact hdg)
    hW (X₁.named hnamed) (by show vm₁.method? mk = some methM; rw [hW₁.alike.method?]; exact hmethM) hcM hlM (word_at hW₁ (Or.inl (by first | rfl | simp [Cond.onTables, Cond.keeps, Cond.steady])) hini) (fun w hw => hws w hw _ _ hW₁) hfr hlo (by rw [hrc]; exact hf.1) (by rw [hrs]; exact hf.2)
    (hp.1 _ _ _ _ (hp.2 (T.setVm vm₁) hT hW₁))
  have hst0 : ((T.setVm vm₁).calling { g with stack := rest } mk As.toArray).heap = H := hT
  rcases hcase with ⟨v, rfl, h1⟩ | ⟨x, rfl, -⟩
  · exact ⟨v, _, t, T', L, hst0, X', hL, e1, e2, hq, fun target h => hstep₁ _ (fun acts => by rw [doInvoke_state]; exact h1.trans h)⟩
  · obtain ⟨v, hv⟩ := hQ _ _ _ _ hq
    cases hv
theorem ex_runV (S : CallFix p m c cc nL s args Ts own) (hM : Met l y ws rm Pc Qc mc ms free) (hQ : ∀ a st o t, Qc a st o t → ∃ v, o = .returned v) (cw : ex_CB R s args own index y bytes maxL ret hs ws rm mc ms n) (hin : (Cond.instanceMethod y).before args s = true) (hse : (Cond.selects C y y).before args s = true) (hp : PreV s H C b Pc As)
    (hg : g.method = m) (hn : As.length = n) (hsize : g.locals.size = nL) (hstack : g.stack = As.reverse ++ .ref b :: rest) (hW : 2 * g.monitorRoom + (rest.map fun v => v.category).sum ≤ 8) (hdg : decode cc g.pc = .ok (.invokevirtual index, 3)) (hf : cells + mc ≤ R.cells ∧ slots + ms ≤ R.slots) :
    va_Run p l e R s m args below meth c H locs cells slots mc ms g rest (Qc (Value.ref b :: As).toArray) (free) := by
  obtain ⟨hrc, hrs, hfr, hlo, hws, hcode, hini, hy, hlen, hl⟩ := cw
  obtain ⟨hx, hb, hml, ho, -⟩ := S
  obtain ⟨hbl, ⟨cellB, hcB, hoB, hclB⟩, hPc⟩ := hp
  intro T hT X
  obtain ⟨mk, methM, hnamed, hmethM, hstM, habM⟩ := Cond.instanceMethod_spec hin
  obtain ⟨mk', methM', cM, hnamed', hmethM', hcM, -, hlM, -, -, -, hsigM⟩ := Cond.codeWith_spec hcode
  cases hnamed.symm.trans hnamed'
  cases hmethM.symm.trans hmethM'
  obtain ⟨c2, r2, m2, q1, q2, q3, q4, kP, hkP, hkPi⟩ := Cond.selects_spec hse
  cases hclB.symm.trans q1
  cases (State.methodFound?_of_named hnamed hy).symm.trans q2
  cases hnamed.symm.trans q3
  have hselP : selectMethod e.platform s.vm cellB.cls mk = .method mk := by rw [Launch.admits_selectMethod X.admits]; exact q4
  obtain ⟨vm₁, X₁, hstep₁⟩ := X.invokevirtual hx ho hl hnamed hmethM hstM hkP hkPi hy (a := b) (cell := cellB) (by rw [hT]; exact hcB)
    (fun z h => by rw [h] at hoB; cases hoB) hselP hmethM habM hkP hkPi (g := g) hg (argsL := As) (rest := rest) (hn.trans (hlen _ hsigM)) hstack (by rw [hb]; exact hdg)
  have hW₁ : s.WarmedH vm₁ := X₁.warmed
  obtain ⟨o, t, T', L, hq, X', hL, e1, e2, hcase⟩ := ex_call (T := T.setVm vm₁) X₁ (y := y) (maxL := maxL) (g := { g with stack := rest }) (ig := .invokevirtual index) (len := 3) (mk := mk) (a := (Value.ref b :: As).toArray) (my := methM) (cy := cM) hM.toE hg (hsize.trans hml.symm) (by rw [hb]; exact hdg)
    hW (X₁.named hnamed) (by show vm₁.method? mk = some methM; rw [hW₁.alike.method?]; exact hmethM) hcM hlM (word_at hW₁ (Or.inl (by first | rfl | simp [Cond.onTables, Cond.keeps, Cond.steady])) hini) (fun w hw => hws w hw _ _ hW₁) hfr hlo (by rw [hrc]; exact hf.1) (by rw [hrs]; exact hf.2)
    (hbl _ _ _ _ (hPc (T.setVm vm₁) hT hW₁))
  have hst0 : ((T.setVm vm₁).calling { g with stack := rest } mk (Value.ref b :: As).toArray).heap = H := hT
  rcases hcase with ⟨v, rfl, h1⟩ | ⟨x, rfl, -⟩
  · exact ⟨v, _, t, T', L, hst0, X', hL, e1, e2, hq, fun target h => hstep₁ _ (fun acts => by rw [doInvoke_state]; exact h1.trans h)⟩
  · obtain ⟨v, hv⟩ := hQ _ _ _ _ hq
    cases hv
end Ex3
end
