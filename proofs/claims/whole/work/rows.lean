section
-- ===== PART A: goes FIRST, ahead of the names: the tables' words, and 'selects' of the private methods out of them =====
/-- a private method of a class that the tables say can be made, by its rows of tables_1 -/
def lw_okq (q : MethodName × Nat) : Prop := (q.1.cls ≠ "java/lang/invoke/MethodHandle" ∧ q.1.cls ≠ "java/lang/invoke/VarHandle") ∧ Cond.instantiable q.1.cls q.2 ∈ tables_1 ∧ Cond.privateMethod q.1 ∈ tables_1 ∧ Cond.instanceMethod q.1 ∈ tables_1
theorem lw_p0 : lw_okq (⟨"MatrixScripts$Script", "advance", "()V"⟩, 17) := ⟨⟨by decide +kernel, by decide +kernel⟩, List.mem_of_getElem? (i := 49) (by decide +kernel), List.mem_of_getElem? (i := 614) (by decide +kernel), List.mem_of_getElem? (i := 615) (by decide +kernel)⟩
theorem lw_p1 : lw_okq (⟨"MatrixScripts$Tape", "behindBlanks", "(I)I"⟩, 5) := ⟨⟨by decide +kernel, by decide +kernel⟩, List.mem_of_getElem? (i := 55) (by decide +kernel), List.mem_of_getElem? (i := 622) (by decide +kernel), List.mem_of_getElem? (i := 623) (by decide +kernel)⟩
theorem lw_p2 : lw_okq (⟨"MatrixScripts$Script", "fail", "(II)V"⟩, 17) := ⟨⟨by decide +kernel, by decide +kernel⟩, List.mem_of_getElem? (i := 49) (by decide +kernel), List.mem_of_getElem? (i := 754) (by decide +kernel), List.mem_of_getElem? (i := 755) (by decide +kernel)⟩
theorem lw_p3 : lw_okq (⟨"java/lang/Throwable", "fillInStackTrace", "(I)Ljava/lang/Throwable;"⟩, 6) := ⟨⟨by decide +kernel, by decide +kernel⟩, List.mem_of_getElem? (i := 797) (by decide +kernel), List.mem_of_getElem? (i := 795) (by decide +kernel), List.mem_of_getElem? (i := 796) (by decide +kernel)⟩
theorem lw_p4 : lw_okq (⟨"MatrixScripts$Script", "take", "(I)V"⟩, 17) := ⟨⟨by decide +kernel, by decide +kernel⟩, List.mem_of_getElem? (i := 49) (by decide +kernel), List.mem_of_getElem? (i := 825) (by decide +kernel), List.mem_of_getElem? (i := 826) (by decide +kernel)⟩
theorem lw_p5 : lw_okq (⟨"MatrixScripts$Script", "emit", "(III)V"⟩, 17) := ⟨⟨by decide +kernel, by decide +kernel⟩, List.mem_of_getElem? (i := 49) (by decide +kernel), List.mem_of_getElem? (i := 829) (by decide +kernel), List.mem_of_getElem? (i := 830) (by decide +kernel)⟩
theorem lw_p6 : lw_okq (⟨"MatrixScripts$Script", "sum", "()V"⟩, 17) := ⟨⟨by decide +kernel, by decide +kernel⟩, List.mem_of_getElem? (i := 49) (by decide +kernel), List.mem_of_getElem? (i := 847) (by decide +kernel), List.mem_of_getElem? (i := 848) (by decide +kernel)⟩
theorem lw_p7 : lw_okq (⟨"MatrixScripts$Script", "term", "()V"⟩, 17) := ⟨⟨by decide +kernel, by decide +kernel⟩, List.mem_of_getElem? (i := 49) (by decide +kernel), List.mem_of_getElem? (i := 851) (by decide +kernel), List.mem_of_getElem? (i := 852) (by decide +kernel)⟩
theorem lw_p8 : lw_okq (⟨"MatrixScripts$Script", "factor", "()V"⟩, 17) := ⟨⟨by decide +kernel, by decide +kernel⟩, List.mem_of_getElem? (i := 49) (by decide +kernel), List.mem_of_getElem? (i := 855) (by decide +kernel), List.mem_of_getElem? (i := 856) (by decide +kernel)⟩
theorem lw_p9 : lw_okq (⟨"MatrixScripts$Script", "atom", "()V"⟩, 17) := ⟨⟨by decide +kernel, by decide +kernel⟩, List.mem_of_getElem? (i := 49) (by decide +kernel), List.mem_of_getElem? (i := 859) (by decide +kernel), List.mem_of_getElem? (i := 860) (by decide +kernel)⟩
theorem lw_p10 : lw_okq (⟨"MatrixScripts$Script", "call", "(I)V"⟩, 17) := ⟨⟨by decide +kernel, by decide +kernel⟩, List.mem_of_getElem? (i := 49) (by decide +kernel), List.mem_of_getElem? (i := 863) (by decide +kernel), List.mem_of_getElem? (i := 864) (by decide +kernel)⟩
theorem lw_p11 : lw_okq (⟨"MatrixScripts$Script", "open", "()V"⟩, 17) := ⟨⟨by decide +kernel, by decide +kernel⟩, List.mem_of_getElem? (i := 49) (by decide +kernel), List.mem_of_getElem? (i := 867) (by decide +kernel), List.mem_of_getElem? (i := 868) (by decide +kernel)⟩
theorem lw_p12 : lw_okq (⟨"MatrixScripts$Script", "join", "(I)V"⟩, 17) := ⟨⟨by decide +kernel, by decide +kernel⟩, List.mem_of_getElem? (i := 49) (by decide +kernel), List.mem_of_getElem? (i := 871) (by decide +kernel), List.mem_of_getElem? (i := 872) (by decide +kernel)⟩
theorem lw_p13 : lw_okq (⟨"MatrixScripts$Maker", "step", "(I)Z"⟩, 12) := ⟨⟨by decide +kernel, by decide +kernel⟩, List.mem_of_getElem? (i := 171) (by decide +kernel), List.mem_of_getElem? (i := 887) (by decide +kernel), List.mem_of_getElem? (i := 888) (by decide +kernel)⟩
theorem lw_p14 : lw_okq (⟨"MatrixScripts$Whole", "trim", "()V"⟩, 3) := ⟨⟨by decide +kernel, by decide +kernel⟩, List.mem_of_getElem? (i := 88) (by decide +kernel), List.mem_of_getElem? (i := 924) (by decide +kernel), List.mem_of_getElem? (i := 925) (by decide +kernel)⟩
theorem lw_p15 : lw_okq (⟨"MatrixScripts$Maker", "finish", "(I)I"⟩, 12) := ⟨⟨by decide +kernel, by decide +kernel⟩, List.mem_of_getElem? (i := 171) (by decide +kernel), List.mem_of_getElem? (i := 928) (by decide +kernel), List.mem_of_getElem? (i := 929) (by decide +kernel)⟩
def lw_privs_1 : List (MethodName × Nat) := [(⟨"MatrixScripts$Script", "advance", "()V"⟩, 17), (⟨"MatrixScripts$Tape", "behindBlanks", "(I)I"⟩, 5), (⟨"MatrixScripts$Script", "fail", "(II)V"⟩, 17), (⟨"java/lang/Throwable", "fillInStackTrace", "(I)Ljava/lang/Throwable;"⟩, 6), (⟨"MatrixScripts$Script", "take", "(I)V"⟩, 17), (⟨"MatrixScripts$Script", "emit", "(III)V"⟩, 17), (⟨"MatrixScripts$Script", "sum", "()V"⟩, 17), (⟨"MatrixScripts$Script", "term", "()V"⟩, 17), (⟨"MatrixScripts$Script", "factor", "()V"⟩, 17), (⟨"MatrixScripts$Script", "atom", "()V"⟩, 17), (⟨"MatrixScripts$Script", "call", "(I)V"⟩, 17), (⟨"MatrixScripts$Script", "open", "()V"⟩, 17), (⟨"MatrixScripts$Script", "join", "(I)V"⟩, 17), (⟨"MatrixScripts$Maker", "step", "(I)Z"⟩, 12), (⟨"MatrixScripts$Whole", "trim", "()V"⟩, 3), (⟨"MatrixScripts$Maker", "finish", "(I)I"⟩, 12)]
theorem lw_r1 : ∀ q ∈ lw_privs_1, lw_okq q := List.forall_mem_cons.mpr ⟨lw_p0, List.forall_mem_cons.mpr ⟨lw_p1, List.forall_mem_cons.mpr ⟨lw_p2, List.forall_mem_cons.mpr ⟨lw_p3, List.forall_mem_cons.mpr ⟨lw_p4, List.forall_mem_cons.mpr ⟨lw_p5, List.forall_mem_cons.mpr ⟨lw_p6, List.forall_mem_cons.mpr ⟨lw_p7, List.forall_mem_cons.mpr ⟨lw_p8, List.forall_mem_cons.mpr ⟨lw_p9, List.forall_mem_cons.mpr ⟨lw_p10, List.forall_mem_cons.mpr ⟨lw_p11, List.forall_mem_cons.mpr ⟨lw_p12, List.forall_mem_cons.mpr ⟨lw_p13, List.forall_mem_cons.mpr ⟨lw_p14, List.forall_mem_cons.mpr ⟨lw_p15, fun _ h => absurd h List.not_mem_nil⟩⟩⟩⟩⟩⟩⟩⟩⟩⟩⟩⟩⟩⟩⟩⟩
theorem lw_p16 : lw_okq (⟨"MatrixScripts$Calc", "lehmer", "()V"⟩, 14) := ⟨⟨by decide +kernel, by decide +kernel⟩, List.mem_of_getElem? (i := 242) (by decide +kernel), List.mem_of_getElem? (i := 963) (by decide +kernel), List.mem_of_getElem? (i := 964) (by decide +kernel)⟩
theorem lw_p17 : lw_okq (⟨"MatrixScripts$Calc", "digit", "(II)I"⟩, 14) := ⟨⟨by decide +kernel, by decide +kernel⟩, List.mem_of_getElem? (i := 242) (by decide +kernel), List.mem_of_getElem? (i := 997) (by decide +kernel), List.mem_of_getElem? (i := 998) (by decide +kernel)⟩
theorem lw_p18 : lw_okq (⟨"MatrixScripts$Calc", "mixBoth", "(Z)V"⟩, 14) := ⟨⟨by decide +kernel, by decide +kernel⟩, List.mem_of_getElem? (i := 242) (by decide +kernel), List.mem_of_getElem? (i := 1265) (by decide +kernel), List.mem_of_getElem? (i := 1266) (by decide +kernel)⟩
theorem lw_p19 : lw_okq (⟨"MatrixScripts$Values", "reckon", "(II)V"⟩, 6) := ⟨⟨by decide +kernel, by decide +kernel⟩, List.mem_of_getElem? (i := 138) (by decide +kernel), List.mem_of_getElem? (i := 1279) (by decide +kernel), List.mem_of_getElem? (i := 1280) (by decide +kernel)⟩
theorem lw_p20 : lw_okq (⟨"MatrixScripts$Values", "add", "(I)I"⟩, 6) := ⟨⟨by decide +kernel, by decide +kernel⟩, List.mem_of_getElem? (i := 138) (by decide +kernel), List.mem_of_getElem? (i := 1296) (by decide +kernel), List.mem_of_getElem? (i := 1297) (by decide +kernel)⟩
theorem lw_p21 : lw_okq (⟨"MatrixScripts$Values", "pack", "(LMatrixScripts$Whole;I)I"⟩, 6) := ⟨⟨by decide +kernel, by decide +kernel⟩, List.mem_of_getElem? (i := 138) (by decide +kernel), List.mem_of_getElem? (i := 1302) (by decide +kernel), List.mem_of_getElem? (i := 1303) (by decide +kernel)⟩
theorem lw_p22 : lw_okq (⟨"MatrixScripts$Script", "tell", "(I)I"⟩, 17) := ⟨⟨by decide +kernel, by decide +kernel⟩, List.mem_of_getElem? (i := 49) (by decide +kernel), List.mem_of_getElem? (i := 1307) (by decide +kernel), List.mem_of_getElem? (i := 1308) (by decide +kernel)⟩
theorem lw_p23 : lw_okq (⟨"MatrixScripts$Script", "called", "(I)LMatrixScripts$Called;"⟩, 17) := ⟨⟨by decide +kernel, by decide +kernel⟩, List.mem_of_getElem? (i := 49) (by decide +kernel), List.mem_of_getElem? (i := 1311) (by decide +kernel), List.mem_of_getElem? (i := 1312) (by decide +kernel)⟩
theorem lw_p24 : lw_okq (⟨"MatrixScripts$Script", "find", "(I)I"⟩, 17) := ⟨⟨by decide +kernel, by decide +kernel⟩, List.mem_of_getElem? (i := 49) (by decide +kernel), List.mem_of_getElem? (i := 1319) (by decide +kernel), List.mem_of_getElem? (i := 1320) (by decide +kernel)⟩
theorem lw_p25 : lw_okq (⟨"MatrixScripts$Script", "noteNumber", "(I)V"⟩, 17) := ⟨⟨by decide +kernel, by decide +kernel⟩, List.mem_of_getElem? (i := 49) (by decide +kernel), List.mem_of_getElem? (i := 1344) (by decide +kernel), List.mem_of_getElem? (i := 1345) (by decide +kernel)⟩
theorem lw_p26 : lw_okq (⟨"MatrixScripts$Maker", "refuse", "(LMatrixScripts$Called;I[JI)I"⟩, 12) := ⟨⟨by decide +kernel, by decide +kernel⟩, List.mem_of_getElem? (i := 171) (by decide +kernel), List.mem_of_getElem? (i := 1359) (by decide +kernel), List.mem_of_getElem? (i := 1360) (by decide +kernel)⟩
theorem lw_p27 : lw_okq (⟨"MatrixScripts$Values", "unpack", "(LMatrixScripts$Whole;I)I"⟩, 6) := ⟨⟨by decide +kernel, by decide +kernel⟩, List.mem_of_getElem? (i := 138) (by decide +kernel), List.mem_of_getElem? (i := 1369) (by decide +kernel), List.mem_of_getElem? (i := 1370) (by decide +kernel)⟩
theorem lw_p28 : lw_okq (⟨"MatrixScripts$Maker", "allows", "(LMatrixScripts$Called;[J)Z"⟩, 12) := ⟨⟨by decide +kernel, by decide +kernel⟩, List.mem_of_getElem? (i := 171) (by decide +kernel), List.mem_of_getElem? (i := 1374) (by decide +kernel), List.mem_of_getElem? (i := 1375) (by decide +kernel)⟩
theorem lw_p29 : lw_okq (⟨"MatrixScripts$Lattices", "prepare", "(LMatrixScripts$Matrix;LMatrixScripts$Matrix;)I"⟩, 12) := ⟨⟨by decide +kernel, by decide +kernel⟩, List.mem_of_getElem? (i := 179) (by decide +kernel), List.mem_of_getElem? (i := 1405) (by decide +kernel), List.mem_of_getElem? (i := 1406) (by decide +kernel)⟩
theorem lw_p30 : lw_okq (⟨"MatrixScripts$Elimination", "clearCell", "(II)V"⟩, 15) := ⟨⟨by decide +kernel, by decide +kernel⟩, List.mem_of_getElem? (i := 185) (by decide +kernel), List.mem_of_getElem? (i := 1447) (by decide +kernel), List.mem_of_getElem? (i := 1448) (by decide +kernel)⟩
theorem lw_p31 : lw_okq (⟨"MatrixScripts$Lattices", "clear", "(LMatrixScripts$Matrix;IIZ)Z"⟩, 12) := ⟨⟨by decide +kernel, by decide +kernel⟩, List.mem_of_getElem? (i := 179) (by decide +kernel), List.mem_of_getElem? (i := 1463) (by decide +kernel), List.mem_of_getElem? (i := 1464) (by decide +kernel)⟩
def lw_privs_2 : List (MethodName × Nat) := [(⟨"MatrixScripts$Calc", "lehmer", "()V"⟩, 14), (⟨"MatrixScripts$Calc", "digit", "(II)I"⟩, 14), (⟨"MatrixScripts$Calc", "mixBoth", "(Z)V"⟩, 14), (⟨"MatrixScripts$Values", "reckon", "(II)V"⟩, 6), (⟨"MatrixScripts$Values", "add", "(I)I"⟩, 6), (⟨"MatrixScripts$Values", "pack", "(LMatrixScripts$Whole;I)I"⟩, 6), (⟨"MatrixScripts$Script", "tell", "(I)I"⟩, 17), (⟨"MatrixScripts$Script", "called", "(I)LMatrixScripts$Called;"⟩, 17), (⟨"MatrixScripts$Script", "find", "(I)I"⟩, 17), (⟨"MatrixScripts$Script", "noteNumber", "(I)V"⟩, 17), (⟨"MatrixScripts$Maker", "refuse", "(LMatrixScripts$Called;I[JI)I"⟩, 12), (⟨"MatrixScripts$Values", "unpack", "(LMatrixScripts$Whole;I)I"⟩, 6), (⟨"MatrixScripts$Maker", "allows", "(LMatrixScripts$Called;[J)Z"⟩, 12), (⟨"MatrixScripts$Lattices", "prepare", "(LMatrixScripts$Matrix;LMatrixScripts$Matrix;)I"⟩, 12), (⟨"MatrixScripts$Elimination", "clearCell", "(II)V"⟩, 15), (⟨"MatrixScripts$Lattices", "clear", "(LMatrixScripts$Matrix;IIZ)Z"⟩, 12)]
theorem lw_r2 : ∀ q ∈ lw_privs_2, lw_okq q := List.forall_mem_cons.mpr ⟨lw_p16, List.forall_mem_cons.mpr ⟨lw_p17, List.forall_mem_cons.mpr ⟨lw_p18, List.forall_mem_cons.mpr ⟨lw_p19, List.forall_mem_cons.mpr ⟨lw_p20, List.forall_mem_cons.mpr ⟨lw_p21, List.forall_mem_cons.mpr ⟨lw_p22, List.forall_mem_cons.mpr ⟨lw_p23, List.forall_mem_cons.mpr ⟨lw_p24, List.forall_mem_cons.mpr ⟨lw_p25, List.forall_mem_cons.mpr ⟨lw_p26, List.forall_mem_cons.mpr ⟨lw_p27, List.forall_mem_cons.mpr ⟨lw_p28, List.forall_mem_cons.mpr ⟨lw_p29, List.forall_mem_cons.mpr ⟨lw_p30, List.forall_mem_cons.mpr ⟨lw_p31, fun _ h => absurd h List.not_mem_nil⟩⟩⟩⟩⟩⟩⟩⟩⟩⟩⟩⟩⟩⟩⟩⟩
theorem lw_p32 : lw_okq (⟨"MatrixScripts$Lattices", "closeRow", "(LMatrixScripts$Matrix;I)V"⟩, 12) := ⟨⟨by decide +kernel, by decide +kernel⟩, List.mem_of_getElem? (i := 179) (by decide +kernel), List.mem_of_getElem? (i := 1487) (by decide +kernel), List.mem_of_getElem? (i := 1488) (by decide +kernel)⟩
theorem lw_p33 : lw_okq (⟨"MatrixScripts$Lattices", "reduceAbove", "(LMatrixScripts$Matrix;II)V"⟩, 12) := ⟨⟨by decide +kernel, by decide +kernel⟩, List.mem_of_getElem? (i := 179) (by decide +kernel), List.mem_of_getElem? (i := 1492) (by decide +kernel), List.mem_of_getElem? (i := 1493) (by decide +kernel)⟩
theorem lw_p34 : lw_okq (⟨"MatrixScripts$Lattices", "dependent", "(LMatrixScripts$Matrix;IIILMatrixScripts$Whole;)V"⟩, 12) := ⟨⟨by decide +kernel, by decide +kernel⟩, List.mem_of_getElem? (i := 179) (by decide +kernel), List.mem_of_getElem? (i := 1501) (by decide +kernel), List.mem_of_getElem? (i := 1502) (by decide +kernel)⟩
theorem lw_p35 : lw_okq (⟨"MatrixScripts$Lattices", "findPivot", "(LMatrixScripts$Matrix;I)Z"⟩, 12) := ⟨⟨by decide +kernel, by decide +kernel⟩, List.mem_of_getElem? (i := 179) (by decide +kernel), List.mem_of_getElem? (i := 1511) (by decide +kernel), List.mem_of_getElem? (i := 1512) (by decide +kernel)⟩
theorem lw_p36 : lw_okq (⟨"MatrixScripts$Lattices", "chain", "(LMatrixScripts$Matrix;I)V"⟩, 12) := ⟨⟨by decide +kernel, by decide +kernel⟩, List.mem_of_getElem? (i := 179) (by decide +kernel), List.mem_of_getElem? (i := 1516) (by decide +kernel), List.mem_of_getElem? (i := 1517) (by decide +kernel)⟩
theorem lw_p37 : lw_okq (⟨"MatrixScripts$Lattices", "measure", "(LMatrixScripts$Matrix;LMatrixScripts$Matrix;I)V"⟩, 12) := ⟨⟨by decide +kernel, by decide +kernel⟩, List.mem_of_getElem? (i := 179) (by decide +kernel), List.mem_of_getElem? (i := 1524) (by decide +kernel), List.mem_of_getElem? (i := 1525) (by decide +kernel)⟩
theorem lw_p38 : lw_okq (⟨"MatrixScripts$Lattices", "share", "(II)LMatrixScripts$Whole;"⟩, 12) := ⟨⟨by decide +kernel, by decide +kernel⟩, List.mem_of_getElem? (i := 179) (by decide +kernel), List.mem_of_getElem? (i := 1528) (by decide +kernel), List.mem_of_getElem? (i := 1529) (by decide +kernel)⟩
theorem lw_p39 : lw_okq (⟨"MatrixScripts$Lattices", "shorten", "(LMatrixScripts$Matrix;LMatrixScripts$Matrix;II)V"⟩, 12) := ⟨⟨by decide +kernel, by decide +kernel⟩, List.mem_of_getElem? (i := 179) (by decide +kernel), List.mem_of_getElem? (i := 1532) (by decide +kernel), List.mem_of_getElem? (i := 1533) (by decide +kernel)⟩
theorem lw_p40 : lw_okq (⟨"MatrixScripts$Lattices", "isLong", "(LMatrixScripts$Matrix;I)Z"⟩, 12) := ⟨⟨by decide +kernel, by decide +kernel⟩, List.mem_of_getElem? (i := 179) (by decide +kernel), List.mem_of_getElem? (i := 1536) (by decide +kernel), List.mem_of_getElem? (i := 1537) (by decide +kernel)⟩
theorem lw_p41 : lw_okq (⟨"MatrixScripts$Lattices", "swap", "(LMatrixScripts$Matrix;LMatrixScripts$Matrix;II)V"⟩, 12) := ⟨⟨by decide +kernel, by decide +kernel⟩, List.mem_of_getElem? (i := 179) (by decide +kernel), List.mem_of_getElem? (i := 1542) (by decide +kernel), List.mem_of_getElem? (i := 1543) (by decide +kernel)⟩
theorem lw_p42 : lw_okq (⟨"MatrixScripts$Polynomials", "start", "(I)V"⟩, 8) := ⟨⟨by decide +kernel, by decide +kernel⟩, List.mem_of_getElem? (i := 388) (by decide +kernel), List.mem_of_getElem? (i := 1557) (by decide +kernel), List.mem_of_getElem? (i := 1558) (by decide +kernel)⟩
theorem lw_p43 : lw_okq (⟨"MatrixScripts$Modular", "toHessenberg", "()V"⟩, 17) := ⟨⟨by decide +kernel, by decide +kernel⟩, List.mem_of_getElem? (i := 394) (by decide +kernel), List.mem_of_getElem? (i := 1578) (by decide +kernel), List.mem_of_getElem? (i := 1579) (by decide +kernel)⟩
theorem lw_p44 : lw_okq (⟨"MatrixScripts$Modular", "exchange", "(II)V"⟩, 17) := ⟨⟨by decide +kernel, by decide +kernel⟩, List.mem_of_getElem? (i := 394) (by decide +kernel), List.mem_of_getElem? (i := 1582) (by decide +kernel), List.mem_of_getElem? (i := 1583) (by decide +kernel)⟩
theorem lw_p45 : lw_okq (⟨"MatrixScripts$Modular", "less", "(IJI)I"⟩, 17) := ⟨⟨by decide +kernel, by decide +kernel⟩, List.mem_of_getElem? (i := 394) (by decide +kernel), List.mem_of_getElem? (i := 1586) (by decide +kernel), List.mem_of_getElem? (i := 1587) (by decide +kernel)⟩
theorem lw_p46 : lw_okq (⟨"MatrixScripts$Modular", "characteristic", "()V"⟩, 17) := ⟨⟨by decide +kernel, by decide +kernel⟩, List.mem_of_getElem? (i := 394) (by decide +kernel), List.mem_of_getElem? (i := 1590) (by decide +kernel), List.mem_of_getElem? (i := 1591) (by decide +kernel)⟩
theorem lw_p47 : lw_okq (⟨"MatrixScripts$Modular", "longest", "()V"⟩, 17) := ⟨⟨by decide +kernel, by decide +kernel⟩, List.mem_of_getElem? (i := 394) (by decide +kernel), List.mem_of_getElem? (i := 1598) (by decide +kernel), List.mem_of_getElem? (i := 1599) (by decide +kernel)⟩
def lw_privs_3 : List (MethodName × Nat) := [(⟨"MatrixScripts$Lattices", "closeRow", "(LMatrixScripts$Matrix;I)V"⟩, 12), (⟨"MatrixScripts$Lattices", "reduceAbove", "(LMatrixScripts$Matrix;II)V"⟩, 12), (⟨"MatrixScripts$Lattices", "dependent", "(LMatrixScripts$Matrix;IIILMatrixScripts$Whole;)V"⟩, 12), (⟨"MatrixScripts$Lattices", "findPivot", "(LMatrixScripts$Matrix;I)Z"⟩, 12), (⟨"MatrixScripts$Lattices", "chain", "(LMatrixScripts$Matrix;I)V"⟩, 12), (⟨"MatrixScripts$Lattices", "measure", "(LMatrixScripts$Matrix;LMatrixScripts$Matrix;I)V"⟩, 12), (⟨"MatrixScripts$Lattices", "share", "(II)LMatrixScripts$Whole;"⟩, 12), (⟨"MatrixScripts$Lattices", "shorten", "(LMatrixScripts$Matrix;LMatrixScripts$Matrix;II)V"⟩, 12), (⟨"MatrixScripts$Lattices", "isLong", "(LMatrixScripts$Matrix;I)Z"⟩, 12), (⟨"MatrixScripts$Lattices", "swap", "(LMatrixScripts$Matrix;LMatrixScripts$Matrix;II)V"⟩, 12), (⟨"MatrixScripts$Polynomials", "start", "(I)V"⟩, 8), (⟨"MatrixScripts$Modular", "toHessenberg", "()V"⟩, 17), (⟨"MatrixScripts$Modular", "exchange", "(II)V"⟩, 17), (⟨"MatrixScripts$Modular", "less", "(IJI)I"⟩, 17), (⟨"MatrixScripts$Modular", "characteristic", "()V"⟩, 17), (⟨"MatrixScripts$Modular", "longest", "()V"⟩, 17)]
theorem lw_r3 : ∀ q ∈ lw_privs_3, lw_okq q := List.forall_mem_cons.mpr ⟨lw_p32, List.forall_mem_cons.mpr ⟨lw_p33, List.forall_mem_cons.mpr ⟨lw_p34, List.forall_mem_cons.mpr ⟨lw_p35, List.forall_mem_cons.mpr ⟨lw_p36, List.forall_mem_cons.mpr ⟨lw_p37, List.forall_mem_cons.mpr ⟨lw_p38, List.forall_mem_cons.mpr ⟨lw_p39, List.forall_mem_cons.mpr ⟨lw_p40, List.forall_mem_cons.mpr ⟨lw_p41, List.forall_mem_cons.mpr ⟨lw_p42, List.forall_mem_cons.mpr ⟨lw_p43, List.forall_mem_cons.mpr ⟨lw_p44, List.forall_mem_cons.mpr ⟨lw_p45, List.forall_mem_cons.mpr ⟨lw_p46, List.forall_mem_cons.mpr ⟨lw_p47, fun _ h => absurd h List.not_mem_nil⟩⟩⟩⟩⟩⟩⟩⟩⟩⟩⟩⟩⟩⟩⟩⟩
theorem lw_p48 : lw_okq (⟨"MatrixScripts$Modular", "reach", "([I)V"⟩, 17) := ⟨⟨by decide +kernel, by decide +kernel⟩, List.mem_of_getElem? (i := 394) (by decide +kernel), List.mem_of_getElem? (i := 1602) (by decide +kernel), List.mem_of_getElem? (i := 1603) (by decide +kernel)⟩
theorem lw_p49 : lw_okq (⟨"MatrixScripts$Modular", "advance", "()V"⟩, 17) := ⟨⟨by decide +kernel, by decide +kernel⟩, List.mem_of_getElem? (i := 394) (by decide +kernel), List.mem_of_getElem? (i := 1606) (by decide +kernel), List.mem_of_getElem? (i := 1607) (by decide +kernel)⟩
theorem lw_p50 : lw_okq (⟨"MatrixScripts$Modular", "applyOrder", "(II)V"⟩, 17) := ⟨⟨by decide +kernel, by decide +kernel⟩, List.mem_of_getElem? (i := 394) (by decide +kernel), List.mem_of_getElem? (i := 1610) (by decide +kernel), List.mem_of_getElem? (i := 1611) (by decide +kernel)⟩
theorem lw_p51 : lw_okq (⟨"MatrixScripts$Polynomials", "compareDegrees", "()I"⟩, 8) := ⟨⟨by decide +kernel, by decide +kernel⟩, List.mem_of_getElem? (i := 388) (by decide +kernel), List.mem_of_getElem? (i := 1614) (by decide +kernel), List.mem_of_getElem? (i := 1615) (by decide +kernel)⟩
theorem lw_p52 : lw_okq (⟨"MatrixScripts$Polynomials", "putTogether", "(I)V"⟩, 8) := ⟨⟨by decide +kernel, by decide +kernel⟩, List.mem_of_getElem? (i := 388) (by decide +kernel), List.mem_of_getElem? (i := 1622) (by decide +kernel), List.mem_of_getElem? (i := 1623) (by decide +kernel)⟩
theorem lw_p53 : lw_okq (⟨"MatrixScripts$Polynomials", "areSmall", "(I)Z"⟩, 8) := ⟨⟨by decide +kernel, by decide +kernel⟩, List.mem_of_getElem? (i := 388) (by decide +kernel), List.mem_of_getElem? (i := 1633) (by decide +kernel), List.mem_of_getElem? (i := 1634) (by decide +kernel)⟩
theorem lw_p54 : lw_okq (⟨"MatrixScripts$Polynomials", "raise", "(LMatrixScripts$Whole;I)V"⟩, 8) := ⟨⟨by decide +kernel, by decide +kernel⟩, List.mem_of_getElem? (i := 388) (by decide +kernel), List.mem_of_getElem? (i := 1644) (by decide +kernel), List.mem_of_getElem? (i := 1645) (by decide +kernel)⟩
theorem lw_p55 : lw_okq (⟨"MatrixScripts$Polynomials", "fillBlocks", "(ILMatrixScripts$Matrix;)V"⟩, 8) := ⟨⟨by decide +kernel, by decide +kernel⟩, List.mem_of_getElem? (i := 388) (by decide +kernel), List.mem_of_getElem? (i := 1649) (by decide +kernel), List.mem_of_getElem? (i := 1650) (by decide +kernel)⟩
theorem lw_p56 : lw_okq (⟨"MatrixScripts$Polynomials", "fillRow", "(LMatrixScripts$Matrix;)V"⟩, 8) := ⟨⟨by decide +kernel, by decide +kernel⟩, List.mem_of_getElem? (i := 388) (by decide +kernel), List.mem_of_getElem? (i := 1654) (by decide +kernel), List.mem_of_getElem? (i := 1655) (by decide +kernel)⟩
theorem lw_p57 : lw_okq (⟨"MatrixScripts$Maker", "cellsOf", "(LMatrixScripts$Called;[J)I"⟩, 12) := ⟨⟨by decide +kernel, by decide +kernel⟩, List.mem_of_getElem? (i := 171) (by decide +kernel), List.mem_of_getElem? (i := 1666) (by decide +kernel), List.mem_of_getElem? (i := 1667) (by decide +kernel)⟩
theorem lw_p58 : lw_okq (⟨"MatrixScripts$Maker", "count", "(LMatrixScripts$Called;)V"⟩, 12) := ⟨⟨by decide +kernel, by decide +kernel⟩, List.mem_of_getElem? (i := 171) (by decide +kernel), List.mem_of_getElem? (i := 1681) (by decide +kernel), List.mem_of_getElem? (i := 1682) (by decide +kernel)⟩
theorem lw_p59 : lw_okq (⟨"MatrixScripts$Elimination", "prepare", "(LMatrixScripts$Matrix;LMatrixScripts$Matrix;Z)Z"⟩, 15) := ⟨⟨by decide +kernel, by decide +kernel⟩, List.mem_of_getElem? (i := 185) (by decide +kernel), List.mem_of_getElem? (i := 1708) (by decide +kernel), List.mem_of_getElem? (i := 1709) (by decide +kernel)⟩
theorem lw_p60 : lw_okq (⟨"MatrixScripts$Elimination", "prepareResidues", "(LMatrixScripts$Matrix;LMatrixScripts$Matrix;ZI)Z"⟩, 15) := ⟨⟨by decide +kernel, by decide +kernel⟩, List.mem_of_getElem? (i := 185) (by decide +kernel), List.mem_of_getElem? (i := 1720) (by decide +kernel), List.mem_of_getElem? (i := 1721) (by decide +kernel)⟩
theorem lw_p61 : lw_okq (⟨"MatrixScripts$Elimination", "reduceResidues", "(II)V"⟩, 15) := ⟨⟨by decide +kernel, by decide +kernel⟩, List.mem_of_getElem? (i := 185) (by decide +kernel), List.mem_of_getElem? (i := 1726) (by decide +kernel), List.mem_of_getElem? (i := 1727) (by decide +kernel)⟩
theorem lw_p62 : lw_okq (⟨"MatrixScripts$Elimination", "takeRow", "(IIJI)V"⟩, 15) := ⟨⟨by decide +kernel, by decide +kernel⟩, List.mem_of_getElem? (i := 185) (by decide +kernel), List.mem_of_getElem? (i := 1730) (by decide +kernel), List.mem_of_getElem? (i := 1731) (by decide +kernel)⟩
theorem lw_p63 : lw_okq (⟨"MatrixScripts$Elimination", "isMissing", "(LMatrixScripts$Called;LMatrixScripts$Matrix;)Z"⟩, 15) := ⟨⟨by decide +kernel, by decide +kernel⟩, List.mem_of_getElem? (i := 185) (by decide +kernel), List.mem_of_getElem? (i := 1734) (by decide +kernel), List.mem_of_getElem? (i := 1735) (by decide +kernel)⟩
def lw_privs_4 : List (MethodName × Nat) := [(⟨"MatrixScripts$Modular", "reach", "([I)V"⟩, 17), (⟨"MatrixScripts$Modular", "advance", "()V"⟩, 17), (⟨"MatrixScripts$Modular", "applyOrder", "(II)V"⟩, 17), (⟨"MatrixScripts$Polynomials", "compareDegrees", "()I"⟩, 8), (⟨"MatrixScripts$Polynomials", "putTogether", "(I)V"⟩, 8), (⟨"MatrixScripts$Polynomials", "areSmall", "(I)Z"⟩, 8), (⟨"MatrixScripts$Polynomials", "raise", "(LMatrixScripts$Whole;I)V"⟩, 8), (⟨"MatrixScripts$Polynomials", "fillBlocks", "(ILMatrixScripts$Matrix;)V"⟩, 8), (⟨"MatrixScripts$Polynomials", "fillRow", "(LMatrixScripts$Matrix;)V"⟩, 8), (⟨"MatrixScripts$Maker", "cellsOf", "(LMatrixScripts$Called;[J)I"⟩, 12), (⟨"MatrixScripts$Maker", "count", "(LMatrixScripts$Called;)V"⟩, 12), (⟨"MatrixScripts$Elimination", "prepare", "(LMatrixScripts$Matrix;LMatrixScripts$Matrix;Z)Z"⟩, 15), (⟨"MatrixScripts$Elimination", "prepareResidues", "(LMatrixScripts$Matrix;LMatrixScripts$Matrix;ZI)Z"⟩, 15), (⟨"MatrixScripts$Elimination", "reduceResidues", "(II)V"⟩, 15), (⟨"MatrixScripts$Elimination", "takeRow", "(IIJI)V"⟩, 15), (⟨"MatrixScripts$Elimination", "isMissing", "(LMatrixScripts$Called;LMatrixScripts$Matrix;)Z"⟩, 15)]
theorem lw_r4 : ∀ q ∈ lw_privs_4, lw_okq q := List.forall_mem_cons.mpr ⟨lw_p48, List.forall_mem_cons.mpr ⟨lw_p49, List.forall_mem_cons.mpr ⟨lw_p50, List.forall_mem_cons.mpr ⟨lw_p51, List.forall_mem_cons.mpr ⟨lw_p52, List.forall_mem_cons.mpr ⟨lw_p53, List.forall_mem_cons.mpr ⟨lw_p54, List.forall_mem_cons.mpr ⟨lw_p55, List.forall_mem_cons.mpr ⟨lw_p56, List.forall_mem_cons.mpr ⟨lw_p57, List.forall_mem_cons.mpr ⟨lw_p58, List.forall_mem_cons.mpr ⟨lw_p59, List.forall_mem_cons.mpr ⟨lw_p60, List.forall_mem_cons.mpr ⟨lw_p61, List.forall_mem_cons.mpr ⟨lw_p62, List.forall_mem_cons.mpr ⟨lw_p63, fun _ h => absurd h List.not_mem_nil⟩⟩⟩⟩⟩⟩⟩⟩⟩⟩⟩⟩⟩⟩⟩⟩
theorem lw_p64 : lw_okq (⟨"MatrixScripts$Elimination", "determinant", "(IILMatrixScripts$Matrix;)I"⟩, 15) := ⟨⟨by decide +kernel, by decide +kernel⟩, List.mem_of_getElem? (i := 185) (by decide +kernel), List.mem_of_getElem? (i := 1740) (by decide +kernel), List.mem_of_getElem? (i := 1741) (by decide +kernel)⟩
theorem lw_p65 : lw_okq (⟨"MatrixScripts$Elimination", "fillKernel", "(LMatrixScripts$Matrix;I)V"⟩, 15) := ⟨⟨by decide +kernel, by decide +kernel⟩, List.mem_of_getElem? (i := 185) (by decide +kernel), List.mem_of_getElem? (i := 1750) (by decide +kernel), List.mem_of_getElem? (i := 1751) (by decide +kernel)⟩
theorem lw_p66 : lw_okq (⟨"MatrixScripts$Elimination", "fillRows", "(LMatrixScripts$Matrix;Z)V"⟩, 15) := ⟨⟨by decide +kernel, by decide +kernel⟩, List.mem_of_getElem? (i := 185) (by decide +kernel), List.mem_of_getElem? (i := 1754) (by decide +kernel), List.mem_of_getElem? (i := 1755) (by decide +kernel)⟩
theorem lw_p67 : lw_okq (⟨"MatrixScripts$Maker", "joinCommons", "(I)Z"⟩, 12) := ⟨⟨by decide +kernel, by decide +kernel⟩, List.mem_of_getElem? (i := 171) (by decide +kernel), List.mem_of_getElem? (i := 1772) (by decide +kernel), List.mem_of_getElem? (i := 1773) (by decide +kernel)⟩
theorem lw_p68 : lw_okq (⟨"MatrixScripts$Maker", "loadTwo", "()V"⟩, 12) := ⟨⟨by decide +kernel, by decide +kernel⟩, List.mem_of_getElem? (i := 171) (by decide +kernel), List.mem_of_getElem? (i := 1796) (by decide +kernel), List.mem_of_getElem? (i := 1797) (by decide +kernel)⟩
theorem lw_p69 : lw_okq (⟨"MatrixScripts$Maker", "multiplyLines", "(LMatrixScripts$Matrix;LMatrixScripts$Matrix;)V"⟩, 12) := ⟨⟨by decide +kernel, by decide +kernel⟩, List.mem_of_getElem? (i := 171) (by decide +kernel), List.mem_of_getElem? (i := 1805) (by decide +kernel), List.mem_of_getElem? (i := 1806) (by decide +kernel)⟩
theorem lw_p70 : lw_okq (⟨"MatrixScripts$Maker", "scale", "(LMatrixScripts$Matrix;LMatrixScripts$Whole;LMatrixScripts$Whole;)V"⟩, 12) := ⟨⟨by decide +kernel, by decide +kernel⟩, List.mem_of_getElem? (i := 171) (by decide +kernel), List.mem_of_getElem? (i := 1809) (by decide +kernel), List.mem_of_getElem? (i := 1810) (by decide +kernel)⟩
theorem lw_p71 : lw_okq (⟨"MatrixScripts$Page", "put", "(I)V"⟩, 5) := ⟨⟨by decide +kernel, by decide +kernel⟩, List.mem_of_getElem? (i := 82) (by decide +kernel), List.mem_of_getElem? (i := 1834) (by decide +kernel), List.mem_of_getElem? (i := 1835) (by decide +kernel)⟩
theorem lw_p72 : lw_okq (⟨"MatrixScripts$Page", "fraction", "(LMatrixScripts$Whole;LMatrixScripts$Whole;LMatrixScripts$Calc;)V"⟩, 5) := ⟨⟨by decide +kernel, by decide +kernel⟩, List.mem_of_getElem? (i := 82) (by decide +kernel), List.mem_of_getElem? (i := 1843) (by decide +kernel), List.mem_of_getElem? (i := 1844) (by decide +kernel)⟩
theorem lw_p73 : lw_okq (⟨"MatrixScripts$Page", "digits", "(LMatrixScripts$Whole;)V"⟩, 5) := ⟨⟨by decide +kernel, by decide +kernel⟩, List.mem_of_getElem? (i := 82) (by decide +kernel), List.mem_of_getElem? (i := 1849) (by decide +kernel), List.mem_of_getElem? (i := 1850) (by decide +kernel)⟩
theorem lw_p74 : lw_okq (⟨"MatrixScripts$Script", "statement", "(II)I"⟩, 17) := ⟨⟨by decide +kernel, by decide +kernel⟩, List.mem_of_getElem? (i := 49) (by decide +kernel), List.mem_of_getElem? (i := 1858) (by decide +kernel), List.mem_of_getElem? (i := 1859) (by decide +kernel)⟩
theorem lw_p75 : lw_okq (⟨"MatrixScripts$Script", "keep", "(I)Z"⟩, 17) := ⟨⟨by decide +kernel, by decide +kernel⟩, List.mem_of_getElem? (i := 49) (by decide +kernel), List.mem_of_getElem? (i := 1862) (by decide +kernel), List.mem_of_getElem? (i := 1863) (by decide +kernel)⟩
theorem lw_p76 : lw_okq (⟨"MatrixScriptsModel", "statements", "(Z)I"⟩, 37) := ⟨⟨by decide +kernel, by decide +kernel⟩, List.mem_of_getElem? (i := 1951) (by decide +kernel), List.mem_of_getElem? (i := 2193) (by decide +kernel), List.mem_of_getElem? (i := 2194) (by decide +kernel)⟩
theorem lw_p77 : lw_okq (⟨"MatrixScriptsModel", "next", "()V"⟩, 37) := ⟨⟨by decide +kernel, by decide +kernel⟩, List.mem_of_getElem? (i := 1951) (by decide +kernel), List.mem_of_getElem? (i := 2197) (by decide +kernel), List.mem_of_getElem? (i := 2198) (by decide +kernel)⟩
theorem lw_p78 : lw_okq (⟨"MatrixScriptsModel", "peek", "(I)I"⟩, 37) := ⟨⟨by decide +kernel, by decide +kernel⟩, List.mem_of_getElem? (i := 1951) (by decide +kernel), List.mem_of_getElem? (i := 2201) (by decide +kernel), List.mem_of_getElem? (i := 2202) (by decide +kernel)⟩
theorem lw_p79 : lw_okq (⟨"MatrixScriptsModel", "need", "(ZII)V"⟩, 37) := ⟨⟨by decide +kernel, by decide +kernel⟩, List.mem_of_getElem? (i := 1951) (by decide +kernel), List.mem_of_getElem? (i := 2211) (by decide +kernel), List.mem_of_getElem? (i := 2212) (by decide +kernel)⟩
def lw_privs_5 : List (MethodName × Nat) := [(⟨"MatrixScripts$Elimination", "determinant", "(IILMatrixScripts$Matrix;)I"⟩, 15), (⟨"MatrixScripts$Elimination", "fillKernel", "(LMatrixScripts$Matrix;I)V"⟩, 15), (⟨"MatrixScripts$Elimination", "fillRows", "(LMatrixScripts$Matrix;Z)V"⟩, 15), (⟨"MatrixScripts$Maker", "joinCommons", "(I)Z"⟩, 12), (⟨"MatrixScripts$Maker", "loadTwo", "()V"⟩, 12), (⟨"MatrixScripts$Maker", "multiplyLines", "(LMatrixScripts$Matrix;LMatrixScripts$Matrix;)V"⟩, 12), (⟨"MatrixScripts$Maker", "scale", "(LMatrixScripts$Matrix;LMatrixScripts$Whole;LMatrixScripts$Whole;)V"⟩, 12), (⟨"MatrixScripts$Page", "put", "(I)V"⟩, 5), (⟨"MatrixScripts$Page", "fraction", "(LMatrixScripts$Whole;LMatrixScripts$Whole;LMatrixScripts$Calc;)V"⟩, 5), (⟨"MatrixScripts$Page", "digits", "(LMatrixScripts$Whole;)V"⟩, 5), (⟨"MatrixScripts$Script", "statement", "(II)I"⟩, 17), (⟨"MatrixScripts$Script", "keep", "(I)Z"⟩, 17), (⟨"MatrixScriptsModel", "statements", "(Z)I"⟩, 37), (⟨"MatrixScriptsModel", "next", "()V"⟩, 37), (⟨"MatrixScriptsModel", "peek", "(I)I"⟩, 37), (⟨"MatrixScriptsModel", "need", "(ZII)V"⟩, 37)]
theorem lw_r5 : ∀ q ∈ lw_privs_5, lw_okq q := List.forall_mem_cons.mpr ⟨lw_p64, List.forall_mem_cons.mpr ⟨lw_p65, List.forall_mem_cons.mpr ⟨lw_p66, List.forall_mem_cons.mpr ⟨lw_p67, List.forall_mem_cons.mpr ⟨lw_p68, List.forall_mem_cons.mpr ⟨lw_p69, List.forall_mem_cons.mpr ⟨lw_p70, List.forall_mem_cons.mpr ⟨lw_p71, List.forall_mem_cons.mpr ⟨lw_p72, List.forall_mem_cons.mpr ⟨lw_p73, List.forall_mem_cons.mpr ⟨lw_p74, List.forall_mem_cons.mpr ⟨lw_p75, List.forall_mem_cons.mpr ⟨lw_p76, List.forall_mem_cons.mpr ⟨lw_p77, List.forall_mem_cons.mpr ⟨lw_p78, List.forall_mem_cons.mpr ⟨lw_p79, fun _ h => absurd h List.not_mem_nil⟩⟩⟩⟩⟩⟩⟩⟩⟩⟩⟩⟩⟩⟩⟩⟩
theorem lw_p80 : lw_okq (⟨"MatrixScriptsModel", "fail", "(II)V"⟩, 37) := ⟨⟨by decide +kernel, by decide +kernel⟩, List.mem_of_getElem? (i := 1951) (by decide +kernel), List.mem_of_getElem? (i := 2215) (by decide +kernel), List.mem_of_getElem? (i := 2216) (by decide +kernel)⟩
theorem lw_p81 : lw_okq (⟨"MatrixScriptsModel", "statement", "()V"⟩, 37) := ⟨⟨by decide +kernel, by decide +kernel⟩, List.mem_of_getElem? (i := 1951) (by decide +kernel), List.mem_of_getElem? (i := 2224) (by decide +kernel), List.mem_of_getElem? (i := 2225) (by decide +kernel)⟩
theorem lw_p82 : lw_okq (⟨"MatrixScriptsModel", "isOwn", "()Z"⟩, 37) := ⟨⟨by decide +kernel, by decide +kernel⟩, List.mem_of_getElem? (i := 1951) (by decide +kernel), List.mem_of_getElem? (i := 2228) (by decide +kernel), List.mem_of_getElem? (i := 2229) (by decide +kernel)⟩
theorem lw_p83 : lw_okq (⟨"MatrixScriptsModel", "isWord", "(Ljava/lang/String;II)Z"⟩, 37) := ⟨⟨by decide +kernel, by decide +kernel⟩, List.mem_of_getElem? (i := 1951) (by decide +kernel), List.mem_of_getElem? (i := 2233) (by decide +kernel), List.mem_of_getElem? (i := 2234) (by decide +kernel)⟩
theorem lw_p84 : lw_okq (⟨"MatrixScriptsModel", "called", "(II)I"⟩, 37) := ⟨⟨by decide +kernel, by decide +kernel⟩, List.mem_of_getElem? (i := 1951) (by decide +kernel), List.mem_of_getElem? (i := 2240) (by decide +kernel), List.mem_of_getElem? (i := 2241) (by decide +kernel)⟩
theorem lw_p85 : lw_okq (⟨"MatrixScriptsModel", "sign", "(I)V"⟩, 37) := ⟨⟨by decide +kernel, by decide +kernel⟩, List.mem_of_getElem? (i := 1951) (by decide +kernel), List.mem_of_getElem? (i := 2245) (by decide +kernel), List.mem_of_getElem? (i := 2246) (by decide +kernel)⟩
theorem lw_p86 : lw_okq (⟨"MatrixScriptsModel", "isSign", "(I)Z"⟩, 37) := ⟨⟨by decide +kernel, by decide +kernel⟩, List.mem_of_getElem? (i := 1951) (by decide +kernel), List.mem_of_getElem? (i := 2249) (by decide +kernel), List.mem_of_getElem? (i := 2250) (by decide +kernel)⟩
theorem lw_p87 : lw_okq (⟨"MatrixScriptsModel", "sum", "()I"⟩, 37) := ⟨⟨by decide +kernel, by decide +kernel⟩, List.mem_of_getElem? (i := 1951) (by decide +kernel), List.mem_of_getElem? (i := 2253) (by decide +kernel), List.mem_of_getElem? (i := 2254) (by decide +kernel)⟩
theorem lw_p88 : lw_okq (⟨"MatrixScriptsModel", "term", "()I"⟩, 37) := ⟨⟨by decide +kernel, by decide +kernel⟩, List.mem_of_getElem? (i := 1951) (by decide +kernel), List.mem_of_getElem? (i := 2257) (by decide +kernel), List.mem_of_getElem? (i := 2258) (by decide +kernel)⟩
theorem lw_p89 : lw_okq (⟨"MatrixScriptsModel", "factor", "()I"⟩, 37) := ⟨⟨by decide +kernel, by decide +kernel⟩, List.mem_of_getElem? (i := 1951) (by decide +kernel), List.mem_of_getElem? (i := 2261) (by decide +kernel), List.mem_of_getElem? (i := 2262) (by decide +kernel)⟩
theorem lw_p90 : lw_okq (⟨"MatrixScriptsModel", "atom", "()I"⟩, 37) := ⟨⟨by decide +kernel, by decide +kernel⟩, List.mem_of_getElem? (i := 1951) (by decide +kernel), List.mem_of_getElem? (i := 2265) (by decide +kernel), List.mem_of_getElem? (i := 2266) (by decide +kernel)⟩
theorem lw_p91 : lw_okq (⟨"MatrixScriptsModel", "step", "(JI)V"⟩, 37) := ⟨⟨by decide +kernel, by decide +kernel⟩, List.mem_of_getElem? (i := 1951) (by decide +kernel), List.mem_of_getElem? (i := 2269) (by decide +kernel), List.mem_of_getElem? (i := 2270) (by decide +kernel)⟩
theorem lw_p92 : lw_okq (⟨"MatrixScriptsModel", "literal", "(II)I"⟩, 37) := ⟨⟨by decide +kernel, by decide +kernel⟩, List.mem_of_getElem? (i := 1951) (by decide +kernel), List.mem_of_getElem? (i := 2274) (by decide +kernel), List.mem_of_getElem? (i := 2275) (by decide +kernel)⟩
theorem lw_p93 : lw_okq (⟨"MatrixScriptsModel$Wholes", "room", "(I)V"⟩, 3) := ⟨⟨by decide +kernel, by decide +kernel⟩, List.mem_of_getElem? (i := 1964) (by decide +kernel), List.mem_of_getElem? (i := 2288) (by decide +kernel), List.mem_of_getElem? (i := 2289) (by decide +kernel)⟩
theorem lw_p94 : lw_okq (⟨"MatrixScriptsModel$Wholes", "finish", "(IZ)I"⟩, 3) := ⟨⟨by decide +kernel, by decide +kernel⟩, List.mem_of_getElem? (i := 1964) (by decide +kernel), List.mem_of_getElem? (i := 2296) (by decide +kernel), List.mem_of_getElem? (i := 2297) (by decide +kernel)⟩
theorem lw_p95 : lw_okq (⟨"MatrixScriptsModel$Wholes", "combine", "(IIZ)I"⟩, 3) := ⟨⟨by decide +kernel, by decide +kernel⟩, List.mem_of_getElem? (i := 1964) (by decide +kernel), List.mem_of_getElem? (i := 2312) (by decide +kernel), List.mem_of_getElem? (i := 2313) (by decide +kernel)⟩
def lw_privs_6 : List (MethodName × Nat) := [(⟨"MatrixScriptsModel", "fail", "(II)V"⟩, 37), (⟨"MatrixScriptsModel", "statement", "()V"⟩, 37), (⟨"MatrixScriptsModel", "isOwn", "()Z"⟩, 37), (⟨"MatrixScriptsModel", "isWord", "(Ljava/lang/String;II)Z"⟩, 37), (⟨"MatrixScriptsModel", "called", "(II)I"⟩, 37), (⟨"MatrixScriptsModel", "sign", "(I)V"⟩, 37), (⟨"MatrixScriptsModel", "isSign", "(I)Z"⟩, 37), (⟨"MatrixScriptsModel", "sum", "()I"⟩, 37), (⟨"MatrixScriptsModel", "term", "()I"⟩, 37), (⟨"MatrixScriptsModel", "factor", "()I"⟩, 37), (⟨"MatrixScriptsModel", "atom", "()I"⟩, 37), (⟨"MatrixScriptsModel", "step", "(JI)V"⟩, 37), (⟨"MatrixScriptsModel", "literal", "(II)I"⟩, 37), (⟨"MatrixScriptsModel$Wholes", "room", "(I)V"⟩, 3), (⟨"MatrixScriptsModel$Wholes", "finish", "(IZ)I"⟩, 3), (⟨"MatrixScriptsModel$Wholes", "combine", "(IIZ)I"⟩, 3)]
theorem lw_r6 : ∀ q ∈ lw_privs_6, lw_okq q := List.forall_mem_cons.mpr ⟨lw_p80, List.forall_mem_cons.mpr ⟨lw_p81, List.forall_mem_cons.mpr ⟨lw_p82, List.forall_mem_cons.mpr ⟨lw_p83, List.forall_mem_cons.mpr ⟨lw_p84, List.forall_mem_cons.mpr ⟨lw_p85, List.forall_mem_cons.mpr ⟨lw_p86, List.forall_mem_cons.mpr ⟨lw_p87, List.forall_mem_cons.mpr ⟨lw_p88, List.forall_mem_cons.mpr ⟨lw_p89, List.forall_mem_cons.mpr ⟨lw_p90, List.forall_mem_cons.mpr ⟨lw_p91, List.forall_mem_cons.mpr ⟨lw_p92, List.forall_mem_cons.mpr ⟨lw_p93, List.forall_mem_cons.mpr ⟨lw_p94, List.forall_mem_cons.mpr ⟨lw_p95, fun _ h => absurd h List.not_mem_nil⟩⟩⟩⟩⟩⟩⟩⟩⟩⟩⟩⟩⟩⟩⟩⟩
theorem lw_p96 : lw_okq (⟨"MatrixScriptsModel$Wholes", "sumSizes", "(IIZ)I"⟩, 3) := ⟨⟨by decide +kernel, by decide +kernel⟩, List.mem_of_getElem? (i := 1964) (by decide +kernel), List.mem_of_getElem? (i := 2316) (by decide +kernel), List.mem_of_getElem? (i := 2317) (by decide +kernel)⟩
theorem lw_p97 : lw_okq (⟨"MatrixScriptsModel$Wholes", "digit", "(II)I"⟩, 3) := ⟨⟨by decide +kernel, by decide +kernel⟩, List.mem_of_getElem? (i := 1964) (by decide +kernel), List.mem_of_getElem? (i := 2321) (by decide +kernel), List.mem_of_getElem? (i := 2322) (by decide +kernel)⟩
theorem lw_p98 : lw_okq (⟨"MatrixScriptsModel$Wholes", "orderSizes", "(II)I"⟩, 3) := ⟨⟨by decide +kernel, by decide +kernel⟩, List.mem_of_getElem? (i := 1964) (by decide +kernel), List.mem_of_getElem? (i := 2326) (by decide +kernel), List.mem_of_getElem? (i := 2327) (by decide +kernel)⟩
theorem lw_p99 : lw_okq (⟨"MatrixScriptsModel$Wholes", "lessSizes", "(IIZ)I"⟩, 3) := ⟨⟨by decide +kernel, by decide +kernel⟩, List.mem_of_getElem? (i := 1964) (by decide +kernel), List.mem_of_getElem? (i := 2330) (by decide +kernel), List.mem_of_getElem? (i := 2331) (by decide +kernel)⟩
theorem lw_p100 : lw_okq (⟨"MatrixScriptsModel", "fits", "(II)I"⟩, 37) := ⟨⟨by decide +kernel, by decide +kernel⟩, List.mem_of_getElem? (i := 1951) (by decide +kernel), List.mem_of_getElem? (i := 2346) (by decide +kernel), List.mem_of_getElem? (i := 2347) (by decide +kernel)⟩
theorem lw_p101 : lw_okq (⟨"MatrixScriptsModel", "limbsOf", "(I)I"⟩, 37) := ⟨⟨by decide +kernel, by decide +kernel⟩, List.mem_of_getElem? (i := 1951) (by decide +kernel), List.mem_of_getElem? (i := 2362) (by decide +kernel), List.mem_of_getElem? (i := 2363) (by decide +kernel)⟩
theorem lw_p102 : lw_okq (⟨"MatrixScriptsModel", "commonOf", "(I)I"⟩, 37) := ⟨⟨by decide +kernel, by decide +kernel⟩, List.mem_of_getElem? (i := 1951) (by decide +kernel), List.mem_of_getElem? (i := 2366) (by decide +kernel), List.mem_of_getElem? (i := 2367) (by decide +kernel)⟩
theorem lw_p103 : lw_okq (⟨"MatrixScriptsModel$Wholes", "leading", "(III)J"⟩, 3) := ⟨⟨by decide +kernel, by decide +kernel⟩, List.mem_of_getElem? (i := 1964) (by decide +kernel), List.mem_of_getElem? (i := 2382) (by decide +kernel), List.mem_of_getElem? (i := 2383) (by decide +kernel)⟩
theorem lw_p104 : lw_okq (⟨"MatrixScriptsModel$Wholes", "takes", "(IIII)Z"⟩, 3) := ⟨⟨by decide +kernel, by decide +kernel⟩, List.mem_of_getElem? (i := 1964) (by decide +kernel), List.mem_of_getElem? (i := 2390) (by decide +kernel), List.mem_of_getElem? (i := 2391) (by decide +kernel)⟩
theorem lw_p105 : lw_okq (⟨"MatrixScriptsModel", "timesCommon", "(III)I"⟩, 37) := ⟨⟨by decide +kernel, by decide +kernel⟩, List.mem_of_getElem? (i := 1951) (by decide +kernel), List.mem_of_getElem? (i := 2425) (by decide +kernel), List.mem_of_getElem? (i := 2426) (by decide +kernel)⟩
theorem lw_p106 : lw_okq (⟨"MatrixScriptsModel", "hold", "(III)V"⟩, 37) := ⟨⟨by decide +kernel, by decide +kernel⟩, List.mem_of_getElem? (i := 1951) (by decide +kernel), List.mem_of_getElem? (i := 2434) (by decide +kernel), List.mem_of_getElem? (i := 2435) (by decide +kernel)⟩
theorem lw_p107 : lw_okq (⟨"MatrixScriptsModel", "open", "(I)V"⟩, 37) := ⟨⟨by decide +kernel, by decide +kernel⟩, List.mem_of_getElem? (i := 1951) (by decide +kernel), List.mem_of_getElem? (i := 2439) (by decide +kernel), List.mem_of_getElem? (i := 2440) (by decide +kernel)⟩
theorem lw_p108 : lw_okq (⟨"MatrixScriptsModel", "close", "(I)V"⟩, 37) := ⟨⟨by decide +kernel, by decide +kernel⟩, List.mem_of_getElem? (i := 1951) (by decide +kernel), List.mem_of_getElem? (i := 2443) (by decide +kernel), List.mem_of_getElem? (i := 2444) (by decide +kernel)⟩
theorem lw_p109 : lw_okq (⟨"MatrixScriptsModel", "together", "()I"⟩, 37) := ⟨⟨by decide +kernel, by decide +kernel⟩, List.mem_of_getElem? (i := 1951) (by decide +kernel), List.mem_of_getElem? (i := 2447) (by decide +kernel), List.mem_of_getElem? (i := 2448) (by decide +kernel)⟩
theorem lw_p110 : lw_okq (⟨"MatrixScriptsModel", "part", "(I)V"⟩, 37) := ⟨⟨by decide +kernel, by decide +kernel⟩, List.mem_of_getElem? (i := 1951) (by decide +kernel), List.mem_of_getElem? (i := 2451) (by decide +kernel), List.mem_of_getElem? (i := 2452) (by decide +kernel)⟩
theorem lw_p111 : lw_okq (⟨"MatrixScriptsModel", "down", "(IIIIIII)I"⟩, 37) := ⟨⟨by decide +kernel, by decide +kernel⟩, List.mem_of_getElem? (i := 1951) (by decide +kernel), List.mem_of_getElem? (i := 2465) (by decide +kernel), List.mem_of_getElem? (i := 2466) (by decide +kernel)⟩
def lw_privs_7 : List (MethodName × Nat) := [(⟨"MatrixScriptsModel$Wholes", "sumSizes", "(IIZ)I"⟩, 3), (⟨"MatrixScriptsModel$Wholes", "digit", "(II)I"⟩, 3), (⟨"MatrixScriptsModel$Wholes", "orderSizes", "(II)I"⟩, 3), (⟨"MatrixScriptsModel$Wholes", "lessSizes", "(IIZ)I"⟩, 3), (⟨"MatrixScriptsModel", "fits", "(II)I"⟩, 37), (⟨"MatrixScriptsModel", "limbsOf", "(I)I"⟩, 37), (⟨"MatrixScriptsModel", "commonOf", "(I)I"⟩, 37), (⟨"MatrixScriptsModel$Wholes", "leading", "(III)J"⟩, 3), (⟨"MatrixScriptsModel$Wholes", "takes", "(IIII)Z"⟩, 3), (⟨"MatrixScriptsModel", "timesCommon", "(III)I"⟩, 37), (⟨"MatrixScriptsModel", "hold", "(III)V"⟩, 37), (⟨"MatrixScriptsModel", "open", "(I)V"⟩, 37), (⟨"MatrixScriptsModel", "close", "(I)V"⟩, 37), (⟨"MatrixScriptsModel", "together", "()I"⟩, 37), (⟨"MatrixScriptsModel", "part", "(I)V"⟩, 37), (⟨"MatrixScriptsModel", "down", "(IIIIIII)I"⟩, 37)]
theorem lw_r7 : ∀ q ∈ lw_privs_7, lw_okq q := List.forall_mem_cons.mpr ⟨lw_p96, List.forall_mem_cons.mpr ⟨lw_p97, List.forall_mem_cons.mpr ⟨lw_p98, List.forall_mem_cons.mpr ⟨lw_p99, List.forall_mem_cons.mpr ⟨lw_p100, List.forall_mem_cons.mpr ⟨lw_p101, List.forall_mem_cons.mpr ⟨lw_p102, List.forall_mem_cons.mpr ⟨lw_p103, List.forall_mem_cons.mpr ⟨lw_p104, List.forall_mem_cons.mpr ⟨lw_p105, List.forall_mem_cons.mpr ⟨lw_p106, List.forall_mem_cons.mpr ⟨lw_p107, List.forall_mem_cons.mpr ⟨lw_p108, List.forall_mem_cons.mpr ⟨lw_p109, List.forall_mem_cons.mpr ⟨lw_p110, List.forall_mem_cons.mpr ⟨lw_p111, fun _ h => absurd h List.not_mem_nil⟩⟩⟩⟩⟩⟩⟩⟩⟩⟩⟩⟩⟩⟩⟩⟩
theorem lw_p112 : lw_okq (⟨"MatrixScriptsModel", "call", "(II)I"⟩, 37) := ⟨⟨by decide +kernel, by decide +kernel⟩, List.mem_of_getElem? (i := 1951) (by decide +kernel), List.mem_of_getElem? (i := 2475) (by decide +kernel), List.mem_of_getElem? (i := 2476) (by decide +kernel)⟩
theorem lw_p113 : lw_okq (⟨"MatrixScriptsModel", "small", "(II)J"⟩, 37) := ⟨⟨by decide +kernel, by decide +kernel⟩, List.mem_of_getElem? (i := 1951) (by decide +kernel), List.mem_of_getElem? (i := 2479) (by decide +kernel), List.mem_of_getElem? (i := 2480) (by decide +kernel)⟩
theorem lw_p114 : lw_okq (⟨"MatrixScriptsModel", "done", "(IIIIJ)I"⟩, 37) := ⟨⟨by decide +kernel, by decide +kernel⟩, List.mem_of_getElem? (i := 1951) (by decide +kernel), List.mem_of_getElem? (i := 2485) (by decide +kernel), List.mem_of_getElem? (i := 2486) (by decide +kernel)⟩
theorem lw_p115 : lw_okq (⟨"MatrixScriptsModel", "wants", "(IIII)V"⟩, 37) := ⟨⟨by decide +kernel, by decide +kernel⟩, List.mem_of_getElem? (i := 1951) (by decide +kernel), List.mem_of_getElem? (i := 2489) (by decide +kernel), List.mem_of_getElem? (i := 2490) (by decide +kernel)⟩
theorem lw_p116 : lw_okq (⟨"MatrixScriptsModel", "zeros", "(II)I"⟩, 37) := ⟨⟨by decide +kernel, by decide +kernel⟩, List.mem_of_getElem? (i := 1951) (by decide +kernel), List.mem_of_getElem? (i := 2504) (by decide +kernel), List.mem_of_getElem? (i := 2505) (by decide +kernel)⟩
theorem lw_p117 : lw_okq (⟨"MatrixScriptsModel", "square", "(II)V"⟩, 37) := ⟨⟨by decide +kernel, by decide +kernel⟩, List.mem_of_getElem? (i := 1951) (by decide +kernel), List.mem_of_getElem? (i := 2515) (by decide +kernel), List.mem_of_getElem? (i := 2516) (by decide +kernel)⟩
theorem lw_p118 : lw_okq (⟨"MatrixScriptsModel$Fractions", "reduce", "(III)V"⟩, 7) := ⟨⟨by decide +kernel, by decide +kernel⟩, List.mem_of_getElem? (i := 1958) (by decide +kernel), List.mem_of_getElem? (i := 2531) (by decide +kernel), List.mem_of_getElem? (i := 2532) (by decide +kernel)⟩
theorem lw_p119 : lw_okq (⟨"MatrixScriptsModel$Fractions", "settle", "(III)V"⟩, 7) := ⟨⟨by decide +kernel, by decide +kernel⟩, List.mem_of_getElem? (i := 1958) (by decide +kernel), List.mem_of_getElem? (i := 2544) (by decide +kernel), List.mem_of_getElem? (i := 2545) (by decide +kernel)⟩
theorem lw_p120 : lw_okq (⟨"MatrixScriptsModel", "one", "()I"⟩, 37) := ⟨⟨by decide +kernel, by decide +kernel⟩, List.mem_of_getElem? (i := 1951) (by decide +kernel), List.mem_of_getElem? (i := 2554) (by decide +kernel), List.mem_of_getElem? (i := 2555) (by decide +kernel)⟩
theorem lw_p121 : lw_okq (⟨"MatrixScriptsModel", "prime", "()J"⟩, 37) := ⟨⟨by decide +kernel, by decide +kernel⟩, List.mem_of_getElem? (i := 1951) (by decide +kernel), List.mem_of_getElem? (i := 2558) (by decide +kernel), List.mem_of_getElem? (i := 2559) (by decide +kernel)⟩
theorem lw_p122 : lw_okq (⟨"MatrixScriptsModel", "cleared", "(IIIIJ)I"⟩, 37) := ⟨⟨by decide +kernel, by decide +kernel⟩, List.mem_of_getElem? (i := 1951) (by decide +kernel), List.mem_of_getElem? (i := 2589) (by decide +kernel), List.mem_of_getElem? (i := 2590) (by decide +kernel)⟩
theorem lw_p123 : lw_okq (⟨"MatrixScriptsModel", "weight", "(IIZ)J"⟩, 37) := ⟨⟨by decide +kernel, by decide +kernel⟩, List.mem_of_getElem? (i := 1951) (by decide +kernel), List.mem_of_getElem? (i := 2593) (by decide +kernel), List.mem_of_getElem? (i := 2594) (by decide +kernel)⟩
theorem lw_p124 : lw_okq (⟨"MatrixScriptsModel", "multiple", "(III)I"⟩, 37) := ⟨⟨by decide +kernel, by decide +kernel⟩, List.mem_of_getElem? (i := 1951) (by decide +kernel), List.mem_of_getElem? (i := 2597) (by decide +kernel), List.mem_of_getElem? (i := 2598) (by decide +kernel)⟩
theorem lw_p125 : lw_okq (⟨"MatrixScriptsModel", "longest", "(III)I"⟩, 37) := ⟨⟨by decide +kernel, by decide +kernel⟩, List.mem_of_getElem? (i := 1951) (by decide +kernel), List.mem_of_getElem? (i := 2601) (by decide +kernel), List.mem_of_getElem? (i := 2602) (by decide +kernel)⟩
theorem lw_p126 : lw_okq (⟨"MatrixScriptsModel", "clearedAt", "(IIIIJ)I"⟩, 37) := ⟨⟨by decide +kernel, by decide +kernel⟩, List.mem_of_getElem? (i := 1951) (by decide +kernel), List.mem_of_getElem? (i := 2611) (by decide +kernel), List.mem_of_getElem? (i := 2612) (by decide +kernel)⟩
theorem lw_p127 : lw_okq (⟨"MatrixScriptsModel$Fractions", "cleared", "(IIIII)I"⟩, 7) := ⟨⟨by decide +kernel, by decide +kernel⟩, List.mem_of_getElem? (i := 1958) (by decide +kernel), List.mem_of_getElem? (i := 2659) (by decide +kernel), List.mem_of_getElem? (i := 2660) (by decide +kernel)⟩
def lw_privs_8 : List (MethodName × Nat) := [(⟨"MatrixScriptsModel", "call", "(II)I"⟩, 37), (⟨"MatrixScriptsModel", "small", "(II)J"⟩, 37), (⟨"MatrixScriptsModel", "done", "(IIIIJ)I"⟩, 37), (⟨"MatrixScriptsModel", "wants", "(IIII)V"⟩, 37), (⟨"MatrixScriptsModel", "zeros", "(II)I"⟩, 37), (⟨"MatrixScriptsModel", "square", "(II)V"⟩, 37), (⟨"MatrixScriptsModel$Fractions", "reduce", "(III)V"⟩, 7), (⟨"MatrixScriptsModel$Fractions", "settle", "(III)V"⟩, 7), (⟨"MatrixScriptsModel", "one", "()I"⟩, 37), (⟨"MatrixScriptsModel", "prime", "()J"⟩, 37), (⟨"MatrixScriptsModel", "cleared", "(IIIIJ)I"⟩, 37), (⟨"MatrixScriptsModel", "weight", "(IIZ)J"⟩, 37), (⟨"MatrixScriptsModel", "multiple", "(III)I"⟩, 37), (⟨"MatrixScriptsModel", "longest", "(III)I"⟩, 37), (⟨"MatrixScriptsModel", "clearedAt", "(IIIIJ)I"⟩, 37), (⟨"MatrixScriptsModel$Fractions", "cleared", "(IIIII)I"⟩, 7)]
theorem lw_r8 : ∀ q ∈ lw_privs_8, lw_okq q := List.forall_mem_cons.mpr ⟨lw_p112, List.forall_mem_cons.mpr ⟨lw_p113, List.forall_mem_cons.mpr ⟨lw_p114, List.forall_mem_cons.mpr ⟨lw_p115, List.forall_mem_cons.mpr ⟨lw_p116, List.forall_mem_cons.mpr ⟨lw_p117, List.forall_mem_cons.mpr ⟨lw_p118, List.forall_mem_cons.mpr ⟨lw_p119, List.forall_mem_cons.mpr ⟨lw_p120, List.forall_mem_cons.mpr ⟨lw_p121, List.forall_mem_cons.mpr ⟨lw_p122, List.forall_mem_cons.mpr ⟨lw_p123, List.forall_mem_cons.mpr ⟨lw_p124, List.forall_mem_cons.mpr ⟨lw_p125, List.forall_mem_cons.mpr ⟨lw_p126, List.forall_mem_cons.mpr ⟨lw_p127, fun _ h => absurd h List.not_mem_nil⟩⟩⟩⟩⟩⟩⟩⟩⟩⟩⟩⟩⟩⟩⟩⟩
theorem lw_p128 : lw_okq (⟨"MatrixScriptsModel$Forms", "pivotOf", "(I)I"⟩, 11) := ⟨⟨by decide +kernel, by decide +kernel⟩, List.mem_of_getElem? (i := 2021) (by decide +kernel), List.mem_of_getElem? (i := 2673) (by decide +kernel), List.mem_of_getElem? (i := 2674) (by decide +kernel)⟩
theorem lw_p129 : lw_okq (⟨"MatrixScriptsModel", "formed", "(IIIJ)I"⟩, 37) := ⟨⟨by decide +kernel, by decide +kernel⟩, List.mem_of_getElem? (i := 1951) (by decide +kernel), List.mem_of_getElem? (i := 2696) (by decide +kernel), List.mem_of_getElem? (i := 2697) (by decide +kernel)⟩
theorem lw_p130 : lw_okq (⟨"MatrixScriptsModel", "weightOfAll", "(I)J"⟩, 37) := ⟨⟨by decide +kernel, by decide +kernel⟩, List.mem_of_getElem? (i := 1951) (by decide +kernel), List.mem_of_getElem? (i := 2700) (by decide +kernel), List.mem_of_getElem? (i := 2701) (by decide +kernel)⟩
theorem lw_p131 : lw_okq (⟨"MatrixScriptsModel$Forms", "whole", "(III)V"⟩, 11) := ⟨⟨by decide +kernel, by decide +kernel⟩, List.mem_of_getElem? (i := 2021) (by decide +kernel), List.mem_of_getElem? (i := 2718) (by decide +kernel), List.mem_of_getElem? (i := 2719) (by decide +kernel)⟩
theorem lw_p132 : lw_okq (⟨"MatrixScriptsModel$Forms", "triangle", "(III)I"⟩, 11) := ⟨⟨by decide +kernel, by decide +kernel⟩, List.mem_of_getElem? (i := 2021) (by decide +kernel), List.mem_of_getElem? (i := 2722) (by decide +kernel), List.mem_of_getElem? (i := 2723) (by decide +kernel)⟩
theorem lw_p133 : lw_okq (⟨"MatrixScriptsModel$Forms", "common", "(II)I"⟩, 11) := ⟨⟨by decide +kernel, by decide +kernel⟩, List.mem_of_getElem? (i := 2021) (by decide +kernel), List.mem_of_getElem? (i := 2726) (by decide +kernel), List.mem_of_getElem? (i := 2727) (by decide +kernel)⟩
theorem lw_p134 : lw_okq (⟨"MatrixScriptsModel$Forms", "modulo", "(II)I"⟩, 11) := ⟨⟨by decide +kernel, by decide +kernel⟩, List.mem_of_getElem? (i := 2021) (by decide +kernel), List.mem_of_getElem? (i := 2736) (by decide +kernel), List.mem_of_getElem? (i := 2737) (by decide +kernel)⟩
theorem lw_p135 : lw_okq (⟨"MatrixScriptsModel$Forms", "isDiagonal", "(I)Z"⟩, 11) := ⟨⟨by decide +kernel, by decide +kernel⟩, List.mem_of_getElem? (i := 2021) (by decide +kernel), List.mem_of_getElem? (i := 2760) (by decide +kernel), List.mem_of_getElem? (i := 2761) (by decide +kernel)⟩
theorem lw_p136 : lw_okq (⟨"MatrixScriptsModel$Forms", "after", "(IIII)I"⟩, 11) := ⟨⟨by decide +kernel, by decide +kernel⟩, List.mem_of_getElem? (i := 2021) (by decide +kernel), List.mem_of_getElem? (i := 2774) (by decide +kernel), List.mem_of_getElem? (i := 2775) (by decide +kernel)⟩
theorem lw_p137 : lw_okq (⟨"MatrixScriptsModel$Forms", "own", "(II)I"⟩, 11) := ⟨⟨by decide +kernel, by decide +kernel⟩, List.mem_of_getElem? (i := 2021) (by decide +kernel), List.mem_of_getElem? (i := 2782) (by decide +kernel), List.mem_of_getElem? (i := 2783) (by decide +kernel)⟩
theorem lw_p138 : lw_okq (⟨"MatrixScriptsModel$Forms", "powers", "(III)I"⟩, 11) := ⟨⟨by decide +kernel, by decide +kernel⟩, List.mem_of_getElem? (i := 2021) (by decide +kernel), List.mem_of_getElem? (i := 2786) (by decide +kernel), List.mem_of_getElem? (i := 2787) (by decide +kernel)⟩
theorem lw_p139 : lw_okq (⟨"MatrixScriptsModel$Forms", "beyond", "(II)I"⟩, 11) := ⟨⟨by decide +kernel, by decide +kernel⟩, List.mem_of_getElem? (i := 2021) (by decide +kernel), List.mem_of_getElem? (i := 2797) (by decide +kernel), List.mem_of_getElem? (i := 2798) (by decide +kernel)⟩
theorem lw_p140 : lw_okq (⟨"MatrixScriptsModel$Forms", "orthogonal", "(II)I"⟩, 11) := ⟨⟨by decide +kernel, by decide +kernel⟩, List.mem_of_getElem? (i := 2021) (by decide +kernel), List.mem_of_getElem? (i := 2805) (by decide +kernel), List.mem_of_getElem? (i := 2806) (by decide +kernel)⟩
theorem lw_p141 : lw_okq (⟨"MatrixScriptsModel$Forms", "factor", "(IIII)V"⟩, 11) := ⟨⟨by decide +kernel, by decide +kernel⟩, List.mem_of_getElem? (i := 2021) (by decide +kernel), List.mem_of_getElem? (i := 2809) (by decide +kernel), List.mem_of_getElem? (i := 2810) (by decide +kernel)⟩
theorem lw_p142 : lw_okq (⟨"MatrixScriptsModel$Forms", "goes", "(III)Z"⟩, 11) := ⟨⟨by decide +kernel, by decide +kernel⟩, List.mem_of_getElem? (i := 2021) (by decide +kernel), List.mem_of_getElem? (i := 2820) (by decide +kernel), List.mem_of_getElem? (i := 2821) (by decide +kernel)⟩
theorem lw_p143 : lw_okq (⟨"MatrixScriptsModel", "find", "(II)I"⟩, 37) := ⟨⟨by decide +kernel, by decide +kernel⟩, List.mem_of_getElem? (i := 1951) (by decide +kernel), List.mem_of_getElem? (i := 2831) (by decide +kernel), List.mem_of_getElem? (i := 2832) (by decide +kernel)⟩
def lw_privs_9 : List (MethodName × Nat) := [(⟨"MatrixScriptsModel$Forms", "pivotOf", "(I)I"⟩, 11), (⟨"MatrixScriptsModel", "formed", "(IIIJ)I"⟩, 37), (⟨"MatrixScriptsModel", "weightOfAll", "(I)J"⟩, 37), (⟨"MatrixScriptsModel$Forms", "whole", "(III)V"⟩, 11), (⟨"MatrixScriptsModel$Forms", "triangle", "(III)I"⟩, 11), (⟨"MatrixScriptsModel$Forms", "common", "(II)I"⟩, 11), (⟨"MatrixScriptsModel$Forms", "modulo", "(II)I"⟩, 11), (⟨"MatrixScriptsModel$Forms", "isDiagonal", "(I)Z"⟩, 11), (⟨"MatrixScriptsModel$Forms", "after", "(IIII)I"⟩, 11), (⟨"MatrixScriptsModel$Forms", "own", "(II)I"⟩, 11), (⟨"MatrixScriptsModel$Forms", "powers", "(III)I"⟩, 11), (⟨"MatrixScriptsModel$Forms", "beyond", "(II)I"⟩, 11), (⟨"MatrixScriptsModel$Forms", "orthogonal", "(II)I"⟩, 11), (⟨"MatrixScriptsModel$Forms", "factor", "(IIII)V"⟩, 11), (⟨"MatrixScriptsModel$Forms", "goes", "(III)Z"⟩, 11), (⟨"MatrixScriptsModel", "find", "(II)I"⟩, 37)]
theorem lw_r9 : ∀ q ∈ lw_privs_9, lw_okq q := List.forall_mem_cons.mpr ⟨lw_p128, List.forall_mem_cons.mpr ⟨lw_p129, List.forall_mem_cons.mpr ⟨lw_p130, List.forall_mem_cons.mpr ⟨lw_p131, List.forall_mem_cons.mpr ⟨lw_p132, List.forall_mem_cons.mpr ⟨lw_p133, List.forall_mem_cons.mpr ⟨lw_p134, List.forall_mem_cons.mpr ⟨lw_p135, List.forall_mem_cons.mpr ⟨lw_p136, List.forall_mem_cons.mpr ⟨lw_p137, List.forall_mem_cons.mpr ⟨lw_p138, List.forall_mem_cons.mpr ⟨lw_p139, List.forall_mem_cons.mpr ⟨lw_p140, List.forall_mem_cons.mpr ⟨lw_p141, List.forall_mem_cons.mpr ⟨lw_p142, List.forall_mem_cons.mpr ⟨lw_p143, fun _ h => absurd h List.not_mem_nil⟩⟩⟩⟩⟩⟩⟩⟩⟩⟩⟩⟩⟩⟩⟩⟩
theorem lw_p144 : lw_okq (⟨"MatrixScriptsModel", "loaded", "(I)I"⟩, 37) := ⟨⟨by decide +kernel, by decide +kernel⟩, List.mem_of_getElem? (i := 1951) (by decide +kernel), List.mem_of_getElem? (i := 2835) (by decide +kernel), List.mem_of_getElem? (i := 2836) (by decide +kernel)⟩
theorem lw_p145 : lw_okq (⟨"MatrixScriptsModel", "power", "(IIIIZII)I"⟩, 37) := ⟨⟨by decide +kernel, by decide +kernel⟩, List.mem_of_getElem? (i := 1951) (by decide +kernel), List.mem_of_getElem? (i := 2848) (by decide +kernel), List.mem_of_getElem? (i := 2849) (by decide +kernel)⟩
theorem lw_p146 : lw_okq (⟨"MatrixScriptsModel", "settled", "(IIIII)I"⟩, 37) := ⟨⟨by decide +kernel, by decide +kernel⟩, List.mem_of_getElem? (i := 1951) (by decide +kernel), List.mem_of_getElem? (i := 2853) (by decide +kernel), List.mem_of_getElem? (i := 2854) (by decide +kernel)⟩
theorem lw_p147 : lw_okq (⟨"MatrixScriptsModel", "give", "(III)V"⟩, 37) := ⟨⟨by decide +kernel, by decide +kernel⟩, List.mem_of_getElem? (i := 1951) (by decide +kernel), List.mem_of_getElem? (i := 2871) (by decide +kernel), List.mem_of_getElem? (i := 2872) (by decide +kernel)⟩
theorem lw_p148 : lw_okq (⟨"MatrixScriptsModel", "show", "(II)V"⟩, 37) := ⟨⟨by decide +kernel, by decide +kernel⟩, List.mem_of_getElem? (i := 1951) (by decide +kernel), List.mem_of_getElem? (i := 2884) (by decide +kernel), List.mem_of_getElem? (i := 2885) (by decide +kernel)⟩
theorem lw_p149 : lw_okq (⟨"MatrixScriptsModel", "widthOf", "(I)I"⟩, 37) := ⟨⟨by decide +kernel, by decide +kernel⟩, List.mem_of_getElem? (i := 1951) (by decide +kernel), List.mem_of_getElem? (i := 2889) (by decide +kernel), List.mem_of_getElem? (i := 2890) (by decide +kernel)⟩
theorem lw_p150 : lw_okq (⟨"MatrixScriptsModel", "figures", "(I[I)I"⟩, 37) := ⟨⟨by decide +kernel, by decide +kernel⟩, List.mem_of_getElem? (i := 1951) (by decide +kernel), List.mem_of_getElem? (i := 2893) (by decide +kernel), List.mem_of_getElem? (i := 2894) (by decide +kernel)⟩
theorem lw_p151 : lw_okq (⟨"MatrixScriptsModel", "say", "(I)V"⟩, 37) := ⟨⟨by decide +kernel, by decide +kernel⟩, List.mem_of_getElem? (i := 1951) (by decide +kernel), List.mem_of_getElem? (i := 2903) (by decide +kernel), List.mem_of_getElem? (i := 2904) (by decide +kernel)⟩
theorem lw_p152 : lw_okq (⟨"MatrixScriptsModel", "sayNumber", "(I)V"⟩, 37) := ⟨⟨by decide +kernel, by decide +kernel⟩, List.mem_of_getElem? (i := 1951) (by decide +kernel), List.mem_of_getElem? (i := 2909) (by decide +kernel), List.mem_of_getElem? (i := 2910) (by decide +kernel)⟩
def lw_privs_10 : List (MethodName × Nat) := [(⟨"MatrixScriptsModel", "loaded", "(I)I"⟩, 37), (⟨"MatrixScriptsModel", "power", "(IIIIZII)I"⟩, 37), (⟨"MatrixScriptsModel", "settled", "(IIIII)I"⟩, 37), (⟨"MatrixScriptsModel", "give", "(III)V"⟩, 37), (⟨"MatrixScriptsModel", "show", "(II)V"⟩, 37), (⟨"MatrixScriptsModel", "widthOf", "(I)I"⟩, 37), (⟨"MatrixScriptsModel", "figures", "(I[I)I"⟩, 37), (⟨"MatrixScriptsModel", "say", "(I)V"⟩, 37), (⟨"MatrixScriptsModel", "sayNumber", "(I)V"⟩, 37)]
theorem lw_r10 : ∀ q ∈ lw_privs_10, lw_okq q := List.forall_mem_cons.mpr ⟨lw_p144, List.forall_mem_cons.mpr ⟨lw_p145, List.forall_mem_cons.mpr ⟨lw_p146, List.forall_mem_cons.mpr ⟨lw_p147, List.forall_mem_cons.mpr ⟨lw_p148, List.forall_mem_cons.mpr ⟨lw_p149, List.forall_mem_cons.mpr ⟨lw_p150, List.forall_mem_cons.mpr ⟨lw_p151, List.forall_mem_cons.mpr ⟨lw_p152, fun _ h => absurd h List.not_mem_nil⟩⟩⟩⟩⟩⟩⟩⟩⟩
def lw_privs : List (MethodName × Nat) := lw_privs_1 ++ (lw_privs_2 ++ (lw_privs_3 ++ (lw_privs_4 ++ (lw_privs_5 ++ (lw_privs_6 ++ (lw_privs_7 ++ (lw_privs_8 ++ (lw_privs_9 ++ (lw_privs_10)))))))))
def lw_tbl : List Cond := k2_sels lw_privs ++ tables_1
theorem lw_privs_ok : ∀ q ∈ lw_privs, lw_okq q := by
  show ∀ q ∈ lw_privs_1 ++ (lw_privs_2 ++ (lw_privs_3 ++ (lw_privs_4 ++ (lw_privs_5 ++ (lw_privs_6 ++ (lw_privs_7 ++ (lw_privs_8 ++ (lw_privs_9 ++ (lw_privs_10))))))))), lw_okq q
  exact List.forall_mem_append.mpr ⟨lw_r1, List.forall_mem_append.mpr ⟨lw_r2, List.forall_mem_append.mpr ⟨lw_r3, List.forall_mem_append.mpr ⟨lw_r4, List.forall_mem_append.mpr ⟨lw_r5, List.forall_mem_append.mpr ⟨lw_r6, List.forall_mem_append.mpr ⟨lw_r7, List.forall_mem_append.mpr ⟨lw_r8, List.forall_mem_append.mpr ⟨lw_r9, lw_r10⟩⟩⟩⟩⟩⟩⟩⟩⟩
-- ===== end of PART A; then your names; then what follows =====
end
section
/-! WORLDS WITH A BLOCK THAT NOBODY LOOKS INTO: the list of cells is 'ACT ++ B', ACT written out, B any list. -/
section Pm
theorem pm_mem {D : va_G} {cl : List vw_C} {ws : va_W} {H : Heap} : va_P D cl ws H ↔ ∀ q ∈ ws, va_at D cl q H := by
  constructor
  · intro h q hq
    obtain ⟨k, hk⟩ := List.mem_iff_getElem?.mp hq
    exact h k q hk
  · intro h k q hk
    exact h q (List.mem_of_getElem? hk)
theorem pm_P {D : va_G} {cl : List vw_C} {ws ws' : va_W} {H : Heap} (h : va_P D cl ws H) (hp : ∀ x ∈ ws', x ∈ ws) : va_P D cl ws' H := pm_mem.mpr fun q hq => pm_mem.mp h q (hp q hq)
theorem pm_nd {A : Nat → Prop} {ws : va_W} (h : va_D A ws) : (ws.map (·.1)).Nodup := by
  rw [List.nodup_iff_pairwise_ne, List.pairwise_iff_getElem]
  intro i j hi hj hij e
  rw [List.length_map] at hi hj
  rw [List.getElem_map, List.getElem_map] at e
  have := h.1 i j _ _ (List.getElem?_eq_getElem hi) (List.getElem?_eq_getElem hj) e
  omega
theorem pm_of {A : Nat → Prop} {ws : va_W} (hn : (ws.map (·.1)).Nodup) (hA : ∀ q ∈ ws, A q.1) : va_D A ws := by
  refine ⟨fun i j p q hi hj e => ?_, fun k q hk => hA q (List.mem_of_getElem? hk)⟩
  have li : i < ws.length := (List.getElem?_eq_some_iff.mp hi).1
  have lj : j < ws.length := (List.getElem?_eq_some_iff.mp hj).1
  rw [List.nodup_iff_pairwise_ne, List.pairwise_iff_getElem] at hn
  have ei : ws[i] = p := (List.getElem?_eq_some_iff.mp hi).2
  have ej : ws[j] = q := (List.getElem?_eq_some_iff.mp hj).2
  rcases Nat.lt_trichotomy i j with h | h | h
  · exact absurd (by rw [List.getElem_map, List.getElem_map, ei, ej]; exact e) (hn i j (by simpa using li) (by simpa using lj) h)
  · exact h
  · exact absurd (by rw [List.getElem_map, List.getElem_map, ei, ej]; exact e.symm) (hn j i (by simpa using lj) (by simpa using li) h)
theorem pm_DA {A : Nat → Prop} {ws : va_W} (h : va_D A ws) : ∀ q ∈ ws, A q.1 := fun q hq => by
  obtain ⟨k, hk⟩ := List.mem_iff_getElem?.mp hq
  exact h.2 k q hk
theorem pm_D {A : Nat → Prop} {ws ws' : va_W} (h : va_D A ws) (hp : ws'.Perm ws) : va_D A ws' :=
  pm_of ((hp.map (·.1)).nodup_iff.mpr (pm_nd h)) (fun q hq => pm_DA h q (hp.mem_iff.mp hq))
theorem pm_Dl {A : Nat → Prop} {a b : va_W} (h : va_D A (a ++ b)) : va_D A a := by
  refine pm_of ?_ (fun q hq => pm_DA h q (List.mem_append_left _ hq))
  have := pm_nd h
  rw [List.map_append, List.nodup_append] at this
  exact this.1
theorem pm_Dr {A : Nat → Prop} {a b : va_W} (h : va_D A (a ++ b)) : va_D A b := by
  refine pm_of ?_ (fun q hq => pm_DA h q (List.mem_append_right _ hq))
  have := pm_nd h
  rw [List.map_append, List.nodup_append] at this
  exact this.2.1
theorem pm_Dx {A : Nat → Prop} {a b : va_W} (h : va_D A (a ++ b)) {x y : Nat × va_E} (hx : x ∈ a) (hy : y ∈ b) : x.1 ≠ y.1 := by
  have := pm_nd h
  rw [List.map_append, List.nodup_append] at this
  exact this.2.2 _ (List.mem_map_of_mem hx) _ (List.mem_map_of_mem hy)
theorem pm_app {A : Nat → Prop} {a b : va_W} (ha : va_D A a) (hb : va_D A b) (hx : ∀ x ∈ a, ∀ y ∈ b, x.1 ≠ y.1) : va_D A (a ++ b) :=
  ha.app hb (fun _ _ p q h1 h2 => hx p (List.mem_of_getElem? h1) q (List.mem_of_getElem? h2))
/-- the written part chosen anew, by places; what isn't chosen goes -/
theorem pm_subP {D : va_G} {cl : List vw_C} {a a' B : va_W} {H : Heap} (h : va_P D cl (a ++ B) H) (is : List Nat) (hs : is.map (fun i => a[i]?) = a'.map some) : va_P D cl (a' ++ B) H := by
  refine pm_P h (fun x hx => ?_)
  rcases List.mem_append.mp hx with h1 | h1
  · refine List.mem_append_left _ ?_
    have h2 : some x ∈ a'.map some := List.mem_map_of_mem h1
    rw [← hs] at h2
    obtain ⟨i, -, hi⟩ := List.mem_map.mp h2
    exact List.mem_of_getElem? hi
  · exact List.mem_append_right _ h1
theorem pm_subD {A : Nat → Prop} {a a' B : va_W} (h : va_D A (a ++ B)) (is : List Nat) (hn : va_nd is = true) (hs : is.map (fun i => a[i]?) = a'.map some) : va_D A (a' ++ B) := by
  refine pm_app ((pm_Dl h).sub is hn hs) (pm_Dr h) (fun x hx y hy => ?_)
  have h2 : some x ∈ a'.map some := List.mem_map_of_mem hx
  rw [← hs] at h2
  obtain ⟨i, -, hi⟩ := List.mem_map.mp h2
  exact pm_Dx h (List.mem_of_getElem? hi) hy
/-- the callee's cells stand in front: what came back beside all the rest -/
theorem pm_join {A0 : Nat → Prop} {D : va_G} {cl : List vw_C} {wc wr w1 : va_W} {H H1 : Heap} (hP : va_P D cl (wc ++ wr) H) (hD : va_D A0 (wc ++ wr)) (hk : ∀ q : Nat, q < H.size → ¬ va_A wc H.size q → H1[q]? = H[q]?) (hF : ∀ q, va_A wc H.size q → A0 q)
    (hP1 : va_P D cl w1 H1) (hD1 : va_D (va_A wc H.size) w1) : va_P D cl (w1 ++ wr) H1 ∧ va_D A0 (w1 ++ wr) := by
  have hn : ∀ y ∈ wr, ¬ va_A wc H.size y.1 := by
    intro y hy h
    rcases h with ⟨k, e, hk'⟩ | h
    · exact pm_Dx hD (List.mem_of_getElem? hk') hy rfl
    · exact absurd (pm_mem.mp hP y (List.mem_append_right _ hy)).lt (Nat.not_lt.mpr h)
  refine ⟨pm_mem.mpr fun q hq => ?_, pm_app (hD1.weaken fun k q hq h => hF _ h) (pm_Dr hD) (fun x hx y hy e => ?_)⟩
  · rcases List.mem_append.mp hq with h | h
    · exact pm_mem.mp hP1 q h
    · have h0 := pm_mem.mp hP q (List.mem_append_right _ h)
      exact h0.kept (hk _ h0.lt (hn q h))
  · exact hn y hy (e ▸ pm_DA hD1 x hx)
theorem pm_free {A0 : Nat → Prop} {wc wr : va_W} {H0 H : Heap} {locs : List Loc} (hD : va_D A0 (wc ++ wr)) (hS : va_S A0 H0 H locs) (hA : ∀ q, H0.size ≤ q → A0 q) : ∀ q, va_A wc H.size q → A0 q := by
  intro q h
  rcases h with ⟨k, e, hk⟩ | h
  · exact pm_DA hD (q, e) (List.mem_append_left _ (List.mem_of_getElem? hk))
  · exact hA q (Nat.le_trans hS.1 h)
theorem pm_rotP {D : va_G} {cl : List vw_C} {a B : va_W} {x : Nat × va_E} {H : Heap} (h : va_P D cl ((a ++ B) ++ [x]) H) : va_P D cl ((a ++ [x]) ++ B) H :=
  pm_P h (fun y hy => by simp only [List.mem_append] at hy ⊢; rcases hy with (h1 | h1) | h1; exact Or.inl (Or.inl h1); exact Or.inr h1; exact Or.inl (Or.inr h1))
theorem pm_rotD {A : Nat → Prop} {a B : va_W} {x : Nat × va_E} (h : va_D A ((a ++ B) ++ [x])) : va_D A ((a ++ [x]) ++ B) :=
  pm_D h (by rw [List.append_assoc, List.append_assoc]; exact (List.perm_append_comm).append_left a)
/-- cells of the written part join the block -/
theorem pm_packP {D : va_G} {cl : List vw_C} {a b B : va_W} {H : Heap} (h : va_P D cl ((a ++ b) ++ B) H) : va_P D cl (a ++ (b ++ B)) H := by rw [← List.append_assoc]; exact h
theorem pm_packD {A : Nat → Prop} {a b B : va_W} (h : va_D A ((a ++ b) ++ B)) : va_D A (a ++ (b ++ B)) := by rw [← List.append_assoc]; exact h
theorem pm_int {U : State} {c c' : ClassId} (h : va_RA U c .int) (h' : va_RA U c' .int) : c = c' := Option.some.inj ((va_nm_int h).symm.trans (va_nm_int h'))
theorem pm_long {U : State} {c c' : ClassId} (h : va_RA U c .long) (h' : va_RA U c' .long) : c = c' := Option.some.inj ((va_nm_long h).symm.trans (va_nm_long h'))
variable {p : Program} {l : Launch} {e : Env} {R : Room} {s : State} {m : MethodId} {args : Array Value} {below : List Frame} {meth : Method} {c : Code} {H H0 : Heap} {locs : List Loc} {cells slots : Nat} {Q : State → Prop}
  {D : va_G} {cl : List vw_C} {tys : List (ClassId × FieldType)} {A : Nat → Prop} {a B : va_W} {cc : ByteArray} {pc : Nat} {ls : Array Slot} {rest : List Value}
/-- 'new int[n]', n known -/
theorem pm_newi (hexec : p.tables.exec = Jvm.exec) (hb : c.code = cc) (harr : (Cond.arrayClass .int).before args s = true) (hK : va_K D cl tys s) (t0 : Nat) {cI : ClassId} (ht : tys[t0]? = some (cI, .int)) (hP : va_P D cl (a ++ B) H) (hD : va_D A (a ++ B)) (hS : va_S A H0 H locs) (hA : ∀ q, H0.size ≤ q → A q)
    {n : Int32} {N : Nat} (hn : ¬ n < 0) (hN : n.toNatClampNeg = N) (hbytes : N * 4 ≤ 536870912) (hcells : cells + 1 ≤ R.cells) (hslots : slots + N ≤ R.slots) (hdg : decode cc pc = .ok (.newarray .int, 2))
    (kk : ∀ (q : Nat) (H1 : Heap), va_P D cl ((a ++ [(q, .inl (cI, N, .inl (fun _ => 0)))]) ++ B) H1 → va_D A ((a ++ [(q, .inl (cI, N, .inl (fun _ => 0)))]) ++ B) → va_S A H0 H1 locs →
      W p l e R s m args below meth c H1 locs (cells + 1) (slots + N) Q (F0 m (pc + 2) ls (.ref q :: rest))) : W p l e R s m args below meth c H locs cells slots Q (F0 m pc ls (.int n :: rest)) := by
  refine va_newa (atype := .int) (ty := .int) (N' := N) (n := n) (a0 := (N, .inl (fun _ => 0))) hexec hb harr rfl hK hP hD hS hA (fun cA => rfl) hn hN hbytes hcells hslots hdg (fun q cA H1 hK1 hP1 hD1 hS1 => ?_)
  have e : cA = cI := by
    have h1 := (hK1.2 tys.length (cA, .int) (by simp)).2
    exact pm_int h1 (hK.2 t0 _ ht).2
  subst e
  exact kk q H1 (pm_rotP hP1) (pm_rotD hD1) hS1
theorem pm_newl (hexec : p.tables.exec = Jvm.exec) (hb : c.code = cc) (harr : (Cond.arrayClass .long).before args s = true) (hK : va_K D cl tys s) (t0 : Nat) {cI : ClassId} (ht : tys[t0]? = some (cI, .long)) (hP : va_P D cl (a ++ B) H) (hD : va_D A (a ++ B)) (hS : va_S A H0 H locs) (hA : ∀ q, H0.size ≤ q → A q)
    {n : Int32} {N : Nat} (hn : ¬ n < 0) (hN : n.toNatClampNeg = N) (hbytes : N * 8 ≤ 536870912) (hcells : cells + 1 ≤ R.cells) (hslots : slots + N ≤ R.slots) (hdg : decode cc pc = .ok (.newarray .long, 2))
    (kk : ∀ (q : Nat) (H1 : Heap), va_P D cl ((a ++ [(q, .inl (cI, N, .inr (.inl (fun _ => 0))))]) ++ B) H1 → va_D A ((a ++ [(q, .inl (cI, N, .inr (.inl (fun _ => 0))))]) ++ B) → va_S A H0 H1 locs →
      W p l e R s m args below meth c H1 locs (cells + 1) (slots + N) Q (F0 m (pc + 2) ls (.ref q :: rest))) : W p l e R s m args below meth c H locs cells slots Q (F0 m pc ls (.int n :: rest)) := by
  refine va_newa (atype := .long) (ty := .long) (N' := N) (n := n) (a0 := (N, .inr (.inl (fun _ => 0)))) hexec hb harr rfl hK hP hD hS hA (fun cA => rfl) hn hN hbytes hcells hslots hdg (fun q cA H1 hK1 hP1 hD1 hS1 => ?_)
  have e : cA = cI := by
    have h1 := (hK1.2 tys.length (cA, .long) (by simp)).2
    exact pm_long h1 (hK.2 t0 _ ht).2
  subst e
  exact kk q H1 (pm_rotP hP1) (pm_rotD hD1) hS1
end Pm
section Pm2
theorem pm_swapP {D : va_G} {cl : List vw_C} {a b B : va_W} {H : Heap} (h : va_P D cl (a ++ (b ++ B)) H) : va_P D cl (b ++ (a ++ B)) H := pm_P h (fun x hx => (List.perm_append_comm_assoc b a B).mem_iff.mp hx)
theorem pm_swapD {A : Nat → Prop} {a b B : va_W} (h : va_D A (a ++ (b ++ B))) : va_D A (b ++ (a ++ B)) := pm_D h (List.perm_append_comm_assoc b a B)
theorem pm_byte {U : State} {c c' : ClassId} (h : va_RA U c .byte) (h' : va_RA U c' .byte) : c = c' := Option.some.inj ((va_nm_byte h).symm.trans (va_nm_byte h'))
theorem pm_obj {U : State} {c c' : ClassId} {C : String} (h : va_RA U c (.object C)) (h' : va_RA U c' (.object C)) : c = c' := by
  obtain ⟨-, -, -, -, -, h4⟩ := h
  obtain ⟨-, -, -, -, -, h5⟩ := h'
  exact Option.some.inj (h4.symm.trans h5)
variable {p : Program} {l : Launch} {e : Env} {R : Room} {s : State} {m : MethodId} {args : Array Value} {below : List Frame} {meth : Method} {c : Code} {H H0 : Heap} {locs : List Loc} {cells slots : Nat} {Q : State → Prop}
  {D : va_G} {cl : List vw_C} {tys : List (ClassId × FieldType)} {A : Nat → Prop} {a B : va_W} {cc : ByteArray} {pc : Nat} {ls : Array Slot} {rest : List Value}
theorem pm_newb (hexec : p.tables.exec = Jvm.exec) (hb : c.code = cc) (harr : (Cond.arrayClass .byte).before args s = true) (hK : va_K D cl tys s) (t0 : Nat) {cI : ClassId} (ht : tys[t0]? = some (cI, .byte)) (hP : va_P D cl (a ++ B) H) (hD : va_D A (a ++ B)) (hS : va_S A H0 H locs) (hA : ∀ q, H0.size ≤ q → A q)
    {n : Int32} {N : Nat} (hn : ¬ n < 0) (hN : n.toNatClampNeg = N) (hbytes : N * 1 ≤ 536870912) (hcells : cells + 1 ≤ R.cells) (hslots : slots + N ≤ R.slots) (hdg : decode cc pc = .ok (.newarray .byte, 2))
    (kk : ∀ (q : Nat) (H1 : Heap), va_P D cl ((a ++ [(q, .inl (cI, N, .inl (fun _ => 0)))]) ++ B) H1 → va_D A ((a ++ [(q, .inl (cI, N, .inl (fun _ => 0)))]) ++ B) → va_S A H0 H1 locs →
      W p l e R s m args below meth c H1 locs (cells + 1) (slots + N) Q (F0 m (pc + 2) ls (.ref q :: rest))) : W p l e R s m args below meth c H locs cells slots Q (F0 m pc ls (.int n :: rest)) := by
  refine va_newa (atype := .byte) (ty := .byte) (N' := N) (n := n) (a0 := (N, .inl (fun _ => 0))) hexec hb harr rfl hK hP hD hS hA (fun cA => rfl) hn hN hbytes hcells hslots hdg (fun q cA H1 hK1 hP1 hD1 hS1 => ?_)
  have e : cA = cI := by
    have h1 := (hK1.2 tys.length (cA, .byte) (by simp)).2
    exact pm_byte h1 (hK.2 t0 _ ht).2
  subst e
  exact kk q H1 (pm_rotP hP1) (pm_rotD hD1) hS1
theorem pm_newq (hexec : p.tables.exec = Jvm.exec) (hb : c.code = cc) {own C : String} {index : Nat} (hown : s.vm.findClass own = some m.cls) (hclink : (Cond.classLink own index C).before args s = true) (hover : va_AO C s) (hK : va_K D cl tys s) (t0 : Nat) {cI : ClassId} (ht : tys[t0]? = some (cI, .object C)) (hP : va_P D cl (a ++ B) H) (hD : va_D A (a ++ B)) (hS : va_S A H0 H locs) (hA : ∀ q, H0.size ≤ q → A q)
    {n : Int32} {N : Nat} (hn : ¬ n < 0) (hN : n.toNatClampNeg = N) (hbytes : N * 4 ≤ 536870912) (hcells : cells + 1 ≤ R.cells) (hslots : slots + N ≤ R.slots) (hdg : decode cc pc = .ok (.anewarray index, 3))
    (kk : ∀ (q : Nat) (H1 : Heap), va_P D cl ((a ++ [(q, .inl (cI, N, .inr (.inr (.inr (.inr (fun _ => none))))))]) ++ B) H1 → va_D A ((a ++ [(q, .inl (cI, N, .inr (.inr (.inr (.inr (fun _ => none))))))]) ++ B) → va_S A H0 H1 locs →
      W p l e R s m args below meth c H1 locs (cells + 1) (slots + N) Q (F0 m (pc + 3) ls (.ref q :: rest))) : W p l e R s m args below meth c H locs cells slots Q (F0 m pc ls (.int n :: rest)) := by
  refine va_newq hexec hb hown hclink hover hK hP hD hS hA hn hN hbytes hcells hslots hdg (fun q cA H1 hK1 hP1 hD1 hS1 => ?_)
  have e : cA = cI := by
    have h1 := (hK1.2 tys.length (cA, .object C) (by simp)).2
    exact pm_obj h1 (hK.2 t0 _ ht).2
  subst e
  exact kk q H1 (pm_rotP hP1) (pm_rotD hD1) hS1
theorem pm_new (hexec : p.tables.exec = Jvm.exec) (hb : c.code = cc) {own C : String} {T : u_T} {N ci index : Nat} {Ts : List Cond} (hts : ∀ w ∈ Ts, w.before args s = true) (hin : ∀ w ∈ u_ws C T N, w ∈ Ts) (ty : Nat → FieldType) (hty : ∀ k, k < N → parseFieldDescriptor (T k).2.2.1 = some (ty k)) (hown : s.vm.findClass own = some m.cls) (hcl : (Cond.classLink own index C).before args s = true) (hinst : (Cond.instantiable C N).before args s = true) (hini : (Cond.initialized C).before args s = true)
    (hK : va_K D cl tys s) (hP : va_P D cl (a ++ B) H) (hD : va_D A (a ++ B)) (hS : va_S A H0 H locs) (hA : ∀ q, H0.size ≤ q → A q) (hc : cl[ci]? = some (C, T, N)) {fs : List Value} (hfs : ∀ j, j < N → defaultValue (ty j) = vp_V fs j) (hcells : cells + 1 ≤ R.cells) (hslots : slots + N ≤ R.slots) (hdg : decode cc pc = .ok (.new index, 3))
    (kk : ∀ (q : Nat) (H1 : Heap), va_P D cl ((a ++ [(q, .inr (ci, fs))]) ++ B) H1 → va_D A ((a ++ [(q, .inr (ci, fs))]) ++ B) → va_S A H0 H1 locs →
      W p l e R s m args below meth c H1 locs (cells + 1) (slots + N) Q (F0 m (pc + 3) ls (.ref q :: rest))) : W p l e R s m args below meth c H locs cells slots Q (F0 m pc ls rest) :=
  va_new hexec hb hts hin ty hty hown hcl hinst hini hK hP hD hS hA hc hfs hcells hslots hdg (fun q H1 hP1 hD1 hS1 => kk q H1 (pm_rotP hP1) (pm_rotD hD1) hS1)
end Pm2
end
section
/-! METHODS THAT MAY THROW: their contracts (MetE), a new exception thrown out of a method, the call whose exception is caught in the caller's own table. -/
section Ex
variable {p : Program} {l : Launch} {e : Env} {R : Room} {s : State} {m : MethodId} {args : Array Value} {below : List Frame} {meth : Method} {c : Code} {H : Heap} {locs : List Loc} {cells slots : Nat} {Q : State → Prop}
/-- how a method ends that may throw: with its frame, whichever way -/
def ex_End (st : State) (o : Outcome) (t : State) (mc ms : Nat) (free : Addr → Prop) : Prop :=
  ∃ L, (FrameEnd st o t L mc ms ∨ FramedT st o t L mc ms) ∧ ∀ q ∈ L, free q.base
def ex_MQ (below : List Frame) (Qc : Array Value → State → Outcome → State → Prop) (a : Array Value) (s : State) (mc ms : Nat) (free : Addr → Prop) : State → Prop := fun t =>
  ∃ o, t.status = .running ∧ Ended t below o ∧ Qc a s o t ∧ ex_End s o t mc ms free
def MetE (l : Launch) (y : MethodName) (ws : List Cond) (rm : Room) (Pc : Array Value → State → Prop) (Qc : Array Value → State → Outcome → State → Prop) (mc ms : Nat) (free : Addr → Prop) : Prop :=
  MetFree l y (headSpec ws rm) Pc (fun _ _ _ _ _ => True) (fun a st o t => Qc a st o t ∧ ex_End st o t mc ms free)
theorem ex_of {Qc : Array Value → State → Outcome → State → Prop} {a : Array Value} {mc ms : Nat} {free : Addr → Prop} {g : JFrame}
    (h : W p l e R s m args below meth c H locs cells slots (MQ below Qc a s mc ms free) g) : W p l e R s m args below meth c H locs cells slots (ex_MQ below Qc a s mc ms free) g := by
  intro T hT X
  obtain ⟨t, h1, o, h2, h3, h4, L, h5, h6⟩ := h T hT X
  exact ⟨t, h1, o, h2, h3, h4, L, Or.inl h5, h6⟩
theorem ex_widen {Qc : Array Value → State → Outcome → State → Prop} {a : Array Value} {mc ms mc' ms' : Nat} {free : Addr → Prop} {g : JFrame} (h1 : mc ≤ mc') (h2 : ms ≤ ms')
    (h : W p l e R s m args below meth c H locs cells slots (ex_MQ below Qc a s mc ms free) g) : W p l e R s m args below meth c H locs cells slots (ex_MQ below Qc a s mc' ms' free) g := by
  intro T hT X
  obtain ⟨t, q1, o, q2, q3, q4, L, q5, q6⟩ := h T hT X
  refine ⟨t, q1, o, q2, q3, q4, L, ?_, q6⟩
  rcases q5 with ⟨r1, r2, r3⟩ | ⟨r1, r2, r3⟩
  · exact Or.inl ⟨r1, r2, r3.mono h1 h2⟩
  · exact Or.inr ⟨r1, r2, r3.mono h1 h2⟩
/-- a method without a table, that may throw -/
theorem MetE.ofW {y : MethodName} {ws ws' : List Cond} {rm : Room} {Pc : Array Value → State → Prop} {Qc : Array Value → State → Outcome → State → Prop} {mc ms : Nat} {free : Addr → Prop} {cc : ByteArray} {maxL : Nat} {ret : Option FieldType}
    (hy : plainName y.cls = true) (hw : ws = Cond.code y cc maxL ret :: ws')
    (body : ∀ p e s m args below meth c s₁, BodyLoose p l y (headSpec ws rm) cc maxL ret e s m args below meth c s₁ → c.maxLocals = maxL → c.exceptionTable.toList = [] → Pc args s →
      W p l e (headSpec ws rm).room s m args below meth c s.heap [] 0 0 (ex_MQ below Qc args s mc ms free) (entryFrame m args maxL)) : MetE l y ws rm Pc Qc mc ms free := by
  have hcd : ∀ (args : Array Value) (s : State), (headSpec ws rm).pre.before args s = true → (Cond.code y cc maxL ret).before args s = true := fun args s h => atoms_spec (ws := ws) h _ (by rw [hw]; exact List.mem_cons_self)
  refine MetFree.of_bodyS (code := cc) (maxLocals := maxL) (ret := ret) hy ?_ ?_
  · intro args s m h hn
    obtain ⟨meth, c, h1, h2, h3, h4, h5, h6, -, -⟩ := Cond.code_spec hn (hcd args s h)
    exact ⟨meth, c, h1, h2, h3, h4, h5, h6⟩
  · intro p e s m args below meth c s₁ B hml hP _
    have hh0 : s₁.heap = s.heap := by rw [B.state]; rfl
    have he : c.exceptionTable.toList = [] := by
      have h0 := B.noHandlers (hcd args s B.pre)
      have h1 : c.exceptionTable.size = 0 := by simpa [Array.isEmpty] using h0
      exact List.eq_nil_of_length_eq_zero (by simpa using h1)
    obtain ⟨t, a1, o, b1, b2, b3⟩ := body p e s m args below meth c s₁ B hml he hP s₁ hh0 (Stand.of_body B)
    exact ⟨t, o, a1, b1, b2, b3⟩
/-- a method with a table, that returns -/
theorem Met.ofWH {y : MethodName} {ws ws' : List Cond} {rm : Room} {Pc : Array Value → State → Prop} {Qc : Array Value → State → Outcome → State → Prop} {mc ms : Nat} {free : Addr → Prop} {cc : ByteArray} {maxL : Nat} {ret : Option FieldType} {hs : List (Nat × Nat × Nat × Nat)}
    (hy : plainName y.cls = true) (hw : ws = Cond.codeWith y cc maxL ret hs :: ws')
    (body : ∀ p e s m args below meth c s₁, BodyLoose p l y (headSpec ws rm) cc maxL ret e s m args below meth c s₁ → c.maxLocals = maxL → c.exceptionTable.toList = tableOf hs → Pc args s →
      W p l e (headSpec ws rm).room s m args below meth c s.heap [] 0 0 (MQ below Qc args s mc ms free) (entryFrame m args maxL)) : Met l y ws rm Pc Qc mc ms free := by
  have hcd : ∀ (args : Array Value) (s : State), (headSpec ws rm).pre.before args s = true → (Cond.codeWith y cc maxL ret hs).before args s = true := fun args s h => atoms_spec (ws := ws) h _ (by rw [hw]; exact List.mem_cons_self)
  refine MetFree.of_bodyS (code := cc) (maxLocals := maxL) (ret := ret) hy ?_ ?_
  · intro args s m h hn
    obtain ⟨m', meth, c, h0, h1, h2, h3, h4, -, h5, h6, -⟩ := Cond.codeWith_spec (hcd args s h)
    cases hn.symm.trans h0
    exact ⟨meth, c, h1, h2, h3, h4, h5, h6⟩
  · intro p e s m args below meth c s₁ B hml hP _
    have hh0 : s₁.heap = s.heap := by rw [B.state]; rfl
    have he : c.exceptionTable.toList = tableOf hs := by
      obtain ⟨m', meth', c', h0, h1, h2, -, -, h5, -⟩ := Cond.codeWith_spec (hcd args s B.pre)
      cases B.named.symm.trans h0
      cases B.method.symm.trans h1
      cases (Stand.of_body B).code.symm.trans h2
      rw [← h5, table_eq]
    obtain ⟨t, a1, o, b1, b2, b3⟩ := body p e s m args below meth c s₁ B hml he hP s₁ hh0 (Stand.of_body B)
    exact ⟨t, o, a1, b1, b2, ⟨b3.1, b3.2⟩⟩
/-- what lies where nothing was written is as it was -/
theorem ex_same {s t : State} {k n : Nat} (h : s.sameButNew t locs k n) {q : Nat} (hq : q < s.heap.size) (hl : ∀ y ∈ locs, y.base ≠ q) : t.heap[q]? = s.heap[q]? := by
  obtain ⟨-, -, -, -, -, h6⟩ := h
  obtain ⟨c', e1, e2, e3, e4⟩ := h6 q s.heap[q] (Array.getElem?_eq_getElem hq)
  rw [e1, Array.getElem?_eq_getElem hq, e2]
  have hs : c'.slots = s.heap[q].slots := by
    refine Array.ext_getElem? (fun i => ?_)
    exact e4 i (fun hm => hl _ hm rfl)
  rw [hs]
/-- 'throw new X()' at pc, nothing of the table covers it: the method ends, it threw the new object -/
theorem ex_throw {cc : ByteArray} {own cls : String} {names : List String} {ia ic pc : Nat} {ls : Array Slot} {st : List Value} {Qc : Array Value → State → Outcome → State → Prop} {free : Addr → Prop}
    (hexec : p.tables.exec = Jvm.exec) (hb : c.code = cc) (htr : e.platform.stackTraces = false) (hown : s.vm.findClass own = some m.cls) (hcls : Bundle.fit cls = true) (hnames : ∀ n ∈ names, Bundle.fit n = true)
    (h : ∀ a ∈ Bundle.ownAtoms0 own ic cls names, a.before args s = true) (hcl : (Cond.classLink own ia cls).before args s = true) (hini : (Cond.initialized cls).before args s = true)
    (hlocs : ∀ x ∈ locs, ∀ cell, s.heap[x.base]? = some cell → cell.vm.isStatics = false) (hsz : s.heap.size ≤ H.size) (hout : ∀ x ∈ c.exceptionTable.toList, covers x (pc + 7) = false) (hsize : ls.size = c.maxLocals)
    (hd0 : decode cc pc = .ok (.new ia, 3)) (hd3 : decode cc (pc + 3) = .ok (.dup, 1)) (hd4 : decode cc (pc + 4) = .ok (.invokespecial ic, 3)) (hd7 : decode cc (pc + 7) = .ok (.athrow, 1))
    (hcells : cells + 1 ≤ R.cells) (hslots : slots + 6 ≤ R.slots) (hRf : names.length + 3 < R.frames) (hRl : (st.map fun v => v.category).sum + (13 * (names.length + 1) + 42) ≤ R.locals) (hlocks : meth.locks = false) (hf : ∀ q ∈ locs, free q.base)
    (hq : ∀ (t : State) (ce : Cell), t.heap[H.size]? = some ce → s.vm.findClass cls = some ce.cls → ce.vm = .none → s.WarmedH t.vm → s.heap.size ≤ t.heap.size → (∀ q : Nat, q < s.heap.size → (∀ y ∈ locs, y.base ≠ q) → t.heap[q]? = s.heap[q]?) → Qc args s (.threw H.size) t) :
    W p l e R s m args below meth c H locs cells slots (ex_MQ below Qc args s (cells + 1) (slots + 6) free) (F0 m pc ls st) := by
  refine W.newc hexec hb hown hcl (h (.instantiable cls 6) (by simp [Bundle.ownAtoms0])) hini rfl hd0 hcells hslots (fun cC kC h1 h2 h3 h4 => ?_)
  refine W.eq (g2 := F0 m (pc + 3) ls (.ref H.size :: st)) rfl ?_
  refine lv_dup hexec hb hd3 rfl ?_
  intro T hT X
  subst hb
  obtain ⟨U, q1, q2, q3, q4, q5, ce, q6, q7⟩ := X.ctorThrow0 hexec htr hown hcls hnames h hlocs (a := H.size) h1 h2 (by rw [hT]; simp) hsz (g := F0 m (pc + 4) ls (.ref H.size :: .ref H.size :: st)) rfl hsize rfl rfl (rest := st) rfl hd4 hd7 hout hRf
    (by rw [List.map_cons, List.sum_cons]; show 2 * 0 + (1 + (st.map fun v => v.category).sum) + (13 * (names.length + 1) + 41) ≤ R.locals; omega)
  refine ⟨U, q1, .threw H.size, q2, q3, hq U ce q6 q7.cls q7.vm q4 ?_ ?_, locs, Or.inr ⟨⟨_, rfl⟩, q4, q5⟩, hf⟩
  · exact q5.2.1
  · exact fun q h5 h6 => ex_same (t := ({ U with vm := s.vm } : State)) q5 h5 h6
end Ex
/-! A CALL OF A METHOD THAT MAY THROW, and the caller's own handler. -/
section Ex2
variable {p : Program} {l : Launch} {e : Env} {R : Room} {s : State} {m : MethodId} {args : Array Value} {below : List Frame} {meth : Method} {c : Code} {H : Heap} {T : State} {locs : List Loc} {cells slots : Nat} {Q : State → Prop}
/-- the call comes back, or its exception lies over the caller's frame -/
theorem ex_call (X : Stand p l e R s m args below meth c T locs cells slots) {y : MethodName} {ws : List Cond} {rm : Room} {Pc : Array Value → State → Prop} {Qc : Array Value → State → Outcome → State → Prop} {mc ms maxL : Nat} {free : Addr → Prop}
    {g : JFrame} {ig : Instr} {len : Nat} {mk : MethodId} {a : Array Value} {my : Method} {cy : Code} (hM : MetE l y ws rm Pc Qc mc ms free)
    (hg : g.method = m) (hsize : g.locals.size = c.maxLocals) (hdg : decode c.code g.pc = .ok (ig, len)) (hW : 2 * g.monitorRoom + (g.stack.map fun v => v.category).sum ≤ 8)
    (hn : T.methodNamed? y = some mk) (hmy : T.vm.method? mk = some my) (hcy : my.code = some cy) (hly : cy.maxLocals = maxL) (hini : (Cond.initialized y.cls).before a T = true) (hws : ∀ w ∈ ws, w.before a T = true)
    (hfr : rm.frames + 1 ≤ R.frames) (hlo : 8 + (maxL + 11) + rm.locals ≤ R.locals) (hc : cells + rm.cells ≤ R.cells) (hs : slots + rm.slots ≤ R.slots) (hP : Pc a (T.calling g mk a)) :
    ∃ (o : Outcome) (t T' : State) (L : List Loc), Qc a (T.calling g mk a) o t ∧ Stand p l e R s m args below meth c T' (locs ++ L) (cells + mc) (slots + ms) ∧ (∀ q ∈ L, free q.base) ∧ T'.heap = t.heap ∧ T'.vm = t.vm ∧
      ((∃ v, o = .returned v ∧ Steps p.tables e below (doInvoke e (T.setTop g) [] mk a).1 (T'.setTop { g with pc := g.pc + len, stack := v.toList ++ g.stack })) ∨
       (∃ x, o = .threw x ∧ Steps p.tables e below (doInvoke e (T.setTop g) [] mk a).1 ((T'.setTop g).pushFrame (.throwing x)))) := by
  obtain ⟨kY, hkY, -⟩ := className_of_methodNamed hn
  have hinitY : kY.init = .initialized := Cond.initialized_spec (findClass_of_methodNamed hn) hkY hini
  have h : At T g.method c below := by rw [hg]; exact X.here
  have happ : (headSpec ws rm).appliesLoose y e.platform (T.calling g mk a) = true :=
    Spec.appliesLoose_calling (g := g) h hdg hn hkY hinitY (X.room_calling (g := g) (R' := (headSpec ws rm).room) hsize hmy hcy hfr (by rw [hly]; have := hlo; show _ + (maxL + 11) + rm.locals ≤ _; omega) hc hs) (atoms_intro hws)
  obtain ⟨mid, hmid⟩ := h.above
  have hfr' : (T.setTop g).frames = (.java g :: mid) ++ below := by rw [State.frames_setTop' g h.top, hmid]; rfl
  obtain ⟨o, t, hsteps, -, hend, hq⟩ := Steps.callFree hM p X.admits X.cas X.clock (acts := []) hfr' happ hP trivial
  rw [State.frames_setTop' g h.top, X.tail] at hend
  obtain ⟨hq1, L, hF, hL⟩ := hq
  rcases hF with ⟨⟨v, rfl⟩, hw2, hs2⟩ | ⟨⟨x, rfl⟩, hw2, hs2⟩
  · obtain ⟨T', X', -, -, ht⟩ := X.outOf hg hdg (mk := mk) (a := a) hend hw2 hs2
    refine ⟨_, t, T', L, hq1, X', hL, ?_, ?_, Or.inl ⟨v, rfl, ht ▸ hsteps⟩⟩
    · rw [ht]; simp
    · rw [ht]; simp
  · obtain ⟨T', X', -, -, ht⟩ := X.outOfThrown hg (mk := mk) (a := a) hend hw2 hs2
    refine ⟨_, t, T', L, hq1, X', hL, ?_, ?_, Or.inr ⟨x, rfl, ht ▸ hsteps⟩⟩
    · rw [ht]; exact (Stand.throwing_heap T' g x).symm
    · rw [ht]; exact (Stand.throwing_vm T' g x).symm
/-- one step: a handler is found, the tables a little warmer -/
theorem ex_stepCatch {u : State} {a : Addr} {f : JFrame} {r : List Frame} {pc : Nat} {vm' : Vm} (hfind : ∀ (Q : Handler → Pre) (E : CtlPost) (d : Bool) (acts : List Action), wp (findHandler f a) Q E e d acts u ↔ Q (.found pc) d acts (u.setVm vm')) :
    (stepThrowing e u a (.java f :: r)).Is ((u.setVm vm').setFrames (.java { f with pc := pc, stack := [.ref a] } :: r)) [] := by
  simp only [stepThrowing, searchFrame, vmDo]
  generalize hr : Sem.go _ e false [] u = res
  obtain ⟨as, rfl, ha⟩ := Sem.eq_ok_of hr (a := Handler.found pc) (s' := u.setVm vm') (acts' := []) (by simp [hfind _ _ _ _])
  exact ⟨rfl, ha⟩
theorem ex_finds {u : State} {f : JFrame} {a : Addr} {my : Method} {cy : Code} {x : ExceptionTableEntry} {cC : ClassId} {cell : Cell} {vm' : Vm}
    (hm : u.vm.method? f.method = some my) (hc : my.code = some cy) (ht : cy.exceptionTable.toList = [x]) (hx : covers x f.pc = true) (h0 : x.catchType ≠ 0)
    (hg : (Jvm.resolveClass f.method.cls x.catchType).Gives e.toSetting u.vm (.ok cC) vm') (hsz : vm'.classes.size ≤ u.vm.classes.size) (hcell : u.heap[a]? = some cell) (hobj : ∀ k, cell.vm ≠ .statics k)
    (hk : ∃ k, vm'.classes[cell.cls]? = some k) (hcl : ∃ k, vm'.classes[cC]? = some k) (hfit : vm'.assignable cell.cls cC = true) :
    ∀ (Q : Handler → Pre) (E : CtlPost) (d : Bool) (acts : List Action), wp (findHandler f a) Q E e d acts u ↔ Q (.found x.handlerPc) d acts (u.setVm vm') := by
  intro Q E d acts
  rw [W.findHandler_eq hm hc, ht]
  simp only [covers] at hx
  obtain ⟨ha, hb⟩ := hg.op (op := VmOp.resolveClass f.method.cls x.catchType) rfl
  simp [findHandler.go, hx, h0, ha, hb, hsz, hcell, hobj, hk, hcl, hfit, VmOp.dirties, VmOp.acts]
/-- the walk goes on at the handler -/
theorem ex_caught (X : Stand p l e R s m args below meth c T locs cells slots) {own C D : String} {x : ExceptionTableEntry} {a : Addr} {g : JFrame} {cell : Cell} (hg : g.method = m) (hown : s.vm.findClass own = some m.cls)
    (ht : c.exceptionTable.toList = [x]) (hx : covers x g.pc = true) (h0 : x.catchType ≠ 0) (hlink : (Cond.classLink own x.catchType D).before args s = true) (hcast : (Cond.castable C D).before args s = true)
    (hcell : T.heap[a]? = some cell) (hcls : s.vm.findClass C = some cell.cls) (hvm : cell.vm = .none) :
    ∃ vm', Stand p l e R s m args below meth c (T.setVm vm') locs cells slots ∧ ∀ target, Steps p.tables e below ((T.setVm vm').setTop { g with pc := x.handlerPc, stack := [.ref a] }) target → Steps p.tables e below ((T.setTop g).pushFrame (.throwing a)) target := by
  subst hg
  have hpl : e.platform.magicAccessors = ({} : Platform).magicAccessors := by rw [X.admits.platform]
  obtain ⟨cD, hfD, hcl⟩ := Cond.classLink_spec hown hlink e.platform hpl
  obtain ⟨c3, c4, hc3, hc4, hasg⟩ := Cond.castable_spec hcast
  cases Option.some.inj (hc3.symm.trans hcls)
  cases Option.some.inj (hc4.symm.trans hfD)
  obtain ⟨hg1, hwarm, hready⟩ := State.classEntry (e := e) X.warmed hcl
  have hsz : (T.vm.noted g.method.cls x.catchType (.cls cD)).classes.size ≤ T.vm.classes.size := by first | no_record | simp [Vm.noted]
  generalize T.vm.noted g.method.cls x.catchType (.cls cD) = vm₁ at hg1 hwarm hready hsz
  have X1 := X.noted hwarm
  refine ⟨vm₁, X1, fun target hrest => ?_⟩
  have hasg' : vm₁.assignable cell.cls cD = true := by first | (rw [hwarm.alike.assignable]; exact hasg) | (rw [← hwarm.alike.assignable]; exact hasg)
  obtain ⟨kD, hkD⟩ := Vm.classAt_of_findClass hfD
  obtain ⟨kD', hkD', -⟩ := hwarm.alike.2.2 _ _ hkD
  have hfind := ex_finds (e := e) (u := (T.setTop g).pushFrame (.throwing a)) (f := g) (a := a) (my := meth) (cy := c) (x := x) (cC := cD) (cell := cell) (vm' := vm₁)
    (by rw [Stand.throwing_vm]; exact X.method') X.code ht hx h0 (by rw [Stand.throwing_vm]; exact hg1) (by rw [Stand.throwing_vm]; exact hsz) (by rw [Stand.throwing_heap]; exact hcell) (fun k => by rw [hvm]; simp)
    (Vm.classAt_of_assignable hasg' ⟨_, hkD'⟩) ⟨_, hkD'⟩ hasg'
  have h : At T g.method c below := X.here
  obtain ⟨hgo, hw⟩ := h.throwing a
  refine Steps.head hgo hw ?_
  rw [stepThread_throwing (frames_entered h.top _), (ex_stepCatch hfind).1]
  obtain ⟨g₀, hg0⟩ := Option.isSome_iff_exists.mp h.top
  obtain ⟨r, hr⟩ := State.topJava?_eq_some.mp hg0
  have hr1 : (T.setVm vm₁).frames = .java g₀ :: r := hr
  rw [State.setTop_of_frames _ hr1] at hrest
  have he : (((T.setTop g).pushFrame (.throwing a)).setVm vm₁).setFrames (.java { g with pc := x.handlerPc, stack := [.ref a] } :: T.frames.tail) = (T.setVm vm₁).setFrames (.java { g with pc := x.handlerPc, stack := [.ref a] } :: r) := by
    rw [hr, State.pushFrame, State.setTop_of_frames _ hr]
    show ((((T.setFrames (.java g :: r)).setFrames _).setVm vm₁).setFrames _) = _
    rw [State.setFrames_setFrames]
    show (((T.setVm vm₁).setFrames _).setFrames _) = _
    rw [State.setFrames_setFrames]
    rfl
  first | (rw [he]; exact hrest) | (rw [← he] at hrest; exact hrest)
/-- invokevirtual of a method that may throw, in a method whose one handler covers the call -/
theorem ex_callV {cc bytes : ByteArray} {nL maxL mc ms n index pc : Nat} {Ts ws : List Cond} {own C E D : String} {y : MethodName} {ret : Option FieldType} {rm : Room} {Pc : Array Value → State → Prop} {Qc : Array Value → State → Outcome → State → Prop} {free : Addr → Prop}
    {b : Addr} {As rest : List Value} {ls : Array Slot} {x : ExceptionTableEntry} (S : CallFix p m c cc nL s args Ts own) (hM : MetE l y ws rm Pc Qc mc ms free) (cw : CallW R s args own C index y bytes maxL ret ws rm mc ms n) (hp : PreV s H C b Pc As)
    (hn : As.length = n) (hsize : ls.size = nL) (hW : (rest.map fun v => v.category).sum ≤ 8) (hdg : decode cc pc = .ok (.invokevirtual index, 3)) (hf : cells + mc ≤ R.cells ∧ slots + ms ≤ R.slots)
    (ht : c.exceptionTable.toList = [x]) (hx : covers x pc = true) (h0 : x.catchType ≠ 0) (hlink : (Cond.classLink own x.catchType D).before args s = true) (hcast : (Cond.castable E D).before args s = true)
    (hthrow : ∀ (st₀ t : State) (a : Addr), Qc (Value.ref b :: As).toArray st₀ (.threw a) t → s.WarmedH st₀.vm → ∃ cell, t.heap[a]? = some cell ∧ s.vm.findClass E = some cell.cls ∧ cell.vm = .none)
    (kr : ∀ (v : Option Value) (st₀ t : State) (L : List Loc), st₀.heap = H → s.WarmedH t.vm → (∀ q ∈ L, free q.base) → Qc (Value.ref b :: As).toArray st₀ (.returned v) t → W p l e R s m args below meth c t.heap (locs ++ L) (cells + mc) (slots + ms) Q (F0 m (pc + 3) ls (v.toList ++ rest)))
    (kt : ∀ (a : Addr) (st₀ t : State) (L : List Loc), st₀.heap = H → s.WarmedH t.vm → (∀ q ∈ L, free q.base) → Qc (Value.ref b :: As).toArray st₀ (.threw a) t → W p l e R s m args below meth c t.heap (locs ++ L) (cells + mc) (slots + ms) Q (F0 m x.handlerPc ls [.ref a])) :
    W p l e R s m args below meth c H locs cells slots Q (F0 m pc ls (As.reverse ++ .ref b :: rest)) := by
  obtain ⟨⟨hrc, hrs, hfr, hlo, hws, -, hcode, hini, hy, hlen, hl⟩, hin, hse⟩ := cw
  obtain ⟨hx1, hb, hml, ho, -⟩ := S
  obtain ⟨hbl, ⟨cellB, hcB, hoB, hclB⟩, hPc⟩ := hp
  intro T hT X
  obtain ⟨mk, methM, hnamed, hmethM, hstM, habM⟩ := Cond.instanceMethod_spec hin
  obtain ⟨methM', cM, hmethM', hcM, -, hlM, -, -, -, hsigM⟩ := Cond.code_spec hnamed hcode
  cases hmethM.symm.trans hmethM'
  obtain ⟨c2, r2, m2, q1, q2, q3, q4, kP, hkP, hkPi⟩ := Cond.selects_spec hse
  cases hclB.symm.trans q1
  cases (State.methodFound?_of_named hnamed hy).symm.trans q2
  cases hnamed.symm.trans q3
  have hselP : selectMethod e.platform s.vm cellB.cls mk = .method mk := by rw [Launch.admits_selectMethod X.admits]; exact q4
  obtain ⟨vm₁, X₁, hstep₁⟩ := X.invokevirtual hx1 ho hl hnamed hmethM hstM hkP hkPi hy (a := b) (cell := cellB) (by rw [hT]; exact hcB)
    (fun z h => by rw [h] at hoB; cases hoB) hselP hmethM habM hkP hkPi (g := F0 m pc ls (As.reverse ++ .ref b :: rest)) rfl (argsL := As) (rest := rest) (hn.trans (hlen _ hsigM)) rfl (by rw [hb]; exact hdg)
  have hW₁ : s.WarmedH vm₁ := X₁.warmed
  obtain ⟨o, t, T', L, hq, X', hL, e1, e2, hcase⟩ := ex_call (T := T.setVm vm₁) X₁ (y := y) (maxL := maxL) (g := F0 m pc ls rest) (ig := .invokevirtual index) (len := 3) (mk := mk) (a := (Value.ref b :: As).toArray) (my := methM) (cy := cM) hM rfl (hsize.trans hml.symm) (by rw [hb]; exact hdg)
    (by show 2 * 0 + _ ≤ 8; simpa using hW) (X₁.named hnamed) (by show vm₁.method? mk = some methM; rw [hW₁.alike.method?]; exact hmethM) hcM hlM (word_at hW₁ (Or.inl (by first | rfl | simp [Cond.onTables, Cond.keeps, Cond.steady])) hini) (fun w hw => hws w hw _ _ hW₁) hfr hlo (by rw [hrc]; exact hf.1) (by rw [hrs]; exact hf.2)
    (hbl _ _ _ _ (hPc (T.setVm vm₁) hT hW₁))
  have hst : ((T.setVm vm₁).calling (F0 m pc ls rest) mk (Value.ref b :: As).toArray).heap = H := hT
  have hwt : s.WarmedH t.vm := e2 ▸ X'.warmed
  rcases hcase with ⟨v, rfl, hs⟩ | ⟨a, rfl, hs⟩
  · obtain ⟨tt, a1, b1⟩ := kr v _ t L hst hwt hL hq T' e1 X'
    exact ⟨tt, hstep₁ _ (fun acts => by rw [doInvoke_state]; exact hs.trans a1), b1⟩
  · obtain ⟨cell, hc1, hc2, hc3⟩ := hthrow _ t a hq hW₁
    obtain ⟨vm2, X2, st2⟩ := ex_caught X' (g := F0 m pc ls rest) (C := E) (D := D) (a := a) (cell := cell) rfl ho ht hx h0 hlink hcast (by rw [e1]; exact hc1) hc2 hc3
    obtain ⟨tt, a1, b1⟩ := kt a _ t L hst hwt hL hq (T'.setVm vm2) e1 X2
    exact ⟨tt, hstep₁ _ (fun acts => by rw [doInvoke_state]; exact hs.trans (st2 _ a1)), b1⟩
end Ex2
/-! CALLS OF METHODS THAT HAVE A TABLE OF HANDLERS AND RETURN. -/
section Ex3
variable {p : Program} {l : Launch} {e : Env} {R : Room} {s : State} {m : MethodId} {args : Array Value} {below : List Frame} {meth : Method} {c : Code} {H : Heap} {locs : List Loc} {cells slots : Nat} {Q : State → Prop}
theorem Met.toE {y : MethodName} {ws : List Cond} {rm : Room} {Pc : Array Value → State → Prop} {Qc : Array Value → State → Outcome → State → Prop} {mc ms : Nat} {free : Addr → Prop} (h : Met l y ws rm Pc Qc mc ms free) : MetE l y ws rm Pc Qc mc ms free := by
  intro p e ha hc hk s m args below hf happ hP hK
  obtain ⟨n, o, h1, h2, h3, h4, L, h5, h6⟩ := h p e ha hc hk s m args below hf happ hP hK
  exact ⟨n, o, h1, h2, h3, h4, L, Or.inl h5, h6⟩
/-- the words of a callee with a table: that it is there, that its words stay, room -/
def ex_CB (R : Room) (s : State) (args : Array Value) (own : String) (index : Nat) (y : MethodName) (bytes : ByteArray) (maxL : Nat) (ret : Option FieldType) (hs : List (Nat × Nat × Nat × Nat)) (ws : List Cond) (rm : Room) (mc ms n : Nat) : Prop :=
  rm.cells = mc ∧ rm.slots = ms ∧ rm.frames + 1 ≤ R.frames ∧ 8 + (maxL + 11) + rm.locals ≤ R.locals ∧ (∀ w ∈ ws, ∀ (a' : Array Value) (U : State), s.WarmedH U.vm → w.before a' U = true) ∧
  (Cond.codeWith y bytes maxL ret hs).before args s = true ∧ (Cond.initialized y.cls).before args s = true ∧ (y.cls ≠ "java/lang/invoke/MethodHandle" ∧ y.cls ≠ "java/lang/invoke/VarHandle") ∧ (∀ sig, parseMethodDescriptor y.desc = some sig → n = sig.parameters.length) ∧ (Cond.methodLink own index y).before args s = true
theorem ex_cb {own : String} {index maxL mc ms : Nat} {y : MethodName} {bytes : ByteArray} {ret : Option FieldType} {hs : List (Nat × Nat × Nat × Nat)} {Ts ws ws' : List Cond} {rm : Room} (n : Nat) (ht : ∀ w ∈ Ts, w.before args s = true) (hG : GoodIn Ts ws) (hw : ws = Cond.codeWith y bytes maxL ret hs :: ws') (hrc : rm.cells = mc) (hrs : rm.slots = ms)
    (hini : (Cond.initialized y.cls).before args s = true) (hl : (Cond.methodLink own index y).before args s = true)
    (hd : y.cls ≠ "java/lang/invoke/MethodHandle" ∧ y.cls ≠ "java/lang/invoke/VarHandle" ∧ (parseMethodDescriptor y.desc).map (fun d => d.parameters.length) = some n) (hR : rm.frames + 1 ≤ R.frames ∧ 8 + (maxL + 11) + rm.locals ≤ R.locals) :
    ex_CB R s args own index y bytes maxL ret hs ws rm mc ms n := by
  have hc : Cond.codeWith y bytes maxL ret hs ∈ ws := by rw [hw]; exact List.mem_cons_self
  refine ⟨hrc, hrs, hR.1, hR.2, pay_in ht hG, ht _ (hG _ hc).1, hini, ⟨hd.1, hd.2.1⟩, fun sig h => ?_, hl⟩
  have h2 := hd.2.2
  rw [h] at h2
  exact (Option.some.inj h2).symm
variable {y : MethodName} {bytes cc : ByteArray} {maxL nL mc ms n index : Nat} {ret : Option FieldType} {hs : List (Nat × Nat × Nat × Nat)} {ws : List Cond} {rm : Room} {Pc : Array Value → State → Prop} {Qc : Array Value → State → Outcome → State → Prop} {free : Addr → Prop} {Ts : List Cond} {own C : String} {b : Addr} {As rest : List Value} {g : JFrame}
theorem ex_runS (S : CallFix p m c cc nL s args Ts own) (hM : Met l y ws rm Pc Qc mc ms free) (hQ : ∀ a st o t, Qc a st o t → ∃ v, o = .returned v) (cw : ex_CB R s args own index y bytes maxL ret hs ws rm mc ms n) (hstt : (Cond.static y).before args s = true) (hp : PreS s H Pc As)
    (hg : g.method = m) (hn : As.length = n) (hsize : g.locals.size = nL) (hstack : g.stack = As.reverse ++ rest) (hW : 2 * g.monitorRoom + (rest.map fun v => v.category).sum ≤ 8) (hdg : decode cc g.pc = .ok (.invokestatic index, 3)) (hf : cells + mc ≤ R.cells ∧ slots + ms ≤ R.slots) :
    va_Run p l e R s m args below meth c H locs cells slots mc ms g rest (Qc As.toArray) (free) := by
  obtain ⟨hrc, hrs, hfr, hlo, hws, hcode, hini, hy, hlen, hl⟩ := cw
  obtain ⟨hx, hb, hml, ho, -⟩ := S
  intro T hT X
  obtain ⟨mk, methM, cM, hnamed, hmethM, hcM, -, hlM, -, -, -, hsigM⟩ := Cond.codeWith_spec hcode
  have hstatic : methM.isStatic = true := Cond.static_spec hnamed hmethM hstt
  obtain ⟨kP, hkP, -⟩ := className_of_methodNamed hnamed
  have hinitP : kP.init = .initialized := Cond.initialized_spec (findClass_of_methodNamed hnamed) hkP hini
  obtain ⟨vm₁, X₁, hstep₁⟩ := X.invokestatic hx ho hl hnamed hmethM hstatic hkP hinitP hy (g := g) hg (argsL := As) (rest := rest) (hn.trans (hlen _ hsigM)) hstack (by rw [hb]; exact hdg)
  have hW₁ : s.WarmedH vm₁ := X₁.warmed
  obtain ⟨o, t, T', L, hq, X', hL, e1, e2, hcase⟩ := ex_call (T := T.setVm vm₁) X₁ (y := y) (maxL := maxL) (g := { g with stack := rest }) (ig := .invokestatic index) (len := 3) (mk := mk) (a := As.toArray) (my := methM) (cy := cM) hM.toE hg (hsize.trans hml.symm) (by rw [hb]; exact hdg)
    hW (X₁.named hnamed) (by show vm₁.method? mk = some methM; rw [hW₁.alike.method?]; exact hmethM) hcM hlM (word_at hW₁ (Or.inl (by first | rfl | simp [Cond.onTables, Cond.keeps, Cond.steady])) hini) (fun w hw => hws w hw _ _ hW₁) hfr hlo (by rw [hrc]; exact hf.1) (by rw [hrs]; exact hf.2)
    (hp.1 _ _ _ _ (hp.2 (T.setVm vm₁) hT hW₁))
  have hst0 : ((T.setVm vm₁).calling { g with stack := rest } mk As.toArray).heap = H := hT
  rcases hcase with ⟨v, rfl, h1⟩ | ⟨x, rfl, -⟩
  · exact ⟨v, _, t, T', L, hst0, X', hL, e1, e2, hq, fun target h => hstep₁ _ (fun acts => by rw [doInvoke_state]; exact h1.trans h)⟩
  · obtain ⟨v, hv⟩ := hQ _ _ _ _ hq
    cases hv
theorem ex_runV (S : CallFix p m c cc nL s args Ts own) (hM : Met l y ws rm Pc Qc mc ms free) (hQ : ∀ a st o t, Qc a st o t → ∃ v, o = .returned v) (cw : ex_CB R s args own index y bytes maxL ret hs ws rm mc ms n) (hin : (Cond.instanceMethod y).before args s = true) (hse : (Cond.selects C y y).before args s = true) (hp : PreV s H C b Pc As)
    (hg : g.method = m) (hn : As.length = n) (hsize : g.locals.size = nL) (hstack : g.stack = As.reverse ++ .ref b :: rest) (hW : 2 * g.monitorRoom + (rest.map fun v => v.category).sum ≤ 8) (hdg : decode cc g.pc = .ok (.invokevirtual index, 3)) (hf : cells + mc ≤ R.cells ∧ slots + ms ≤ R.slots) :
    va_Run p l e R s m args below meth c H locs cells slots mc ms g rest (Qc (Value.ref b :: As).toArray) (free) := by
  obtain ⟨hrc, hrs, hfr, hlo, hws, hcode, hini, hy, hlen, hl⟩ := cw
  obtain ⟨hx, hb, hml, ho, -⟩ := S
  obtain ⟨hbl, ⟨cellB, hcB, hoB, hclB⟩, hPc⟩ := hp
  intro T hT X
  obtain ⟨mk, methM, hnamed, hmethM, hstM, habM⟩ := Cond.instanceMethod_spec hin
  obtain ⟨mk', methM', cM, hnamed', hmethM', hcM, -, hlM, -, -, -, hsigM⟩ := Cond.codeWith_spec hcode
  cases hnamed.symm.trans hnamed'
  cases hmethM.symm.trans hmethM'
  obtain ⟨c2, r2, m2, q1, q2, q3, q4, kP, hkP, hkPi⟩ := Cond.selects_spec hse
  cases hclB.symm.trans q1
  cases (State.methodFound?_of_named hnamed hy).symm.trans q2
  cases hnamed.symm.trans q3
  have hselP : selectMethod e.platform s.vm cellB.cls mk = .method mk := by rw [Launch.admits_selectMethod X.admits]; exact q4
  obtain ⟨vm₁, X₁, hstep₁⟩ := X.invokevirtual hx ho hl hnamed hmethM hstM hkP hkPi hy (a := b) (cell := cellB) (by rw [hT]; exact hcB)
    (fun z h => by rw [h] at hoB; cases hoB) hselP hmethM habM hkP hkPi (g := g) hg (argsL := As) (rest := rest) (hn.trans (hlen _ hsigM)) hstack (by rw [hb]; exact hdg)
  have hW₁ : s.WarmedH vm₁ := X₁.warmed
  obtain ⟨o, t, T', L, hq, X', hL, e1, e2, hcase⟩ := ex_call (T := T.setVm vm₁) X₁ (y := y) (maxL := maxL) (g := { g with stack := rest }) (ig := .invokevirtual index) (len := 3) (mk := mk) (a := (Value.ref b :: As).toArray) (my := methM) (cy := cM) hM.toE hg (hsize.trans hml.symm) (by rw [hb]; exact hdg)
    hW (X₁.named hnamed) (by show vm₁.method? mk = some methM; rw [hW₁.alike.method?]; exact hmethM) hcM hlM (word_at hW₁ (Or.inl (by first | rfl | simp [Cond.onTables, Cond.keeps, Cond.steady])) hini) (fun w hw => hws w hw _ _ hW₁) hfr hlo (by rw [hrc]; exact hf.1) (by rw [hrs]; exact hf.2)
    (hbl _ _ _ _ (hPc (T.setVm vm₁) hT hW₁))
  have hst0 : ((T.setVm vm₁).calling { g with stack := rest } mk (Value.ref b :: As).toArray).heap = H := hT
  rcases hcase with ⟨v, rfl, h1⟩ | ⟨x, rfl, -⟩
  · exact ⟨v, _, t, T', L, hst0, X', hL, e1, e2, hq, fun target h => hstep₁ _ (fun acts => by rw [doInvoke_state]; exact h1.trans h)⟩
  · obtain ⟨v, hv⟩ := hQ _ _ _ _ hq
    cases hv
end Ex3
end
section
/-! THE TABLES' WORDS, ONE LIST FOR ALL METHODS: wd_all (those that a callee's contract may ask), nw_L (those that stand in its start). -/
def wd_all : List Cond := lw_tbl.filter goodWord
theorem wd_i {w : Cond} (i : Nat) (h : lw_tbl[i]? = some w) (hg : goodWord w = true) : w ∈ wd_all := List.mem_filter.mpr ⟨List.mem_of_getElem? h, hg⟩
theorem wd_g {w : Cond} (h : w ∈ wd_all) : goodWord w = true := (List.mem_filter.mp h).2
theorem wd_ps (ws : List Cond) (ps : List Nat) (hp : ws = ps.filterMap (fun i => lw_tbl[i]?)) (h : ws.all goodWord = true) : ∀ w ∈ ws, w ∈ wd_all := by
  intro w hw
  have h1 := List.all_eq_true.mp h w hw
  rw [hp] at hw
  obtain ⟨i, -, hi⟩ := List.mem_filterMap.mp hw
  exact List.mem_filter.mpr ⟨List.mem_of_getElem? hi, h1⟩
theorem gd_of {w : Cond} (h : w ∈ wd_all) : GoodIn wd_all (w :: wd_all) := fun v hv => (List.mem_cons.mp hv).elim (fun e => ⟨e ▸ h, good_of_word (wd_g (e ▸ h))⟩) (fun h2 => ⟨h2, good_of_word (wd_g h2)⟩)
def nw_k : Cond → Bool
  | .methodLinkNest .. => true
  | .fieldLinkNest .. => true
  | .castable .. => true
  | .declares .. => true
  | _ => false
def nw_L : List Cond := lw_tbl.filter nw_k
def nw_all (U : State) : Prop := (∀ w ∈ nw_L, va_Nw w U) ∧ va_AO "MatrixScripts$Whole" U
theorem nw_i {w : Cond} (i : Nat) (h : lw_tbl[i]? = some w) (hg : nw_k w = true) : w ∈ nw_L := List.mem_filter.mpr ⟨List.mem_of_getElem? h, hg⟩
theorem nw_warm {s U : State} (hW : s.WarmedH U.vm) (h : nw_all s) : nw_all U := by
  refine ⟨?_, va_AO.moved hW.alike h.2⟩
  intro w hw
  have hk := (List.mem_filter.mp hw).2
  have h1 := h.1 w hw
  cases w with
  | methodLinkNest a i x h => exact va_Nw.warmM hW h1
  | fieldLinkNest a i b n d h => exact va_Nw.warmF hW h1
  | castable C T => exact va_Nw.warmC hW h1
  | declares x => exact va_Nw.warmD hW h1
  | _ => simp [nw_k] at hk
theorem nw_on {w : Cond} (hk : nw_k w = true) : w.onTables = true := by
  cases w with
  | methodLinkNest a i x h => rfl
  | fieldLinkNest a i b n d h => rfl
  | castable C T => rfl
  | declares x => rfl
  | _ => simp [nw_k] at hk
theorem nw_same {s U : State} (hv : s.vm = U.vm) (h : nw_all s) : nw_all U := ⟨fun w hw => va_Nw.same (nw_on (List.mem_filter.mp hw).2) hv (h.1 w hw), va_AO.moved (hv ▸ Vm.Alike.refl s.vm) h.2⟩
theorem nw_of {A : Array Value} {s : State} (h : ∀ w ∈ lw_tbl, w.before A s = true) : nw_all s := ⟨fun w hw => va_Nw.of (nw_on (List.mem_filter.mp hw).2) (h w (List.mem_filter.mp hw).1), va_AO.of (A := A) (h _ (List.mem_of_getElem? (i := 353) (by decide +kernel)))⟩
theorem tw_155 : (Jvm.Cond.initialized "MatrixScripts$Script") ∈ wd_all := wd_i 155 (by decide +kernel) (by decide +kernel)
theorem tw_156 : (Jvm.Cond.initialized "MatrixScripts$Tape") ∈ wd_all := wd_i 156 (by decide +kernel) (by decide +kernel)
theorem tw_157 : (Jvm.Cond.initialized "MatrixScripts$Page") ∈ wd_all := wd_i 157 (by decide +kernel) (by decide +kernel)
theorem tw_158 : (Jvm.Cond.initialized "MatrixScripts$Whole") ∈ wd_all := wd_i 158 (by decide +kernel) (by decide +kernel)
theorem tw_159 : (Jvm.Cond.initialized "MatrixScripts$Values") ∈ wd_all := wd_i 159 (by decide +kernel) (by decide +kernel)
theorem tw_160 : (Jvm.Cond.initialized "MatrixScripts$Maker") ∈ wd_all := wd_i 160 (by decide +kernel) (by decide +kernel)
theorem tw_161 : (Jvm.Cond.initialized "MatrixScripts$Lattices") ∈ wd_all := wd_i 161 (by decide +kernel) (by decide +kernel)
theorem tw_162 : (Jvm.Cond.initialized "MatrixScripts$Elimination") ∈ wd_all := wd_i 162 (by decide +kernel) (by decide +kernel)
theorem tw_163 : (Jvm.Cond.initialized "MatrixScripts$Matrix") ∈ wd_all := wd_i 163 (by decide +kernel) (by decide +kernel)
theorem tw_164 : (Jvm.Cond.initialized "MatrixScripts$Calc") ∈ wd_all := wd_i 164 (by decide +kernel) (by decide +kernel)
theorem tw_165 : (Jvm.Cond.initialized "MatrixScripts$Polynomials") ∈ wd_all := wd_i 165 (by decide +kernel) (by decide +kernel)
theorem tw_166 : (Jvm.Cond.initialized "MatrixScripts$Modular") ∈ wd_all := wd_i 166 (by decide +kernel) (by decide +kernel)
theorem tw_168 : (Jvm.Cond.initialized "MatrixScriptsModel$Fractions") ∈ wd_all := wd_i 168 (by decide +kernel) (by decide +kernel)
theorem tw_169 : (Jvm.Cond.initialized "MatrixScriptsModel$Wholes") ∈ wd_all := wd_i 169 (by decide +kernel) (by decide +kernel)
theorem tw_170 : (Jvm.Cond.initialized "MatrixScriptsModel$Forms") ∈ wd_all := wd_i 170 (by decide +kernel) (by decide +kernel)
theorem tw_197 : (Jvm.Cond.code ({ cls := "MatrixScripts", name := "<init>", desc := "()V" } : Jvm.MethodName) prog_1_method_1_code (1 : Nat) (Option.none : Option Jvm.ClassFile.FieldType)) ∈ wd_all := wd_i 197 (by decide +kernel) (by decide +kernel)
theorem tw_198 : (Jvm.Cond.methodLink "MatrixScripts" (1 : Nat) ({ cls := "java/lang/Object", name := "<init>", desc := "()V" } : Jvm.MethodName)) ∈ wd_all := wd_i 198 (by decide +kernel) (by decide +kernel)
theorem tw_199 : (Jvm.Cond.instanceMethod ({ cls := "java/lang/Object", name := "<init>", desc := "()V" } : Jvm.MethodName)) ∈ wd_all := wd_i 199 (by decide +kernel) (by decide +kernel)
theorem tw_200 : (Jvm.Cond.code ({ cls := "java/lang/Object", name := "<init>", desc := "()V" } : Jvm.MethodName) object_method_1_code (1 : Nat) (Option.none : Option Jvm.ClassFile.FieldType)) ∈ wd_all := wd_i 200 (by decide +kernel) (by decide +kernel)
theorem tw_201 : (Jvm.Cond.classLink "MatrixScripts" (7 : Nat) "MatrixScripts$Script") ∈ wd_all := wd_i 201 (by decide +kernel) (by decide +kernel)
theorem tw_202 : (Jvm.Cond.instantiable "MatrixScripts$Script" (17 : Nat)) ∈ wd_all := wd_i 202 (by decide +kernel) (by decide +kernel)
theorem tw_204 : (Jvm.Cond.instanceMethod ({ cls := "MatrixScripts$Script", name := "<init>", desc := "()V" } : Jvm.MethodName)) ∈ wd_all := wd_i 204 (by decide +kernel) (by decide +kernel)
theorem tw_205 : (Jvm.Cond.code ({ cls := "MatrixScripts$Script", name := "<init>", desc := "()V" } : Jvm.MethodName) prog_12_method_1_code (1 : Nat) (Option.none : Option Jvm.ClassFile.FieldType)) ∈ wd_all := wd_i 205 (by decide +kernel) (by decide +kernel)
theorem tw_206 : (Jvm.Cond.methodLink "MatrixScripts$Script" (3 : Nat) ({ cls := "java/lang/Object", name := "<init>", desc := "()V" } : Jvm.MethodName)) ∈ wd_all := wd_i 206 (by decide +kernel) (by decide +kernel)
theorem tw_207 : (Jvm.Cond.classLink "MatrixScripts$Script" (9 : Nat) "MatrixScripts$Tape") ∈ wd_all := wd_i 207 (by decide +kernel) (by decide +kernel)
theorem tw_208 : (Jvm.Cond.instantiable "MatrixScripts$Tape" (5 : Nat)) ∈ wd_all := wd_i 208 (by decide +kernel) (by decide +kernel)
theorem tw_210 : (Jvm.Cond.instanceMethod ({ cls := "MatrixScripts$Tape", name := "<init>", desc := "()V" } : Jvm.MethodName)) ∈ wd_all := wd_i 210 (by decide +kernel) (by decide +kernel)
theorem tw_211 : (Jvm.Cond.code ({ cls := "MatrixScripts$Tape", name := "<init>", desc := "()V" } : Jvm.MethodName) prog_13_method_1_code (1 : Nat) (Option.none : Option Jvm.ClassFile.FieldType)) ∈ wd_all := wd_i 211 (by decide +kernel) (by decide +kernel)
theorem tw_212 : (Jvm.Cond.methodLink "MatrixScripts$Tape" (3 : Nat) ({ cls := "java/lang/Object", name := "<init>", desc := "()V" } : Jvm.MethodName)) ∈ wd_all := wd_i 212 (by decide +kernel) (by decide +kernel)
theorem tw_213 : (Jvm.Cond.fieldLink "MatrixScripts$Tape" (9 : Nat) "MatrixScripts$Tape" "words" "[I") ∈ wd_all := wd_i 213 (by decide +kernel) (by decide +kernel)
theorem tw_233 : (Jvm.Cond.arrayClass Jvm.ClassFile.FieldType.int) ∈ wd_all := wd_i 233 (by decide +kernel) (by decide +kernel)
theorem tw_234 : (Jvm.Cond.classLink "MatrixScripts$Script" (18 : Nat) "MatrixScripts$Page") ∈ wd_all := wd_i 234 (by decide +kernel) (by decide +kernel)
theorem tw_235 : (Jvm.Cond.instantiable "MatrixScripts$Page" (5 : Nat)) ∈ wd_all := wd_i 235 (by decide +kernel) (by decide +kernel)
theorem tw_237 : (Jvm.Cond.instanceMethod ({ cls := "MatrixScripts$Page", name := "<init>", desc := "()V" } : Jvm.MethodName)) ∈ wd_all := wd_i 237 (by decide +kernel) (by decide +kernel)
theorem tw_238 : (Jvm.Cond.code ({ cls := "MatrixScripts$Page", name := "<init>", desc := "()V" } : Jvm.MethodName) prog_10_method_1_code (1 : Nat) (Option.none : Option Jvm.ClassFile.FieldType)) ∈ wd_all := wd_i 238 (by decide +kernel) (by decide +kernel)
theorem tw_239 : (Jvm.Cond.methodLink "MatrixScripts$Page" (1 : Nat) ({ cls := "java/lang/Object", name := "<init>", desc := "()V" } : Jvm.MethodName)) ∈ wd_all := wd_i 239 (by decide +kernel) (by decide +kernel)
theorem tw_240 : (Jvm.Cond.classLink "MatrixScripts$Page" (13 : Nat) "MatrixScripts$Whole") ∈ wd_all := wd_i 240 (by decide +kernel) (by decide +kernel)
theorem tw_241 : (Jvm.Cond.instantiable "MatrixScripts$Whole" (3 : Nat)) ∈ wd_all := wd_i 241 (by decide +kernel) (by decide +kernel)
theorem tw_243 : (Jvm.Cond.instanceMethod ({ cls := "MatrixScripts$Whole", name := "<init>", desc := "()V" } : Jvm.MethodName)) ∈ wd_all := wd_i 243 (by decide +kernel) (by decide +kernel)
theorem tw_244 : (Jvm.Cond.code ({ cls := "MatrixScripts$Whole", name := "<init>", desc := "()V" } : Jvm.MethodName) prog_15_method_1_code (1 : Nat) (Option.none : Option Jvm.ClassFile.FieldType)) ∈ wd_all := wd_i 244 (by decide +kernel) (by decide +kernel)
theorem tw_245 : (Jvm.Cond.methodLink "MatrixScripts$Whole" (1 : Nat) ({ cls := "java/lang/Object", name := "<init>", desc := "()V" } : Jvm.MethodName)) ∈ wd_all := wd_i 245 (by decide +kernel) (by decide +kernel)
theorem tw_246 : (Jvm.Cond.fieldLink "MatrixScripts$Whole" (7 : Nat) "MatrixScripts$Whole" "limbs" "[I") ∈ wd_all := wd_i 246 (by decide +kernel) (by decide +kernel)
theorem tw_273 : (Jvm.Cond.fieldLink "MatrixScripts$Page" (7 : Nat) "MatrixScripts$Page" "words" "[I") ∈ wd_all := wd_i 273 (by decide +kernel) (by decide +kernel)
theorem tw_276 : (Jvm.Cond.fieldLink "MatrixScripts$Page" (16 : Nat) "MatrixScripts$Page" "upper" "LMatrixScripts$Whole;") ∈ wd_all := wd_i 276 (by decide +kernel) (by decide +kernel)
theorem tw_277 : (Jvm.Cond.fieldLink "MatrixScripts$Page" (20 : Nat) "MatrixScripts$Page" "lower" "LMatrixScripts$Whole;") ∈ wd_all := wd_i 277 (by decide +kernel) (by decide +kernel)
theorem tw_278 : (Jvm.Cond.fieldLink "MatrixScripts$Page" (23 : Nat) "MatrixScripts$Page" "chunks" "[I") ∈ wd_all := wd_i 278 (by decide +kernel) (by decide +kernel)
theorem tw_290 : (Jvm.Cond.classLink "MatrixScripts$Script" (25 : Nat) "MatrixScripts$Values") ∈ wd_all := wd_i 290 (by decide +kernel) (by decide +kernel)
theorem tw_291 : (Jvm.Cond.instantiable "MatrixScripts$Values" (6 : Nat)) ∈ wd_all := wd_i 291 (by decide +kernel) (by decide +kernel)
theorem tw_293 : (Jvm.Cond.instanceMethod ({ cls := "MatrixScripts$Values", name := "<init>", desc := "()V" } : Jvm.MethodName)) ∈ wd_all := wd_i 293 (by decide +kernel) (by decide +kernel)
theorem tw_294 : (Jvm.Cond.code ({ cls := "MatrixScripts$Values", name := "<init>", desc := "()V" } : Jvm.MethodName) prog_14_method_1_code (1 : Nat) (Option.none : Option Jvm.ClassFile.FieldType)) ∈ wd_all := wd_i 294 (by decide +kernel) (by decide +kernel)
theorem tw_295 : (Jvm.Cond.methodLink "MatrixScripts$Values" (1 : Nat) ({ cls := "java/lang/Object", name := "<init>", desc := "()V" } : Jvm.MethodName)) ∈ wd_all := wd_i 295 (by decide +kernel) (by decide +kernel)
theorem tw_307 : (Jvm.Cond.fieldLink "MatrixScripts$Values" (7 : Nat) "MatrixScripts$Values" "data" "[I") ∈ wd_all := wd_i 307 (by decide +kernel) (by decide +kernel)
theorem tw_308 : (Jvm.Cond.fieldLink "MatrixScripts$Values" (13 : Nat) "MatrixScripts$Values" "starts" "[I") ∈ wd_all := wd_i 308 (by decide +kernel) (by decide +kernel)
theorem tw_323 : (Jvm.Cond.classLink "MatrixScripts$Script" (36 : Nat) "MatrixScripts$Maker") ∈ wd_all := wd_i 323 (by decide +kernel) (by decide +kernel)
theorem tw_324 : (Jvm.Cond.instantiable "MatrixScripts$Maker" (12 : Nat)) ∈ wd_all := wd_i 324 (by decide +kernel) (by decide +kernel)
theorem tw_326 : (Jvm.Cond.instanceMethod ({ cls := "MatrixScripts$Maker", name := "<init>", desc := "()V" } : Jvm.MethodName)) ∈ wd_all := wd_i 326 (by decide +kernel) (by decide +kernel)
theorem tw_327 : (Jvm.Cond.code ({ cls := "MatrixScripts$Maker", name := "<init>", desc := "()V" } : Jvm.MethodName) prog_7_method_1_code (1 : Nat) (Option.none : Option Jvm.ClassFile.FieldType)) ∈ wd_all := wd_i 327 (by decide +kernel) (by decide +kernel)
theorem tw_328 : (Jvm.Cond.methodLink "MatrixScripts$Maker" (1 : Nat) ({ cls := "java/lang/Object", name := "<init>", desc := "()V" } : Jvm.MethodName)) ∈ wd_all := wd_i 328 (by decide +kernel) (by decide +kernel)
theorem tw_329 : (Jvm.Cond.classLink "MatrixScripts$Maker" (7 : Nat) "MatrixScripts$Values") ∈ wd_all := wd_i 329 (by decide +kernel) (by decide +kernel)
theorem tw_331 : (Jvm.Cond.classLink "MatrixScripts$Maker" (16 : Nat) "MatrixScripts$Lattices") ∈ wd_all := wd_i 331 (by decide +kernel) (by decide +kernel)
theorem tw_332 : (Jvm.Cond.instantiable "MatrixScripts$Lattices" (12 : Nat)) ∈ wd_all := wd_i 332 (by decide +kernel) (by decide +kernel)
theorem tw_334 : (Jvm.Cond.instanceMethod ({ cls := "MatrixScripts$Lattices", name := "<init>", desc := "()V" } : Jvm.MethodName)) ∈ wd_all := wd_i 334 (by decide +kernel) (by decide +kernel)
theorem tw_335 : (Jvm.Cond.code ({ cls := "MatrixScripts$Lattices", name := "<init>", desc := "()V" } : Jvm.MethodName) prog_6_method_1_code (1 : Nat) (Option.none : Option Jvm.ClassFile.FieldType)) ∈ wd_all := wd_i 335 (by decide +kernel) (by decide +kernel)
theorem tw_336 : (Jvm.Cond.methodLink "MatrixScripts$Lattices" (1 : Nat) ({ cls := "java/lang/Object", name := "<init>", desc := "()V" } : Jvm.MethodName)) ∈ wd_all := wd_i 336 (by decide +kernel) (by decide +kernel)
theorem tw_337 : (Jvm.Cond.classLink "MatrixScripts$Lattices" (7 : Nat) "MatrixScripts$Elimination") ∈ wd_all := wd_i 337 (by decide +kernel) (by decide +kernel)
theorem tw_338 : (Jvm.Cond.instantiable "MatrixScripts$Elimination" (15 : Nat)) ∈ wd_all := wd_i 338 (by decide +kernel) (by decide +kernel)
theorem tw_340 : (Jvm.Cond.instanceMethod ({ cls := "MatrixScripts$Elimination", name := "<init>", desc := "()V" } : Jvm.MethodName)) ∈ wd_all := wd_i 340 (by decide +kernel) (by decide +kernel)
theorem tw_341 : (Jvm.Cond.code ({ cls := "MatrixScripts$Elimination", name := "<init>", desc := "()V" } : Jvm.MethodName) prog_5_method_1_code (1 : Nat) (Option.none : Option Jvm.ClassFile.FieldType)) ∈ wd_all := wd_i 341 (by decide +kernel) (by decide +kernel)
theorem tw_342 : (Jvm.Cond.methodLink "MatrixScripts$Elimination" (1 : Nat) ({ cls := "java/lang/Object", name := "<init>", desc := "()V" } : Jvm.MethodName)) ∈ wd_all := wd_i 342 (by decide +kernel) (by decide +kernel)
theorem tw_343 : (Jvm.Cond.classLink "MatrixScripts$Elimination" (15 : Nat) "MatrixScripts$Whole") ∈ wd_all := wd_i 343 (by decide +kernel) (by decide +kernel)
theorem tw_345 : (Jvm.Cond.classLink "MatrixScripts$Elimination" (7 : Nat) "MatrixScripts$Matrix") ∈ wd_all := wd_i 345 (by decide +kernel) (by decide +kernel)
theorem tw_346 : (Jvm.Cond.instantiable "MatrixScripts$Matrix" (6 : Nat)) ∈ wd_all := wd_i 346 (by decide +kernel) (by decide +kernel)
theorem tw_348 : (Jvm.Cond.instanceMethod ({ cls := "MatrixScripts$Matrix", name := "<init>", desc := "()V" } : Jvm.MethodName)) ∈ wd_all := wd_i 348 (by decide +kernel) (by decide +kernel)
theorem tw_349 : (Jvm.Cond.code ({ cls := "MatrixScripts$Matrix", name := "<init>", desc := "()V" } : Jvm.MethodName) prog_8_method_1_code (1 : Nat) (Option.none : Option Jvm.ClassFile.FieldType)) ∈ wd_all := wd_i 349 (by decide +kernel) (by decide +kernel)
theorem tw_350 : (Jvm.Cond.methodLink "MatrixScripts$Matrix" (1 : Nat) ({ cls := "java/lang/Object", name := "<init>", desc := "()V" } : Jvm.MethodName)) ∈ wd_all := wd_i 350 (by decide +kernel) (by decide +kernel)
theorem tw_351 : (Jvm.Cond.classLink "MatrixScripts$Matrix" (7 : Nat) "MatrixScripts$Whole") ∈ wd_all := wd_i 351 (by decide +kernel) (by decide +kernel)
theorem tw_372 : (Jvm.Cond.fieldLink "MatrixScripts$Matrix" (10 : Nat) "MatrixScripts$Matrix" "common" "LMatrixScripts$Whole;") ∈ wd_all := wd_i 372 (by decide +kernel) (by decide +kernel)
theorem tw_379 : (Jvm.Cond.fieldLink "MatrixScripts$Matrix" (16 : Nat) "MatrixScripts$Matrix" "cells" "[LMatrixScripts$Whole;") ∈ wd_all := wd_i 379 (by decide +kernel) (by decide +kernel)
theorem tw_394 : (Jvm.Cond.classLink "MatrixScripts$Elimination" (27 : Nat) "MatrixScripts$Calc") ∈ wd_all := wd_i 394 (by decide +kernel) (by decide +kernel)
theorem tw_395 : (Jvm.Cond.instantiable "MatrixScripts$Calc" (14 : Nat)) ∈ wd_all := wd_i 395 (by decide +kernel) (by decide +kernel)
theorem tw_397 : (Jvm.Cond.instanceMethod ({ cls := "MatrixScripts$Calc", name := "<init>", desc := "()V" } : Jvm.MethodName)) ∈ wd_all := wd_i 397 (by decide +kernel) (by decide +kernel)
theorem tw_398 : (Jvm.Cond.code ({ cls := "MatrixScripts$Calc", name := "<init>", desc := "()V" } : Jvm.MethodName) prog_3_method_1_code (1 : Nat) (Option.none : Option Jvm.ClassFile.FieldType)) ∈ wd_all := wd_i 398 (by decide +kernel) (by decide +kernel)
theorem tw_399 : (Jvm.Cond.methodLink "MatrixScripts$Calc" (1 : Nat) ({ cls := "java/lang/Object", name := "<init>", desc := "()V" } : Jvm.MethodName)) ∈ wd_all := wd_i 399 (by decide +kernel) (by decide +kernel)
theorem tw_400 : (Jvm.Cond.classLink "MatrixScripts$Calc" (7 : Nat) "MatrixScripts$Whole") ∈ wd_all := wd_i 400 (by decide +kernel) (by decide +kernel)
theorem tw_402 : (Jvm.Cond.fieldLink "MatrixScripts$Calc" (10 : Nat) "MatrixScripts$Calc" "rest" "LMatrixScripts$Whole;") ∈ wd_all := wd_i 402 (by decide +kernel) (by decide +kernel)
theorem tw_404 : (Jvm.Cond.fieldLink "MatrixScripts$Calc" (16 : Nat) "MatrixScripts$Calc" "cofactor" "LMatrixScripts$Whole;") ∈ wd_all := wd_i 404 (by decide +kernel) (by decide +kernel)
theorem tw_406 : (Jvm.Cond.fieldLink "MatrixScripts$Calc" (19 : Nat) "MatrixScripts$Calc" "otherCofactor" "LMatrixScripts$Whole;") ∈ wd_all := wd_i 406 (by decide +kernel) (by decide +kernel)
theorem tw_407 : (Jvm.Cond.fieldLink "MatrixScripts$Calc" (22 : Nat) "MatrixScripts$Calc" "x" "LMatrixScripts$Whole;") ∈ wd_all := wd_i 407 (by decide +kernel) (by decide +kernel)
theorem tw_408 : (Jvm.Cond.fieldLink "MatrixScripts$Calc" (25 : Nat) "MatrixScripts$Calc" "y" "LMatrixScripts$Whole;") ∈ wd_all := wd_i 408 (by decide +kernel) (by decide +kernel)
theorem tw_409 : (Jvm.Cond.fieldLink "MatrixScripts$Calc" (28 : Nat) "MatrixScripts$Calc" "spareX" "LMatrixScripts$Whole;") ∈ wd_all := wd_i 409 (by decide +kernel) (by decide +kernel)
theorem tw_410 : (Jvm.Cond.fieldLink "MatrixScripts$Calc" (31 : Nat) "MatrixScripts$Calc" "spareY" "LMatrixScripts$Whole;") ∈ wd_all := wd_i 410 (by decide +kernel) (by decide +kernel)
theorem tw_411 : (Jvm.Cond.fieldLink "MatrixScripts$Calc" (34 : Nat) "MatrixScripts$Calc" "quotient" "LMatrixScripts$Whole;") ∈ wd_all := wd_i 411 (by decide +kernel) (by decide +kernel)
theorem tw_412 : (Jvm.Cond.fieldLink "MatrixScripts$Calc" (37 : Nat) "MatrixScripts$Calc" "u" "LMatrixScripts$Whole;") ∈ wd_all := wd_i 412 (by decide +kernel) (by decide +kernel)
theorem tw_413 : (Jvm.Cond.fieldLink "MatrixScripts$Calc" (40 : Nat) "MatrixScripts$Calc" "v" "LMatrixScripts$Whole;") ∈ wd_all := wd_i 413 (by decide +kernel) (by decide +kernel)
theorem tw_447 : (Jvm.Cond.fieldLink "MatrixScripts$Elimination" (9 : Nat) "MatrixScripts$Elimination" "pivots" "[I") ∈ wd_all := wd_i 447 (by decide +kernel) (by decide +kernel)
theorem tw_451 : (Jvm.Cond.fieldLink "MatrixScripts$Elimination" (18 : Nat) "MatrixScripts$Elimination" "pivot" "LMatrixScripts$Whole;") ∈ wd_all := wd_i 451 (by decide +kernel) (by decide +kernel)
theorem tw_453 : (Jvm.Cond.fieldLink "MatrixScripts$Elimination" (23 : Nat) "MatrixScripts$Elimination" "work" "LMatrixScripts$Matrix;") ∈ wd_all := wd_i 453 (by decide +kernel) (by decide +kernel)
theorem tw_454 : (Jvm.Cond.fieldLink "MatrixScripts$Lattices" (21 : Nat) "MatrixScripts$Elimination" "work" "LMatrixScripts$Matrix;") ∈ wd_all := wd_i 454 (by decide +kernel) (by decide +kernel)
theorem tw_455 : (Jvm.Cond.fieldLink "MatrixScripts$Lattices" (16 : Nat) "MatrixScripts$Elimination" "calc" "LMatrixScripts$Calc;") ∈ wd_all := wd_i 455 (by decide +kernel) (by decide +kernel)
theorem tw_456 : (Jvm.Cond.fieldLink "MatrixScripts$Elimination" (30 : Nat) "MatrixScripts$Elimination" "calc" "LMatrixScripts$Calc;") ∈ wd_all := wd_i 456 (by decide +kernel) (by decide +kernel)
theorem tw_457 : (Jvm.Cond.fieldLink "MatrixScripts$Maker" (35 : Nat) "MatrixScripts$Elimination" "calc" "LMatrixScripts$Calc;") ∈ wd_all := wd_i 457 (by decide +kernel) (by decide +kernel)
theorem tw_458 : (Jvm.Cond.fieldLink "MatrixScripts$Elimination" (34 : Nat) "MatrixScripts$Elimination" "scales" "LMatrixScripts$Matrix;") ∈ wd_all := wd_i 458 (by decide +kernel) (by decide +kernel)
theorem tw_459 : (Jvm.Cond.fieldLink "MatrixScripts$Elimination" (37 : Nat) "MatrixScripts$Elimination" "divisor" "LMatrixScripts$Whole;") ∈ wd_all := wd_i 459 (by decide +kernel) (by decide +kernel)
theorem tw_460 : (Jvm.Cond.fieldLink "MatrixScripts$Elimination" (40 : Nat) "MatrixScripts$Elimination" "otherDivisor" "LMatrixScripts$Whole;") ∈ wd_all := wd_i 460 (by decide +kernel) (by decide +kernel)
theorem tw_461 : (Jvm.Cond.fieldLink "MatrixScripts$Elimination" (43 : Nat) "MatrixScripts$Elimination" "factor" "LMatrixScripts$Whole;") ∈ wd_all := wd_i 461 (by decide +kernel) (by decide +kernel)
theorem tw_462 : (Jvm.Cond.fieldLink "MatrixScripts$Elimination" (46 : Nat) "MatrixScripts$Elimination" "otherFactor" "LMatrixScripts$Whole;") ∈ wd_all := wd_i 462 (by decide +kernel) (by decide +kernel)
theorem tw_463 : (Jvm.Cond.fieldLink "MatrixScripts$Elimination" (49 : Nat) "MatrixScripts$Elimination" "t" "LMatrixScripts$Whole;") ∈ wd_all := wd_i 463 (by decide +kernel) (by decide +kernel)
theorem tw_464 : (Jvm.Cond.fieldLink "MatrixScripts$Elimination" (52 : Nat) "MatrixScripts$Elimination" "t2" "LMatrixScripts$Whole;") ∈ wd_all := wd_i 464 (by decide +kernel) (by decide +kernel)
theorem tw_466 : (Jvm.Cond.fieldLink "MatrixScripts$Elimination" (55 : Nat) "MatrixScripts$Elimination" "table" "[I") ∈ wd_all := wd_i 466 (by decide +kernel) (by decide +kernel)
theorem tw_499 : (Jvm.Cond.classLink "MatrixScripts$Lattices" (26 : Nat) "MatrixScripts$Whole") ∈ wd_all := wd_i 499 (by decide +kernel) (by decide +kernel)
theorem tw_501 : (Jvm.Cond.fieldLink "MatrixScripts$Lattices" (10 : Nat) "MatrixScripts$Lattices" "elimination" "LMatrixScripts$Elimination;") ∈ wd_all := wd_i 501 (by decide +kernel) (by decide +kernel)
theorem tw_502 : (Jvm.Cond.fieldLink "MatrixScripts$Maker" (23 : Nat) "MatrixScripts$Lattices" "elimination" "LMatrixScripts$Elimination;") ∈ wd_all := wd_i 502 (by decide +kernel) (by decide +kernel)
theorem tw_503 : (Jvm.Cond.fieldLink "MatrixScripts$Lattices" (20 : Nat) "MatrixScripts$Lattices" "calc" "LMatrixScripts$Calc;") ∈ wd_all := wd_i 503 (by decide +kernel) (by decide +kernel)
theorem tw_504 : (Jvm.Cond.fieldLink "MatrixScripts$Lattices" (25 : Nat) "MatrixScripts$Lattices" "work" "LMatrixScripts$Matrix;") ∈ wd_all := wd_i 504 (by decide +kernel) (by decide +kernel)
theorem tw_505 : (Jvm.Cond.fieldLink "MatrixScripts$Lattices" (29 : Nat) "MatrixScripts$Lattices" "modulus" "LMatrixScripts$Whole;") ∈ wd_all := wd_i 505 (by decide +kernel) (by decide +kernel)
theorem tw_506 : (Jvm.Cond.fieldLink "MatrixScripts$Lattices" (33 : Nat) "MatrixScripts$Lattices" "fa" "LMatrixScripts$Whole;") ∈ wd_all := wd_i 506 (by decide +kernel) (by decide +kernel)
theorem tw_507 : (Jvm.Cond.fieldLink "MatrixScripts$Lattices" (36 : Nat) "MatrixScripts$Lattices" "fb" "LMatrixScripts$Whole;") ∈ wd_all := wd_i 507 (by decide +kernel) (by decide +kernel)
theorem tw_508 : (Jvm.Cond.fieldLink "MatrixScripts$Lattices" (39 : Nat) "MatrixScripts$Lattices" "fc" "LMatrixScripts$Whole;") ∈ wd_all := wd_i 508 (by decide +kernel) (by decide +kernel)
theorem tw_509 : (Jvm.Cond.fieldLink "MatrixScripts$Lattices" (42 : Nat) "MatrixScripts$Lattices" "fd" "LMatrixScripts$Whole;") ∈ wd_all := wd_i 509 (by decide +kernel) (by decide +kernel)
theorem tw_510 : (Jvm.Cond.fieldLink "MatrixScripts$Lattices" (45 : Nat) "MatrixScripts$Lattices" "t" "LMatrixScripts$Whole;") ∈ wd_all := wd_i 510 (by decide +kernel) (by decide +kernel)
theorem tw_511 : (Jvm.Cond.fieldLink "MatrixScripts$Lattices" (48 : Nat) "MatrixScripts$Lattices" "t2" "LMatrixScripts$Whole;") ∈ wd_all := wd_i 511 (by decide +kernel) (by decide +kernel)
theorem tw_512 : (Jvm.Cond.fieldLink "MatrixScripts$Lattices" (51 : Nat) "MatrixScripts$Lattices" "t3" "LMatrixScripts$Whole;") ∈ wd_all := wd_i 512 (by decide +kernel) (by decide +kernel)
theorem tw_540 : (Jvm.Cond.classLink "MatrixScripts$Maker" (28 : Nat) "MatrixScripts$Polynomials") ∈ wd_all := wd_i 540 (by decide +kernel) (by decide +kernel)
theorem tw_541 : (Jvm.Cond.instantiable "MatrixScripts$Polynomials" (8 : Nat)) ∈ wd_all := wd_i 541 (by decide +kernel) (by decide +kernel)
theorem tw_543 : (Jvm.Cond.instanceMethod ({ cls := "MatrixScripts$Polynomials", name := "<init>", desc := "()V" } : Jvm.MethodName)) ∈ wd_all := wd_i 543 (by decide +kernel) (by decide +kernel)
theorem tw_544 : (Jvm.Cond.code ({ cls := "MatrixScripts$Polynomials", name := "<init>", desc := "()V" } : Jvm.MethodName) prog_11_method_1_code (1 : Nat) (Option.none : Option Jvm.ClassFile.FieldType)) ∈ wd_all := wd_i 544 (by decide +kernel) (by decide +kernel)
theorem tw_545 : (Jvm.Cond.methodLink "MatrixScripts$Polynomials" (1 : Nat) ({ cls := "java/lang/Object", name := "<init>", desc := "()V" } : Jvm.MethodName)) ∈ wd_all := wd_i 545 (by decide +kernel) (by decide +kernel)
theorem tw_546 : (Jvm.Cond.classLink "MatrixScripts$Polynomials" (7 : Nat) "MatrixScripts$Modular") ∈ wd_all := wd_i 546 (by decide +kernel) (by decide +kernel)
theorem tw_547 : (Jvm.Cond.instantiable "MatrixScripts$Modular" (17 : Nat)) ∈ wd_all := wd_i 547 (by decide +kernel) (by decide +kernel)
theorem tw_549 : (Jvm.Cond.instanceMethod ({ cls := "MatrixScripts$Modular", name := "<init>", desc := "()V" } : Jvm.MethodName)) ∈ wd_all := wd_i 549 (by decide +kernel) (by decide +kernel)
theorem tw_550 : (Jvm.Cond.code ({ cls := "MatrixScripts$Modular", name := "<init>", desc := "()V" } : Jvm.MethodName) prog_9_method_1_code (1 : Nat) (Option.none : Option Jvm.ClassFile.FieldType)) ∈ wd_all := wd_i 550 (by decide +kernel) (by decide +kernel)
theorem tw_551 : (Jvm.Cond.methodLink "MatrixScripts$Modular" (1 : Nat) ({ cls := "java/lang/Object", name := "<init>", desc := "()V" } : Jvm.MethodName)) ∈ wd_all := wd_i 551 (by decide +kernel) (by decide +kernel)
theorem tw_552 : (Jvm.Cond.fieldLink "MatrixScripts$Modular" (9 : Nat) "MatrixScripts$Modular" "degrees" "[I") ∈ wd_all := wd_i 552 (by decide +kernel) (by decide +kernel)
theorem tw_554 : (Jvm.Cond.fieldLink "MatrixScripts$Modular" (13 : Nat) "MatrixScripts$Modular" "found" "[I") ∈ wd_all := wd_i 554 (by decide +kernel) (by decide +kernel)
theorem tw_558 : (Jvm.Cond.fieldLink "MatrixScripts$Modular" (16 : Nat) "MatrixScripts$Modular" "cells" "[I") ∈ wd_all := wd_i 558 (by decide +kernel) (by decide +kernel)
theorem tw_559 : (Jvm.Cond.fieldLink "MatrixScripts$Modular" (19 : Nat) "MatrixScripts$Modular" "basis" "[I") ∈ wd_all := wd_i 559 (by decide +kernel) (by decide +kernel)
theorem tw_560 : (Jvm.Cond.fieldLink "MatrixScripts$Modular" (22 : Nat) "MatrixScripts$Modular" "heads" "[I") ∈ wd_all := wd_i 560 (by decide +kernel) (by decide +kernel)
theorem tw_561 : (Jvm.Cond.fieldLink "MatrixScripts$Modular" (25 : Nat) "MatrixScripts$Modular" "ways" "[I") ∈ wd_all := wd_i 561 (by decide +kernel) (by decide +kernel)
theorem tw_565 : (Jvm.Cond.fieldLink "MatrixScripts$Modular" (28 : Nat) "MatrixScripts$Modular" "way" "[I") ∈ wd_all := wd_i 565 (by decide +kernel) (by decide +kernel)
theorem tw_566 : (Jvm.Cond.fieldLink "MatrixScripts$Modular" (31 : Nat) "MatrixScripts$Modular" "order" "[I") ∈ wd_all := wd_i 566 (by decide +kernel) (by decide +kernel)
theorem tw_567 : (Jvm.Cond.fieldLink "MatrixScripts$Modular" (34 : Nat) "MatrixScripts$Modular" "vector" "[I") ∈ wd_all := wd_i 567 (by decide +kernel) (by decide +kernel)
theorem tw_568 : (Jvm.Cond.fieldLink "MatrixScripts$Modular" (37 : Nat) "MatrixScripts$Modular" "image" "[I") ∈ wd_all := wd_i 568 (by decide +kernel) (by decide +kernel)
theorem tw_569 : (Jvm.Cond.fieldLink "MatrixScripts$Modular" (40 : Nat) "MatrixScripts$Modular" "best" "[I") ∈ wd_all := wd_i 569 (by decide +kernel) (by decide +kernel)
theorem tw_570 : (Jvm.Cond.fieldLink "MatrixScripts$Modular" (43 : Nat) "MatrixScripts$Modular" "trial" "[I") ∈ wd_all := wd_i 570 (by decide +kernel) (by decide +kernel)
theorem tw_606 : (Jvm.Cond.classLink "MatrixScripts$Polynomials" (16 : Nat) "MatrixScripts$Matrix") ∈ wd_all := wd_i 606 (by decide +kernel) (by decide +kernel)
theorem tw_608 : (Jvm.Cond.classLink "MatrixScripts$Polynomials" (26 : Nat) "MatrixScripts$Whole") ∈ wd_all := wd_i 608 (by decide +kernel) (by decide +kernel)
theorem tw_610 : (Jvm.Cond.fieldLink "MatrixScripts$Polynomials" (10 : Nat) "MatrixScripts$Polynomials" "modular" "LMatrixScripts$Modular;") ∈ wd_all := wd_i 610 (by decide +kernel) (by decide +kernel)
theorem tw_611 : (Jvm.Cond.fieldLink "MatrixScripts$Polynomials" (19 : Nat) "MatrixScripts$Polynomials" "lifted" "LMatrixScripts$Matrix;") ∈ wd_all := wd_i 611 (by decide +kernel) (by decide +kernel)
theorem tw_612 : (Jvm.Cond.fieldLink "MatrixScripts$Polynomials" (23 : Nat) "MatrixScripts$Polynomials" "factors" "LMatrixScripts$Matrix;") ∈ wd_all := wd_i 612 (by decide +kernel) (by decide +kernel)
theorem tw_613 : (Jvm.Cond.fieldLink "MatrixScripts$Polynomials" (29 : Nat) "MatrixScripts$Polynomials" "modulus" "LMatrixScripts$Whole;") ∈ wd_all := wd_i 613 (by decide +kernel) (by decide +kernel)
theorem tw_614 : (Jvm.Cond.fieldLink "MatrixScripts$Polynomials" (33 : Nat) "MatrixScripts$Polynomials" "degrees" "[I") ∈ wd_all := wd_i 614 (by decide +kernel) (by decide +kernel)
theorem tw_615 : (Jvm.Cond.fieldLink "MatrixScripts$Polynomials" (37 : Nat) "MatrixScripts$Polynomials" "powers" "LMatrixScripts$Matrix;") ∈ wd_all := wd_i 615 (by decide +kernel) (by decide +kernel)
theorem tw_616 : (Jvm.Cond.fieldLink "MatrixScripts$Polynomials" (40 : Nat) "MatrixScripts$Polynomials" "t" "LMatrixScripts$Whole;") ∈ wd_all := wd_i 616 (by decide +kernel) (by decide +kernel)
theorem tw_617 : (Jvm.Cond.fieldLink "MatrixScripts$Polynomials" (43 : Nat) "MatrixScripts$Polynomials" "t2" "LMatrixScripts$Whole;") ∈ wd_all := wd_i 617 (by decide +kernel) (by decide +kernel)
theorem tw_635 : (Jvm.Cond.classLink "MatrixScripts$Maker" (42 : Nat) "MatrixScripts$Matrix") ∈ wd_all := wd_i 635 (by decide +kernel) (by decide +kernel)
theorem tw_637 : (Jvm.Cond.classLink "MatrixScripts$Maker" (55 : Nat) "MatrixScripts$Whole") ∈ wd_all := wd_i 637 (by decide +kernel) (by decide +kernel)
theorem tw_641 : (Jvm.Cond.fieldLink "MatrixScripts$Maker" (10 : Nat) "MatrixScripts$Maker" "hand" "LMatrixScripts$Values;") ∈ wd_all := wd_i 641 (by decide +kernel) (by decide +kernel)
theorem tw_642 : (Jvm.Cond.fieldLink "MatrixScripts$Script" (43 : Nat) "MatrixScripts$Maker" "hand" "LMatrixScripts$Values;") ∈ wd_all := wd_i 642 (by decide +kernel) (by decide +kernel)
theorem tw_643 : (Jvm.Cond.fieldLink "MatrixScripts$Maker" (19 : Nat) "MatrixScripts$Maker" "lattices" "LMatrixScripts$Lattices;") ∈ wd_all := wd_i 643 (by decide +kernel) (by decide +kernel)
theorem tw_644 : (Jvm.Cond.fieldLink "MatrixScripts$Maker" (27 : Nat) "MatrixScripts$Maker" "elimination" "LMatrixScripts$Elimination;") ∈ wd_all := wd_i 644 (by decide +kernel) (by decide +kernel)
theorem tw_645 : (Jvm.Cond.fieldLink "MatrixScripts$Maker" (31 : Nat) "MatrixScripts$Maker" "polynomials" "LMatrixScripts$Polynomials;") ∈ wd_all := wd_i 645 (by decide +kernel) (by decide +kernel)
theorem tw_646 : (Jvm.Cond.fieldLink "MatrixScripts$Maker" (41 : Nat) "MatrixScripts$Maker" "calc" "LMatrixScripts$Calc;") ∈ wd_all := wd_i 646 (by decide +kernel) (by decide +kernel)
theorem tw_647 : (Jvm.Cond.fieldLink "MatrixScripts$Maker" (45 : Nat) "MatrixScripts$Maker" "a" "LMatrixScripts$Matrix;") ∈ wd_all := wd_i 647 (by decide +kernel) (by decide +kernel)
theorem tw_648 : (Jvm.Cond.fieldLink "MatrixScripts$Maker" (49 : Nat) "MatrixScripts$Maker" "b" "LMatrixScripts$Matrix;") ∈ wd_all := wd_i 648 (by decide +kernel) (by decide +kernel)
theorem tw_649 : (Jvm.Cond.fieldLink "MatrixScripts$Maker" (52 : Nat) "MatrixScripts$Maker" "\x72" "LMatrixScripts$Matrix;") ∈ wd_all := wd_i 649 (by decide +kernel) (by decide +kernel)
theorem tw_650 : (Jvm.Cond.fieldLink "MatrixScripts$Maker" (58 : Nat) "MatrixScripts$Maker" "first" "LMatrixScripts$Whole;") ∈ wd_all := wd_i 650 (by decide +kernel) (by decide +kernel)
theorem tw_651 : (Jvm.Cond.fieldLink "MatrixScripts$Maker" (62 : Nat) "MatrixScripts$Maker" "second" "LMatrixScripts$Whole;") ∈ wd_all := wd_i 651 (by decide +kernel) (by decide +kernel)
theorem tw_652 : (Jvm.Cond.fieldLink "MatrixScripts$Maker" (65 : Nat) "MatrixScripts$Maker" "product" "LMatrixScripts$Whole;") ∈ wd_all := wd_i 652 (by decide +kernel) (by decide +kernel)
theorem tw_678 : (Jvm.Cond.fieldLink "MatrixScripts$Script" (12 : Nat) "MatrixScripts$Script" "tape" "LMatrixScripts$Tape;") ∈ wd_all := wd_i 678 (by decide +kernel) (by decide +kernel)
theorem tw_679 : (Jvm.Cond.fieldLink "MatrixScripts" (16 : Nat) "MatrixScripts$Script" "tape" "LMatrixScripts$Tape;") ∈ wd_all := wd_i 679 (by decide +kernel) (by decide +kernel)
theorem tw_680 : (Jvm.Cond.fieldLink "MatrixScripts$Script" (21 : Nat) "MatrixScripts$Script" "page" "LMatrixScripts$Page;") ∈ wd_all := wd_i 680 (by decide +kernel) (by decide +kernel)
theorem tw_681 : (Jvm.Cond.fieldLink "MatrixScripts" (21 : Nat) "MatrixScripts$Script" "page" "LMatrixScripts$Page;") ∈ wd_all := wd_i 681 (by decide +kernel) (by decide +kernel)
theorem tw_682 : (Jvm.Cond.fieldLink "MatrixScripts$Script" (28 : Nat) "MatrixScripts$Script" "kept" "LMatrixScripts$Values;") ∈ wd_all := wd_i 682 (by decide +kernel) (by decide +kernel)
theorem tw_692 : (Jvm.Cond.fieldLink "MatrixScripts$Script" (32 : Nat) "MatrixScripts$Script" "faultPlace" "I") ∈ wd_all := wd_i 692 (by decide +kernel) (by decide +kernel)
theorem tw_694 : (Jvm.Cond.fieldLink "MatrixScripts$Script" (39 : Nat) "MatrixScripts$Script" "maker" "LMatrixScripts$Maker;") ∈ wd_all := wd_i 694 (by decide +kernel) (by decide +kernel)
theorem tw_695 : (Jvm.Cond.fieldLink "MatrixScripts$Script" (46 : Nat) "MatrixScripts$Script" "hand" "LMatrixScripts$Values;") ∈ wd_all := wd_i 695 (by decide +kernel) (by decide +kernel)
theorem tw_696 : (Jvm.Cond.fieldLink "MatrixScripts$Script" (47 : Nat) "MatrixScripts$Script" "key" "[I") ∈ wd_all := wd_i 696 (by decide +kernel) (by decide +kernel)
theorem tw_697 : (Jvm.Cond.fieldLink "MatrixScripts$Script" (51 : Nat) "MatrixScripts$Script" "keys" "[I") ∈ wd_all := wd_i 697 (by decide +kernel) (by decide +kernel)
theorem tw_698 : (Jvm.Cond.fieldLink "MatrixScripts$Script" (54 : Nat) "MatrixScripts$Script" "numbers" "[J") ∈ wd_all := wd_i 698 (by decide +kernel) (by decide +kernel)
theorem tw_701 : (Jvm.Cond.fieldLink "MatrixScripts$Script" (58 : Nat) "MatrixScripts$Script" "code" "[I") ∈ wd_all := wd_i 701 (by decide +kernel) (by decide +kernel)
theorem tw_738 : (Jvm.Cond.arrayClass Jvm.ClassFile.FieldType.long) ∈ wd_all := wd_i 738 (by decide +kernel) (by decide +kernel)
theorem tw_739 : (Jvm.Cond.fieldLink "MatrixScripts" (10 : Nat) "MatrixScripts" "script" "LMatrixScripts$Script;") ∈ wd_all := wd_i 739 (by decide +kernel) (by decide +kernel)
theorem tw_740 : (Jvm.Cond.fieldLink "MatrixScripts" (20 : Nat) "MatrixScripts" "tape" "LMatrixScripts$Tape;") ∈ wd_all := wd_i 740 (by decide +kernel) (by decide +kernel)
theorem tw_741 : (Jvm.Cond.fieldLink "MatrixScripts" (25 : Nat) "MatrixScripts" "page" "LMatrixScripts$Page;") ∈ wd_all := wd_i 741 (by decide +kernel) (by decide +kernel)
theorem tw_975 : (Jvm.Cond.arrayClass Jvm.ClassFile.FieldType.byte) ∈ wd_all := wd_i 975 (by decide +kernel) (by decide +kernel)
theorem tw_2107 : (Jvm.Cond.code ({ cls := "MatrixScriptsModel", name := "<init>", desc := "()V" } : Jvm.MethodName) prog_17_method_1_code (1 : Nat) (Option.none : Option Jvm.ClassFile.FieldType)) ∈ wd_all := wd_i 2107 (by decide +kernel) (by decide +kernel)
theorem tw_2108 : (Jvm.Cond.methodLink "MatrixScriptsModel" (1 : Nat) ({ cls := "java/lang/Object", name := "<init>", desc := "()V" } : Jvm.MethodName)) ∈ wd_all := wd_i 2108 (by decide +kernel) (by decide +kernel)
theorem tw_2109 : (Jvm.Cond.constant "MatrixScriptsModel" (9 : Nat) (65536 : Int32)) ∈ wd_all := wd_i 2109 (by decide +kernel) (by decide +kernel)
theorem tw_2110 : (Jvm.Cond.classLink "MatrixScriptsModel" (14 : Nat) "MatrixScriptsModel$Fractions") ∈ wd_all := wd_i 2110 (by decide +kernel) (by decide +kernel)
theorem tw_2111 : (Jvm.Cond.instantiable "MatrixScriptsModel$Fractions" (7 : Nat)) ∈ wd_all := wd_i 2111 (by decide +kernel) (by decide +kernel)
theorem tw_2112 : (Jvm.Cond.methodLink "MatrixScriptsModel" (16 : Nat) ({ cls := "MatrixScriptsModel$Fractions", name := "<init>", desc := "()V" } : Jvm.MethodName)) ∈ wd_all := wd_i 2112 (by decide +kernel) (by decide +kernel)
theorem tw_2113 : (Jvm.Cond.instanceMethod ({ cls := "MatrixScriptsModel$Fractions", name := "<init>", desc := "()V" } : Jvm.MethodName)) ∈ wd_all := wd_i 2113 (by decide +kernel) (by decide +kernel)
theorem tw_2114 : (Jvm.Cond.code ({ cls := "MatrixScriptsModel$Fractions", name := "<init>", desc := "()V" } : Jvm.MethodName) prog_19_method_1_code (1 : Nat) (Option.none : Option Jvm.ClassFile.FieldType)) ∈ wd_all := wd_i 2114 (by decide +kernel) (by decide +kernel)
theorem tw_2115 : (Jvm.Cond.methodLink "MatrixScriptsModel$Fractions" (1 : Nat) ({ cls := "java/lang/Object", name := "<init>", desc := "()V" } : Jvm.MethodName)) ∈ wd_all := wd_i 2115 (by decide +kernel) (by decide +kernel)
theorem tw_2116 : (Jvm.Cond.classLink "MatrixScriptsModel$Fractions" (7 : Nat) "MatrixScriptsModel$Wholes") ∈ wd_all := wd_i 2116 (by decide +kernel) (by decide +kernel)
theorem tw_2117 : (Jvm.Cond.instantiable "MatrixScriptsModel$Wholes" (3 : Nat)) ∈ wd_all := wd_i 2117 (by decide +kernel) (by decide +kernel)
theorem tw_2119 : (Jvm.Cond.instanceMethod ({ cls := "MatrixScriptsModel$Wholes", name := "<init>", desc := "()V" } : Jvm.MethodName)) ∈ wd_all := wd_i 2119 (by decide +kernel) (by decide +kernel)
theorem tw_2120 : (Jvm.Cond.code ({ cls := "MatrixScriptsModel$Wholes", name := "<init>", desc := "()V" } : Jvm.MethodName) prog_20_method_1_code (1 : Nat) (Option.none : Option Jvm.ClassFile.FieldType)) ∈ wd_all := wd_i 2120 (by decide +kernel) (by decide +kernel)
theorem tw_2121 : (Jvm.Cond.methodLink "MatrixScriptsModel$Wholes" (1 : Nat) ({ cls := "java/lang/Object", name := "<init>", desc := "()V" } : Jvm.MethodName)) ∈ wd_all := wd_i 2121 (by decide +kernel) (by decide +kernel)
theorem tw_2122 : (Jvm.Cond.fieldLink "MatrixScriptsModel$Wholes" (7 : Nat) "MatrixScriptsModel$Wholes" "d" "[I") ∈ wd_all := wd_i 2122 (by decide +kernel) (by decide +kernel)
theorem tw_2125 : (Jvm.Cond.fieldLink "MatrixScriptsModel$Wholes" (13 : Nat) "MatrixScriptsModel$Wholes" "top" "I") ∈ wd_all := wd_i 2125 (by decide +kernel) (by decide +kernel)
theorem tw_2140 : (Jvm.Cond.fieldLink "MatrixScriptsModel$Fractions" (10 : Nat) "MatrixScriptsModel$Fractions" "w" "LMatrixScriptsModel$Wholes;") ∈ wd_all := wd_i 2140 (by decide +kernel) (by decide +kernel)
theorem tw_2143 : (Jvm.Cond.fieldLink "MatrixScriptsModel$Fractions" (16 : Nat) "MatrixScriptsModel$Fractions" "v" "[I") ∈ wd_all := wd_i 2143 (by decide +kernel) (by decide +kernel)
theorem tw_2154 : (Jvm.Cond.fieldLink "MatrixScriptsModel$Fractions" (20 : Nat) "MatrixScriptsModel$Fractions" "pivots" "[I") ∈ wd_all := wd_i 2154 (by decide +kernel) (by decide +kernel)
theorem tw_2173 : (Jvm.Cond.classLink "MatrixScriptsModel" (21 : Nat) "MatrixScriptsModel$Forms") ∈ wd_all := wd_i 2173 (by decide +kernel) (by decide +kernel)
theorem tw_2174 : (Jvm.Cond.instantiable "MatrixScriptsModel$Forms" (11 : Nat)) ∈ wd_all := wd_i 2174 (by decide +kernel) (by decide +kernel)
theorem tw_2175 : (Jvm.Cond.methodLink "MatrixScriptsModel" (23 : Nat) ({ cls := "MatrixScriptsModel$Forms", name := "<init>", desc := "(LMatrixScriptsModel$Fractions;)V" } : Jvm.MethodName)) ∈ wd_all := wd_i 2175 (by decide +kernel) (by decide +kernel)
theorem tw_2176 : (Jvm.Cond.instanceMethod ({ cls := "MatrixScriptsModel$Forms", name := "<init>", desc := "(LMatrixScriptsModel$Fractions;)V" } : Jvm.MethodName)) ∈ wd_all := wd_i 2176 (by decide +kernel) (by decide +kernel)
theorem tw_2177 : (Jvm.Cond.code ({ cls := "MatrixScriptsModel$Forms", name := "<init>", desc := "(LMatrixScriptsModel$Fractions;)V" } : Jvm.MethodName) prog_18_method_1_code (2 : Nat) (Option.none : Option Jvm.ClassFile.FieldType)) ∈ wd_all := wd_i 2177 (by decide +kernel) (by decide +kernel)
theorem tw_2178 : (Jvm.Cond.methodLink "MatrixScriptsModel$Forms" (3 : Nat) ({ cls := "java/lang/Object", name := "<init>", desc := "()V" } : Jvm.MethodName)) ∈ wd_all := wd_i 2178 (by decide +kernel) (by decide +kernel)
theorem tw_2179 : (Jvm.Cond.fieldLink "MatrixScriptsModel$Forms" (28 : Nat) "MatrixScriptsModel$Forms" "f" "LMatrixScriptsModel$Fractions;") ∈ wd_all := wd_i 2179 (by decide +kernel) (by decide +kernel)
theorem tw_2180 : (Jvm.Cond.fieldLink "MatrixScriptsModel$Forms" (38 : Nat) "MatrixScriptsModel$Forms" "w" "LMatrixScriptsModel$Wholes;") ∈ wd_all := wd_i 2180 (by decide +kernel) (by decide +kernel)
theorem tw_2181 : (Jvm.Cond.fieldLink "MatrixScriptsModel$Forms" (9 : Nat) "MatrixScriptsModel$Forms" "z" "[J") ∈ wd_all := wd_i 2181 (by decide +kernel) (by decide +kernel)
theorem tw_2183 : (Jvm.Cond.fieldLink "MatrixScriptsModel$Forms" (15 : Nat) "MatrixScriptsModel$Forms" "pivots" "[I") ∈ wd_all := wd_i 2183 (by decide +kernel) (by decide +kernel)
theorem tw_2186 : (Jvm.Cond.fieldLink "MatrixScriptsModel$Forms" (19 : Nat) "MatrixScriptsModel$Forms" "columnsAt" "[I") ∈ wd_all := wd_i 2186 (by decide +kernel) (by decide +kernel)
theorem tw_2187 : (Jvm.Cond.fieldLink "MatrixScriptsModel$Forms" (22 : Nat) "MatrixScriptsModel$Forms" "rowsAt" "[I") ∈ wd_all := wd_i 2187 (by decide +kernel) (by decide +kernel)
theorem tw_2190 : (Jvm.Cond.fieldLink "MatrixScriptsModel$Forms" (25 : Nat) "MatrixScriptsModel$Forms" "outside" "[I") ∈ wd_all := wd_i 2190 (by decide +kernel) (by decide +kernel)
theorem tw_2217 : (Jvm.Cond.fieldLink "MatrixScriptsModel" (10 : Nat) "MatrixScriptsModel" "tape" "[B") ∈ wd_all := wd_i 2217 (by decide +kernel) (by decide +kernel)
theorem tw_2219 : (Jvm.Cond.fieldLink "MatrixScriptsModel" (17 : Nat) "MatrixScriptsModel" "f" "LMatrixScriptsModel$Fractions;") ∈ wd_all := wd_i 2219 (by decide +kernel) (by decide +kernel)
theorem tw_2220 : (Jvm.Cond.fieldLink "MatrixScriptsModel" (26 : Nat) "MatrixScriptsModel" "forms" "LMatrixScriptsModel$Forms;") ∈ wd_all := wd_i 2220 (by decide +kernel) (by decide +kernel)
theorem tw_2221 : (Jvm.Cond.fieldLink "MatrixScriptsModel" (30 : Nat) "MatrixScriptsModel" "store" "LMatrixScriptsModel$Fractions;") ∈ wd_all := wd_i 2221 (by decide +kernel) (by decide +kernel)
theorem tw_2222 : (Jvm.Cond.fieldLink "MatrixScriptsModel" (33 : Nat) "MatrixScriptsModel" "spare" "LMatrixScriptsModel$Fractions;") ∈ wd_all := wd_i 2222 (by decide +kernel) (by decide +kernel)
theorem tw_2223 : (Jvm.Cond.fieldLink "MatrixScriptsModel" (36 : Nat) "MatrixScriptsModel" "names" "[B") ∈ wd_all := wd_i 2223 (by decide +kernel) (by decide +kernel)
theorem tw_2224 : (Jvm.Cond.fieldLink "MatrixScriptsModel" (39 : Nat) "MatrixScriptsModel" "nameLength" "[I") ∈ wd_all := wd_i 2224 (by decide +kernel) (by decide +kernel)
theorem tw_2225 : (Jvm.Cond.fieldLink "MatrixScriptsModel" (43 : Nat) "MatrixScriptsModel" "values" "[I") ∈ wd_all := wd_i 2225 (by decide +kernel) (by decide +kernel)
theorem tw_2226 : (Jvm.Cond.fieldLink "MatrixScriptsModel" (46 : Nat) "MatrixScriptsModel" "commons" "[I") ∈ wd_all := wd_i 2226 (by decide +kernel) (by decide +kernel)
theorem tw_2227 : (Jvm.Cond.fieldLink "MatrixScriptsModel" (49 : Nat) "MatrixScriptsModel" "valueLimbs" "[I") ∈ wd_all := wd_i 2227 (by decide +kernel) (by decide +kernel)
theorem tw_2231 : (Jvm.Cond.fieldLink "MatrixScriptsModel" (52 : Nat) "MatrixScriptsModel" "page" "[B") ∈ wd_all := wd_i 2231 (by decide +kernel) (by decide +kernel)
theorem tw_2234 : (Jvm.Cond.fieldLink "MatrixScriptsModel" (55 : Nat) "MatrixScriptsModel" "place" "I") ∈ wd_all := wd_i 2234 (by decide +kernel) (by decide +kernel)
theorem tw_2246 : (Jvm.Cond.fieldLink "MatrixScriptsModel" (59 : Nat) "MatrixScriptsModel" "numbers" "[J") ∈ wd_all := wd_i 2246 (by decide +kernel) (by decide +kernel)
theorem tw_2247 : (Jvm.Cond.fieldLink "MatrixScriptsModel" (63 : Nat) "MatrixScriptsModel" "parts" "[I") ∈ wd_all := wd_i 2247 (by decide +kernel) (by decide +kernel)
theorem tw_2252 : (Jvm.Cond.fieldLink "MatrixScriptsModel" (66 : Nat) "MatrixScriptsModel" "groups" "[I") ∈ wd_all := wd_i 2252 (by decide +kernel) (by decide +kernel)
theorem nw_203 : (Jvm.Cond.methodLinkNest "MatrixScripts" (9 : Nat) ({ cls := "MatrixScripts$Script", name := "<init>", desc := "()V" } : Jvm.MethodName) "MatrixScripts") ∈ nw_L := nw_i 203 (by decide +kernel) (by decide +kernel)
theorem nw_209 : (Jvm.Cond.methodLinkNest "MatrixScripts$Script" (11 : Nat) ({ cls := "MatrixScripts$Tape", name := "<init>", desc := "()V" } : Jvm.MethodName) "MatrixScripts") ∈ nw_L := nw_i 209 (by decide +kernel) (by decide +kernel)
theorem nw_236 : (Jvm.Cond.methodLinkNest "MatrixScripts$Script" (20 : Nat) ({ cls := "MatrixScripts$Page", name := "<init>", desc := "()V" } : Jvm.MethodName) "MatrixScripts") ∈ nw_L := nw_i 236 (by decide +kernel) (by decide +kernel)
theorem nw_242 : (Jvm.Cond.methodLinkNest "MatrixScripts$Page" (15 : Nat) ({ cls := "MatrixScripts$Whole", name := "<init>", desc := "()V" } : Jvm.MethodName) "MatrixScripts") ∈ nw_L := nw_i 242 (by decide +kernel) (by decide +kernel)
theorem nw_292 : (Jvm.Cond.methodLinkNest "MatrixScripts$Script" (27 : Nat) ({ cls := "MatrixScripts$Values", name := "<init>", desc := "()V" } : Jvm.MethodName) "MatrixScripts") ∈ nw_L := nw_i 292 (by decide +kernel) (by decide +kernel)
theorem nw_325 : (Jvm.Cond.methodLinkNest "MatrixScripts$Script" (38 : Nat) ({ cls := "MatrixScripts$Maker", name := "<init>", desc := "()V" } : Jvm.MethodName) "MatrixScripts") ∈ nw_L := nw_i 325 (by decide +kernel) (by decide +kernel)
theorem nw_330 : (Jvm.Cond.methodLinkNest "MatrixScripts$Maker" (9 : Nat) ({ cls := "MatrixScripts$Values", name := "<init>", desc := "()V" } : Jvm.MethodName) "MatrixScripts") ∈ nw_L := nw_i 330 (by decide +kernel) (by decide +kernel)
theorem nw_333 : (Jvm.Cond.methodLinkNest "MatrixScripts$Maker" (18 : Nat) ({ cls := "MatrixScripts$Lattices", name := "<init>", desc := "()V" } : Jvm.MethodName) "MatrixScripts") ∈ nw_L := nw_i 333 (by decide +kernel) (by decide +kernel)
theorem nw_339 : (Jvm.Cond.methodLinkNest "MatrixScripts$Lattices" (9 : Nat) ({ cls := "MatrixScripts$Elimination", name := "<init>", desc := "()V" } : Jvm.MethodName) "MatrixScripts") ∈ nw_L := nw_i 339 (by decide +kernel) (by decide +kernel)
theorem nw_344 : (Jvm.Cond.methodLinkNest "MatrixScripts$Elimination" (17 : Nat) ({ cls := "MatrixScripts$Whole", name := "<init>", desc := "()V" } : Jvm.MethodName) "MatrixScripts") ∈ nw_L := nw_i 344 (by decide +kernel) (by decide +kernel)
theorem nw_347 : (Jvm.Cond.methodLinkNest "MatrixScripts$Elimination" (22 : Nat) ({ cls := "MatrixScripts$Matrix", name := "<init>", desc := "()V" } : Jvm.MethodName) "MatrixScripts") ∈ nw_L := nw_i 347 (by decide +kernel) (by decide +kernel)
theorem nw_352 : (Jvm.Cond.methodLinkNest "MatrixScripts$Matrix" (9 : Nat) ({ cls := "MatrixScripts$Whole", name := "<init>", desc := "()V" } : Jvm.MethodName) "MatrixScripts") ∈ nw_L := nw_i 352 (by decide +kernel) (by decide +kernel)
theorem nw_396 : (Jvm.Cond.methodLinkNest "MatrixScripts$Elimination" (29 : Nat) ({ cls := "MatrixScripts$Calc", name := "<init>", desc := "()V" } : Jvm.MethodName) "MatrixScripts") ∈ nw_L := nw_i 396 (by decide +kernel) (by decide +kernel)
theorem nw_401 : (Jvm.Cond.methodLinkNest "MatrixScripts$Calc" (9 : Nat) ({ cls := "MatrixScripts$Whole", name := "<init>", desc := "()V" } : Jvm.MethodName) "MatrixScripts") ∈ nw_L := nw_i 401 (by decide +kernel) (by decide +kernel)
theorem nw_500 : (Jvm.Cond.methodLinkNest "MatrixScripts$Lattices" (28 : Nat) ({ cls := "MatrixScripts$Whole", name := "<init>", desc := "()V" } : Jvm.MethodName) "MatrixScripts") ∈ nw_L := nw_i 500 (by decide +kernel) (by decide +kernel)
theorem nw_542 : (Jvm.Cond.methodLinkNest "MatrixScripts$Maker" (30 : Nat) ({ cls := "MatrixScripts$Polynomials", name := "<init>", desc := "()V" } : Jvm.MethodName) "MatrixScripts") ∈ nw_L := nw_i 542 (by decide +kernel) (by decide +kernel)
theorem nw_548 : (Jvm.Cond.methodLinkNest "MatrixScripts$Polynomials" (9 : Nat) ({ cls := "MatrixScripts$Modular", name := "<init>", desc := "()V" } : Jvm.MethodName) "MatrixScripts") ∈ nw_L := nw_i 548 (by decide +kernel) (by decide +kernel)
theorem nw_607 : (Jvm.Cond.methodLinkNest "MatrixScripts$Polynomials" (18 : Nat) ({ cls := "MatrixScripts$Matrix", name := "<init>", desc := "()V" } : Jvm.MethodName) "MatrixScripts") ∈ nw_L := nw_i 607 (by decide +kernel) (by decide +kernel)
theorem nw_609 : (Jvm.Cond.methodLinkNest "MatrixScripts$Polynomials" (28 : Nat) ({ cls := "MatrixScripts$Whole", name := "<init>", desc := "()V" } : Jvm.MethodName) "MatrixScripts") ∈ nw_L := nw_i 609 (by decide +kernel) (by decide +kernel)
theorem nw_636 : (Jvm.Cond.methodLinkNest "MatrixScripts$Maker" (44 : Nat) ({ cls := "MatrixScripts$Matrix", name := "<init>", desc := "()V" } : Jvm.MethodName) "MatrixScripts") ∈ nw_L := nw_i 636 (by decide +kernel) (by decide +kernel)
theorem nw_638 : (Jvm.Cond.methodLinkNest "MatrixScripts$Maker" (57 : Nat) ({ cls := "MatrixScripts$Whole", name := "<init>", desc := "()V" } : Jvm.MethodName) "MatrixScripts") ∈ nw_L := nw_i 638 (by decide +kernel) (by decide +kernel)
theorem nw_2118 : (Jvm.Cond.methodLinkNest "MatrixScriptsModel$Fractions" (9 : Nat) ({ cls := "MatrixScriptsModel$Wholes", name := "<init>", desc := "()V" } : Jvm.MethodName) "MatrixScriptsModel") ∈ nw_L := nw_i 2118 (by decide +kernel) (by decide +kernel)
theorem nw_2123 : (Jvm.Cond.fieldLinkNest "MatrixScriptsModel$Fractions" (23 : Nat) "MatrixScriptsModel$Wholes" "d" "[I" "MatrixScriptsModel") ∈ nw_L := nw_i 2123 (by decide +kernel) (by decide +kernel)
theorem nw_2126 : (Jvm.Cond.fieldLinkNest "MatrixScriptsModel$Fractions" (26 : Nat) "MatrixScriptsModel$Wholes" "top" "I" "MatrixScriptsModel") ∈ nw_L := nw_i 2126 (by decide +kernel) (by decide +kernel)
theorem nw_2141 : (Jvm.Cond.fieldLinkNest "MatrixScriptsModel$Forms" (32 : Nat) "MatrixScriptsModel$Fractions" "w" "LMatrixScriptsModel$Wholes;" "MatrixScriptsModel") ∈ nw_L := nw_i 2141 (by decide +kernel) (by decide +kernel)
end
section
def T_Calc : u_T := fun k => match k with
  | 0 => ("MatrixScripts$Calc", "rest", "LMatrixScripts$Whole;", false)
  | 1 => ("MatrixScripts$Calc", "cofactor", "LMatrixScripts$Whole;", false)
  | 2 => ("MatrixScripts$Calc", "otherCofactor", "LMatrixScripts$Whole;", false)
  | 3 => ("MatrixScripts$Calc", "x", "LMatrixScripts$Whole;", false)
  | 4 => ("MatrixScripts$Calc", "y", "LMatrixScripts$Whole;", false)
  | 5 => ("MatrixScripts$Calc", "spareX", "LMatrixScripts$Whole;", false)
  | 6 => ("MatrixScripts$Calc", "spareY", "LMatrixScripts$Whole;", false)
  | 7 => ("MatrixScripts$Calc", "quotient", "LMatrixScripts$Whole;", true)
  | 8 => ("MatrixScripts$Calc", "u", "LMatrixScripts$Whole;", false)
  | 9 => ("MatrixScripts$Calc", "v", "LMatrixScripts$Whole;", true)
  | 10 => ("MatrixScripts$Calc", "fa", "J", false)
  | 11 => ("MatrixScripts$Calc", "fb", "J", false)
  | 12 => ("MatrixScripts$Calc", "fc", "J", false)
  | _ => ("MatrixScripts$Calc", "fd", "J", false)
def ty_Calc : Nat → FieldType := fun k => match k with
  | 0 => .object "MatrixScripts$Whole"
  | 1 => .object "MatrixScripts$Whole"
  | 2 => .object "MatrixScripts$Whole"
  | 3 => .object "MatrixScripts$Whole"
  | 4 => .object "MatrixScripts$Whole"
  | 5 => .object "MatrixScripts$Whole"
  | 6 => .object "MatrixScripts$Whole"
  | 7 => .object "MatrixScripts$Whole"
  | 8 => .object "MatrixScripts$Whole"
  | 9 => .object "MatrixScripts$Whole"
  | 10 => .long
  | 11 => .long
  | 12 => .long
  | _ => .long
theorem nm_Calc : ∀ a, a < 14 → ∀ b, b < 14 → a ≠ b → (T_Calc a).2.1 ≠ (T_Calc b).2.1 := by decide +kernel
theorem ty_Calc_ok : ∀ k, k < 14 → parseFieldDescriptor (T_Calc k).2.2.1 = some (ty_Calc k) := by decide +kernel
theorem in_Calc : ∀ w ∈ u_ws "MatrixScripts$Calc" T_Calc 14, w ∈ wd_all := wd_ps _ [418, 420, 422, 424, 426, 428, 430, 432, 434, 436, 438, 440, 442, 444] (by decide +kernel) (by decide +kernel)
def T_Elim : u_T := fun k => match k with
  | 0 => ("MatrixScripts$Elimination", "pivots", "[I", true)
  | 1 => ("MatrixScripts$Elimination", "rank", "I", false)
  | 2 => ("MatrixScripts$Elimination", "pivot", "LMatrixScripts$Whole;", true)
  | 3 => ("MatrixScripts$Elimination", "work", "LMatrixScripts$Matrix;", true)
  | 4 => ("MatrixScripts$Elimination", "calc", "LMatrixScripts$Calc;", true)
  | 5 => ("MatrixScripts$Elimination", "scales", "LMatrixScripts$Matrix;", true)
  | 6 => ("MatrixScripts$Elimination", "divisor", "LMatrixScripts$Whole;", true)
  | 7 => ("MatrixScripts$Elimination", "otherDivisor", "LMatrixScripts$Whole;", true)
  | 8 => ("MatrixScripts$Elimination", "factor", "LMatrixScripts$Whole;", true)
  | 9 => ("MatrixScripts$Elimination", "otherFactor", "LMatrixScripts$Whole;", true)
  | 10 => ("MatrixScripts$Elimination", "t", "LMatrixScripts$Whole;", true)
  | 11 => ("MatrixScripts$Elimination", "t2", "LMatrixScripts$Whole;", true)
  | 12 => ("MatrixScripts$Elimination", "odd", "Z", false)
  | 13 => ("MatrixScripts$Elimination", "table", "[I", false)
  | _ => ("MatrixScripts$Elimination", "residue", "J", false)
def ty_Elim : Nat → FieldType := fun k => match k with
  | 0 => .array (.int)
  | 1 => .int
  | 2 => .object "MatrixScripts$Whole"
  | 3 => .object "MatrixScripts$Matrix"
  | 4 => .object "MatrixScripts$Calc"
  | 5 => .object "MatrixScripts$Matrix"
  | 6 => .object "MatrixScripts$Whole"
  | 7 => .object "MatrixScripts$Whole"
  | 8 => .object "MatrixScripts$Whole"
  | 9 => .object "MatrixScripts$Whole"
  | 10 => .object "MatrixScripts$Whole"
  | 11 => .object "MatrixScripts$Whole"
  | 12 => .boolean
  | 13 => .array (.int)
  | _ => .long
theorem nm_Elim : ∀ a, a < 15 → ∀ b, b < 15 → a ≠ b → (T_Elim a).2.1 ≠ (T_Elim b).2.1 := by decide +kernel
theorem ty_Elim_ok : ∀ k, k < 15 → parseFieldDescriptor (T_Elim k).2.2.1 = some (ty_Elim k) := by decide +kernel
theorem in_Elim : ∀ w ∈ u_ws "MatrixScripts$Elimination" T_Elim 15, w ∈ wd_all := wd_ps _ [468, 470, 472, 474, 476, 478, 480, 482, 484, 486, 488, 490, 492, 494, 496] (by decide +kernel) (by decide +kernel)
def T_Latt : u_T := fun k => match k with
  | 0 => ("MatrixScripts$Lattices", "elimination", "LMatrixScripts$Elimination;", true)
  | 1 => ("MatrixScripts$Lattices", "calc", "LMatrixScripts$Calc;", true)
  | 2 => ("MatrixScripts$Lattices", "work", "LMatrixScripts$Matrix;", true)
  | 3 => ("MatrixScripts$Lattices", "modulus", "LMatrixScripts$Whole;", true)
  | 4 => ("MatrixScripts$Lattices", "fa", "LMatrixScripts$Whole;", true)
  | 5 => ("MatrixScripts$Lattices", "fb", "LMatrixScripts$Whole;", true)
  | 6 => ("MatrixScripts$Lattices", "fc", "LMatrixScripts$Whole;", true)
  | 7 => ("MatrixScripts$Lattices", "fd", "LMatrixScripts$Whole;", true)
  | 8 => ("MatrixScripts$Lattices", "t", "LMatrixScripts$Whole;", true)
  | 9 => ("MatrixScripts$Lattices", "t2", "LMatrixScripts$Whole;", true)
  | 10 => ("MatrixScripts$Lattices", "t3", "LMatrixScripts$Whole;", true)
  | _ => ("MatrixScripts$Lattices", "swaps", "I", false)
def ty_Latt : Nat → FieldType := fun k => match k with
  | 0 => .object "MatrixScripts$Elimination"
  | 1 => .object "MatrixScripts$Calc"
  | 2 => .object "MatrixScripts$Matrix"
  | 3 => .object "MatrixScripts$Whole"
  | 4 => .object "MatrixScripts$Whole"
  | 5 => .object "MatrixScripts$Whole"
  | 6 => .object "MatrixScripts$Whole"
  | 7 => .object "MatrixScripts$Whole"
  | 8 => .object "MatrixScripts$Whole"
  | 9 => .object "MatrixScripts$Whole"
  | 10 => .object "MatrixScripts$Whole"
  | _ => .int
theorem nm_Latt : ∀ a, a < 12 → ∀ b, b < 12 → a ≠ b → (T_Latt a).2.1 ≠ (T_Latt b).2.1 := by decide +kernel
theorem ty_Latt_ok : ∀ k, k < 12 → parseFieldDescriptor (T_Latt k).2.2.1 = some (ty_Latt k) := by decide +kernel
theorem in_Latt : ∀ w ∈ u_ws "MatrixScripts$Lattices" T_Latt 12, w ∈ wd_all := wd_ps _ [515, 517, 519, 521, 523, 525, 527, 529, 531, 533, 535, 537] (by decide +kernel) (by decide +kernel)
def T_Maker : u_T := fun k => match k with
  | 0 => ("MatrixScripts$Maker", "steps", "I", false)
  | 1 => ("MatrixScripts$Maker", "hand", "LMatrixScripts$Values;", true)
  | 2 => ("MatrixScripts$Maker", "lattices", "LMatrixScripts$Lattices;", true)
  | 3 => ("MatrixScripts$Maker", "elimination", "LMatrixScripts$Elimination;", true)
  | 4 => ("MatrixScripts$Maker", "polynomials", "LMatrixScripts$Polynomials;", true)
  | 5 => ("MatrixScripts$Maker", "calc", "LMatrixScripts$Calc;", true)
  | 6 => ("MatrixScripts$Maker", "a", "LMatrixScripts$Matrix;", true)
  | 7 => ("MatrixScripts$Maker", "b", "LMatrixScripts$Matrix;", true)
  | 8 => ("MatrixScripts$Maker", "\x72", "LMatrixScripts$Matrix;", true)
  | 9 => ("MatrixScripts$Maker", "first", "LMatrixScripts$Whole;", true)
  | 10 => ("MatrixScripts$Maker", "second", "LMatrixScripts$Whole;", true)
  | _ => ("MatrixScripts$Maker", "product", "LMatrixScripts$Whole;", true)
def ty_Maker : Nat → FieldType := fun k => match k with
  | 0 => .int
  | 1 => .object "MatrixScripts$Values"
  | 2 => .object "MatrixScripts$Lattices"
  | 3 => .object "MatrixScripts$Elimination"
  | 4 => .object "MatrixScripts$Polynomials"
  | 5 => .object "MatrixScripts$Calc"
  | 6 => .object "MatrixScripts$Matrix"
  | 7 => .object "MatrixScripts$Matrix"
  | 8 => .object "MatrixScripts$Matrix"
  | 9 => .object "MatrixScripts$Whole"
  | 10 => .object "MatrixScripts$Whole"
  | _ => .object "MatrixScripts$Whole"
theorem nm_Maker : ∀ a, a < 12 → ∀ b, b < 12 → a ≠ b → (T_Maker a).2.1 ≠ (T_Maker b).2.1 := by decide +kernel
theorem ty_Maker_ok : ∀ k, k < 12 → parseFieldDescriptor (T_Maker k).2.2.1 = some (ty_Maker k) := by decide +kernel
theorem in_Maker : ∀ w ∈ u_ws "MatrixScripts$Maker" T_Maker 12, w ∈ wd_all := wd_ps _ [653, 655, 657, 659, 661, 663, 665, 667, 669, 671, 673, 675] (by decide +kernel) (by decide +kernel)
def T_Matrix : u_T := fun k => match k with
  | 0 => ("MatrixScripts$Matrix", "rows", "I", false)
  | 1 => ("MatrixScripts$Matrix", "columns", "I", false)
  | 2 => ("MatrixScripts$Matrix", "limbs", "I", false)
  | 3 => ("MatrixScripts$Matrix", "common", "LMatrixScripts$Whole;", true)
  | 4 => ("MatrixScripts$Matrix", "cells", "[LMatrixScripts$Whole;", false)
  | _ => ("MatrixScripts$Matrix", "made", "I", false)
def ty_Matrix : Nat → FieldType := fun k => match k with
  | 0 => .int
  | 1 => .int
  | 2 => .int
  | 3 => .object "MatrixScripts$Whole"
  | 4 => .array (.object "MatrixScripts$Whole")
  | _ => .int
theorem nm_Matrix : ∀ a, a < 6 → ∀ b, b < 6 → a ≠ b → (T_Matrix a).2.1 ≠ (T_Matrix b).2.1 := by decide +kernel
theorem ty_Matrix_ok : ∀ k, k < 6 → parseFieldDescriptor (T_Matrix k).2.2.1 = some (ty_Matrix k) := by decide +kernel
theorem in_Matrix : ∀ w ∈ u_ws "MatrixScripts$Matrix" T_Matrix 6, w ∈ wd_all := wd_ps _ [381, 383, 385, 387, 389, 391] (by decide +kernel) (by decide +kernel)
def T_Modu : u_T := fun k => match k with
  | 0 => ("MatrixScripts$Modular", "degrees", "[I", true)
  | 1 => ("MatrixScripts$Modular", "found", "[I", true)
  | 2 => ("MatrixScripts$Modular", "n", "I", false)
  | 3 => ("MatrixScripts$Modular", "prime", "I", false)
  | 4 => ("MatrixScripts$Modular", "cells", "[I", true)
  | 5 => ("MatrixScripts$Modular", "basis", "[I", true)
  | 6 => ("MatrixScripts$Modular", "heads", "[I", true)
  | 7 => ("MatrixScripts$Modular", "ways", "[I", true)
  | 8 => ("MatrixScripts$Modular", "held", "I", false)
  | 9 => ("MatrixScripts$Modular", "spanned", "I", false)
  | 10 => ("MatrixScripts$Modular", "degree", "I", false)
  | 11 => ("MatrixScripts$Modular", "way", "[I", true)
  | 12 => ("MatrixScripts$Modular", "order", "[I", true)
  | 13 => ("MatrixScripts$Modular", "vector", "[I", true)
  | 14 => ("MatrixScripts$Modular", "image", "[I", true)
  | 15 => ("MatrixScripts$Modular", "best", "[I", true)
  | _ => ("MatrixScripts$Modular", "trial", "[I", true)
def ty_Modu : Nat → FieldType := fun k => match k with
  | 0 => .array (.int)
  | 1 => .array (.int)
  | 2 => .int
  | 3 => .int
  | 4 => .array (.int)
  | 5 => .array (.int)
  | 6 => .array (.int)
  | 7 => .array (.int)
  | 8 => .int
  | 9 => .int
  | 10 => .int
  | 11 => .array (.int)
  | 12 => .array (.int)
  | 13 => .array (.int)
  | 14 => .array (.int)
  | 15 => .array (.int)
  | _ => .array (.int)
theorem nm_Modu : ∀ a, a < 17 → ∀ b, b < 17 → a ≠ b → (T_Modu a).2.1 ≠ (T_Modu b).2.1 := by decide +kernel
theorem ty_Modu_ok : ∀ k, k < 17 → parseFieldDescriptor (T_Modu k).2.2.1 = some (ty_Modu k) := by decide +kernel
theorem in_Modu : ∀ w ∈ u_ws "MatrixScripts$Modular" T_Modu 17, w ∈ wd_all := wd_ps _ [571, 573, 575, 577, 579, 581, 583, 585, 587, 589, 591, 593, 595, 597, 599, 601, 603] (by decide +kernel) (by decide +kernel)
def T_Page : u_T := fun k => match k with
  | 0 => ("MatrixScripts$Page", "words", "[I", false)
  | 1 => ("MatrixScripts$Page", "bytes", "I", false)
  | 2 => ("MatrixScripts$Page", "upper", "LMatrixScripts$Whole;", true)
  | 3 => ("MatrixScripts$Page", "lower", "LMatrixScripts$Whole;", true)
  | _ => ("MatrixScripts$Page", "chunks", "[I", true)
def ty_Page : Nat → FieldType := fun k => match k with
  | 0 => .array (.int)
  | 1 => .int
  | 2 => .object "MatrixScripts$Whole"
  | 3 => .object "MatrixScripts$Whole"
  | _ => .array (.int)
theorem nm_Page : ∀ a, a < 5 → ∀ b, b < 5 → a ≠ b → (T_Page a).2.1 ≠ (T_Page b).2.1 := by decide +kernel
theorem ty_Page_ok : ∀ k, k < 5 → parseFieldDescriptor (T_Page k).2.2.1 = some (ty_Page k) := by decide +kernel
theorem in_Page : ∀ w ∈ u_ws "MatrixScripts$Page" T_Page 5, w ∈ wd_all := wd_ps _ [279, 281, 283, 285, 287] (by decide +kernel) (by decide +kernel)
def T_Poly : u_T := fun k => match k with
  | 0 => ("MatrixScripts$Polynomials", "modular", "LMatrixScripts$Modular;", true)
  | 1 => ("MatrixScripts$Polynomials", "lifted", "LMatrixScripts$Matrix;", true)
  | 2 => ("MatrixScripts$Polynomials", "factors", "LMatrixScripts$Matrix;", true)
  | 3 => ("MatrixScripts$Polynomials", "modulus", "LMatrixScripts$Whole;", true)
  | 4 => ("MatrixScripts$Polynomials", "degrees", "[I", true)
  | 5 => ("MatrixScripts$Polynomials", "powers", "LMatrixScripts$Matrix;", true)
  | 6 => ("MatrixScripts$Polynomials", "t", "LMatrixScripts$Whole;", true)
  | _ => ("MatrixScripts$Polynomials", "t2", "LMatrixScripts$Whole;", true)
def ty_Poly : Nat → FieldType := fun k => match k with
  | 0 => .object "MatrixScripts$Modular"
  | 1 => .object "MatrixScripts$Matrix"
  | 2 => .object "MatrixScripts$Matrix"
  | 3 => .object "MatrixScripts$Whole"
  | 4 => .array (.int)
  | 5 => .object "MatrixScripts$Matrix"
  | 6 => .object "MatrixScripts$Whole"
  | _ => .object "MatrixScripts$Whole"
theorem nm_Poly : ∀ a, a < 8 → ∀ b, b < 8 → a ≠ b → (T_Poly a).2.1 ≠ (T_Poly b).2.1 := by decide +kernel
theorem ty_Poly_ok : ∀ k, k < 8 → parseFieldDescriptor (T_Poly k).2.2.1 = some (ty_Poly k) := by decide +kernel
theorem in_Poly : ∀ w ∈ u_ws "MatrixScripts$Polynomials" T_Poly 8, w ∈ wd_all := wd_ps _ [618, 620, 622, 624, 626, 628, 630, 632] (by decide +kernel) (by decide +kernel)
def T_Script : u_T := fun k => match k with
  | 0 => ("MatrixScripts$Script", "tape", "LMatrixScripts$Tape;", true)
  | 1 => ("MatrixScripts$Script", "page", "LMatrixScripts$Page;", true)
  | 2 => ("MatrixScripts$Script", "kept", "LMatrixScripts$Values;", true)
  | 3 => ("MatrixScripts$Script", "codes", "I", false)
  | 4 => ("MatrixScripts$Script", "done", "I", false)
  | 5 => ("MatrixScripts$Script", "doneInAll", "I", false)
  | 6 => ("MatrixScripts$Script", "fault", "I", false)
  | 7 => ("MatrixScripts$Script", "faultPlace", "I", false)
  | 8 => ("MatrixScripts$Script", "maker", "LMatrixScripts$Maker;", true)
  | 9 => ("MatrixScripts$Script", "hand", "LMatrixScripts$Values;", true)
  | 10 => ("MatrixScripts$Script", "key", "[I", true)
  | 11 => ("MatrixScripts$Script", "keys", "[I", false)
  | 12 => ("MatrixScripts$Script", "numbers", "[J", true)
  | 13 => ("MatrixScripts$Script", "numberCount", "I", false)
  | 14 => ("MatrixScripts$Script", "numberPlace", "I", false)
  | 15 => ("MatrixScripts$Script", "code", "[I", false)
  | _ => ("MatrixScripts$Script", "depth", "I", false)
def ty_Script : Nat → FieldType := fun k => match k with
  | 0 => .object "MatrixScripts$Tape"
  | 1 => .object "MatrixScripts$Page"
  | 2 => .object "MatrixScripts$Values"
  | 3 => .int
  | 4 => .int
  | 5 => .int
  | 6 => .int
  | 7 => .int
  | 8 => .object "MatrixScripts$Maker"
  | 9 => .object "MatrixScripts$Values"
  | 10 => .array (.int)
  | 11 => .array (.int)
  | 12 => .array (.long)
  | 13 => .int
  | 14 => .int
  | 15 => .array (.int)
  | _ => .int
theorem nm_Script : ∀ a, a < 17 → ∀ b, b < 17 → a ≠ b → (T_Script a).2.1 ≠ (T_Script b).2.1 := by decide +kernel
theorem ty_Script_ok : ∀ k, k < 17 → parseFieldDescriptor (T_Script k).2.2.1 = some (ty_Script k) := by decide +kernel
theorem in_Script : ∀ w ∈ u_ws "MatrixScripts$Script" T_Script 17, w ∈ wd_all := wd_ps _ [703, 705, 707, 709, 711, 713, 715, 717, 719, 721, 723, 725, 727, 729, 731, 733, 735] (by decide +kernel) (by decide +kernel)
def T_Tape : u_T := fun k => match k with
  | 0 => ("MatrixScripts$Tape", "words", "[I", false)
  | 1 => ("MatrixScripts$Tape", "bytes", "I", false)
  | 2 => ("MatrixScripts$Tape", "kind", "I", false)
  | 3 => ("MatrixScripts$Tape", "start", "I", false)
  | _ => ("MatrixScripts$Tape", "after", "I", false)
def ty_Tape : Nat → FieldType := fun k => match k with
  | 0 => .array (.int)
  | 1 => .int
  | 2 => .int
  | 3 => .int
  | _ => .int
theorem nm_Tape : ∀ a, a < 5 → ∀ b, b < 5 → a ≠ b → (T_Tape a).2.1 ≠ (T_Tape b).2.1 := by decide +kernel
theorem ty_Tape_ok : ∀ k, k < 5 → parseFieldDescriptor (T_Tape k).2.2.1 = some (ty_Tape k) := by decide +kernel
theorem in_Tape : ∀ w ∈ u_ws "MatrixScripts$Tape" T_Tape 5, w ∈ wd_all := wd_ps _ [222, 224, 226, 228, 230] (by decide +kernel) (by decide +kernel)
def T_Values : u_T := fun k => match k with
  | 0 => ("MatrixScripts$Values", "count", "I", false)
  | 1 => ("MatrixScripts$Values", "cells", "I", false)
  | 2 => ("MatrixScripts$Values", "limbs", "I", false)
  | 3 => ("MatrixScripts$Values", "data", "[I", false)
  | 4 => ("MatrixScripts$Values", "starts", "[I", false)
  | _ => ("MatrixScripts$Values", "used", "I", false)
def ty_Values : Nat → FieldType := fun k => match k with
  | 0 => .int
  | 1 => .int
  | 2 => .int
  | 3 => .array (.int)
  | 4 => .array (.int)
  | _ => .int
theorem nm_Values : ∀ a, a < 6 → ∀ b, b < 6 → a ≠ b → (T_Values a).2.1 ≠ (T_Values b).2.1 := by decide +kernel
theorem ty_Values_ok : ∀ k, k < 6 → parseFieldDescriptor (T_Values k).2.2.1 = some (ty_Values k) := by decide +kernel
theorem in_Values : ∀ w ∈ u_ws "MatrixScripts$Values" T_Values 6, w ∈ wd_all := wd_ps _ [310, 312, 314, 316, 318, 320] (by decide +kernel) (by decide +kernel)
def T_Whole : u_T := fun k => match k with
  | 0 => ("MatrixScripts$Whole", "limbs", "[I", false)
  | 1 => ("MatrixScripts$Whole", "size", "I", false)
  | _ => ("MatrixScripts$Whole", "below", "Z", false)
def ty_Whole : Nat → FieldType := fun k => match k with
  | 0 => .array (.int)
  | 1 => .int
  | _ => .boolean
theorem nm_Whole : ∀ a, a < 3 → ∀ b, b < 3 → a ≠ b → (T_Whole a).2.1 ≠ (T_Whole b).2.1 := by decide +kernel
theorem ty_Whole_ok : ∀ k, k < 3 → parseFieldDescriptor (T_Whole k).2.2.1 = some (ty_Whole k) := by decide +kernel
theorem in_Whole : ∀ w ∈ u_ws "MatrixScripts$Whole" T_Whole 3, w ∈ wd_all := wd_ps _ [266, 268, 270] (by decide +kernel) (by decide +kernel)
def T_Ms : u_T := fun k => match k with
  | 0 => ("MatrixScripts", "script", "LMatrixScripts$Script;", true)
  | 1 => ("MatrixScripts", "tape", "LMatrixScripts$Tape;", true)
  | _ => ("MatrixScripts", "page", "LMatrixScripts$Page;", true)
def ty_Ms : Nat → FieldType := fun k => match k with
  | 0 => .object "MatrixScripts$Script"
  | 1 => .object "MatrixScripts$Tape"
  | _ => .object "MatrixScripts$Page"
theorem nm_Ms : ∀ a, a < 3 → ∀ b, b < 3 → a ≠ b → (T_Ms a).2.1 ≠ (T_Ms b).2.1 := by decide +kernel
theorem ty_Ms_ok : ∀ k, k < 3 → parseFieldDescriptor (T_Ms k).2.2.1 = some (ty_Ms k) := by decide +kernel
theorem in_Ms : ∀ w ∈ u_ws "MatrixScripts" T_Ms 3, w ∈ wd_all := wd_ps _ [742, 744, 746] (by decide +kernel) (by decide +kernel)
def T_Forms : u_T := fun k => match k with
  | 0 => ("MatrixScriptsModel$Forms", "f", "LMatrixScriptsModel$Fractions;", true)
  | 1 => ("MatrixScriptsModel$Forms", "w", "LMatrixScriptsModel$Wholes;", true)
  | 2 => ("MatrixScriptsModel$Forms", "z", "[J", true)
  | 3 => ("MatrixScriptsModel$Forms", "pivots", "[I", true)
  | 4 => ("MatrixScriptsModel$Forms", "rank", "I", false)
  | 5 => ("MatrixScriptsModel$Forms", "columnsAt", "[I", true)
  | 6 => ("MatrixScriptsModel$Forms", "rowsAt", "[I", true)
  | 7 => ("MatrixScriptsModel$Forms", "first", "I", false)
  | 8 => ("MatrixScriptsModel$Forms", "second", "I", false)
  | 9 => ("MatrixScriptsModel$Forms", "outside", "[I", true)
  | _ => ("MatrixScriptsModel$Forms", "swaps", "I", false)
def ty_Forms : Nat → FieldType := fun k => match k with
  | 0 => .object "MatrixScriptsModel$Fractions"
  | 1 => .object "MatrixScriptsModel$Wholes"
  | 2 => .array (.long)
  | 3 => .array (.int)
  | 4 => .int
  | 5 => .array (.int)
  | 6 => .array (.int)
  | 7 => .int
  | 8 => .int
  | 9 => .array (.int)
  | _ => .int
theorem nm_Forms : ∀ a, a < 11 → ∀ b, b < 11 → a ≠ b → (T_Forms a).2.1 ≠ (T_Forms b).2.1 := by decide +kernel
theorem ty_Forms_ok : ∀ k, k < 11 → parseFieldDescriptor (T_Forms k).2.2.1 = some (ty_Forms k) := by decide +kernel
theorem in_Forms : ∀ w ∈ u_ws "MatrixScriptsModel$Forms" T_Forms 11, w ∈ wd_all := wd_ps _ [2193, 2195, 2197, 2199, 2201, 2203, 2205, 2207, 2209, 2211, 2213] (by decide +kernel) (by decide +kernel)
def T_Frac : u_T := fun k => match k with
  | 0 => ("MatrixScriptsModel$Fractions", "w", "LMatrixScriptsModel$Wholes;", true)
  | 1 => ("MatrixScriptsModel$Fractions", "v", "[I", false)
  | 2 => ("MatrixScriptsModel$Fractions", "top", "I", false)
  | 3 => ("MatrixScriptsModel$Fractions", "up", "I", false)
  | 4 => ("MatrixScriptsModel$Fractions", "low", "I", false)
  | 5 => ("MatrixScriptsModel$Fractions", "pivots", "[I", true)
  | _ => ("MatrixScriptsModel$Fractions", "rank", "I", false)
def ty_Frac : Nat → FieldType := fun k => match k with
  | 0 => .object "MatrixScriptsModel$Wholes"
  | 1 => .array (.int)
  | 2 => .int
  | 3 => .int
  | 4 => .int
  | 5 => .array (.int)
  | _ => .int
theorem nm_Frac : ∀ a, a < 7 → ∀ b, b < 7 → a ≠ b → (T_Frac a).2.1 ≠ (T_Frac b).2.1 := by decide +kernel
theorem ty_Frac_ok : ∀ k, k < 7 → parseFieldDescriptor (T_Frac k).2.2.1 = some (ty_Frac k) := by decide +kernel
theorem in_Frac : ∀ w ∈ u_ws "MatrixScriptsModel$Fractions" T_Frac 7, w ∈ wd_all := wd_ps _ [2158, 2160, 2162, 2164, 2166, 2168, 2170] (by decide +kernel) (by decide +kernel)
def T_Whs : u_T := fun k => match k with
  | 0 => ("MatrixScriptsModel$Wholes", "d", "[I", false)
  | 1 => ("MatrixScriptsModel$Wholes", "top", "I", false)
  | _ => ("MatrixScriptsModel$Wholes", "rest", "I", false)
def ty_Whs : Nat → FieldType := fun k => match k with
  | 0 => .array (.int)
  | 1 => .int
  | _ => .int
theorem nm_Whs : ∀ a, a < 3 → ∀ b, b < 3 → a ≠ b → (T_Whs a).2.1 ≠ (T_Whs b).2.1 := by decide +kernel
theorem ty_Whs_ok : ∀ k, k < 3 → parseFieldDescriptor (T_Whs k).2.2.1 = some (ty_Whs k) := by decide +kernel
theorem in_Whs : ∀ w ∈ u_ws "MatrixScriptsModel$Wholes" T_Whs 3, w ∈ wd_all := wd_ps _ [2133, 2135, 2137] (by decide +kernel) (by decide +kernel)
def T_Mdl : u_T := fun k => match k with
  | 0 => ("MatrixScriptsModel", "code", "I", false)
  | 1 => ("MatrixScriptsModel", "tape", "[B", true)
  | 2 => ("MatrixScriptsModel", "size", "I", false)
  | 3 => ("MatrixScriptsModel", "f", "LMatrixScriptsModel$Fractions;", true)
  | 4 => ("MatrixScriptsModel", "forms", "LMatrixScriptsModel$Forms;", true)
  | 5 => ("MatrixScriptsModel", "store", "LMatrixScriptsModel$Fractions;", false)
  | 6 => ("MatrixScriptsModel", "spare", "LMatrixScriptsModel$Fractions;", false)
  | 7 => ("MatrixScriptsModel", "names", "[B", true)
  | 8 => ("MatrixScriptsModel", "nameLength", "[I", true)
  | 9 => ("MatrixScriptsModel", "values", "[I", true)
  | 10 => ("MatrixScriptsModel", "commons", "[I", true)
  | 11 => ("MatrixScriptsModel", "valueLimbs", "[I", true)
  | 12 => ("MatrixScriptsModel", "count", "I", false)
  | 13 => ("MatrixScriptsModel", "limbsAll", "I", false)
  | 14 => ("MatrixScriptsModel", "cellsAll", "I", false)
  | 15 => ("MatrixScriptsModel", "page", "[B", false)
  | 16 => ("MatrixScriptsModel", "shown", "I", false)
  | 17 => ("MatrixScriptsModel", "doneAll", "I", false)
  | 18 => ("MatrixScriptsModel", "place", "I", false)
  | 19 => ("MatrixScriptsModel", "at", "I", false)
  | 20 => ("MatrixScriptsModel", "kind", "I", false)
  | 21 => ("MatrixScriptsModel", "begin", "I", false)
  | 22 => ("MatrixScriptsModel", "length", "I", false)
  | 23 => ("MatrixScriptsModel", "depth", "I", false)
  | 24 => ("MatrixScriptsModel", "doing", "Z", false)
  | 25 => ("MatrixScriptsModel", "fault", "I", false)
  | 26 => ("MatrixScriptsModel", "where", "I", false)
  | 27 => ("MatrixScriptsModel", "steps", "J", false)
  | 28 => ("MatrixScriptsModel", "handCells", "I", false)
  | 29 => ("MatrixScriptsModel", "handLimbs", "I", false)
  | 30 => ("MatrixScriptsModel", "numbers", "[J", true)
  | 31 => ("MatrixScriptsModel", "parts", "[I", false)
  | 32 => ("MatrixScriptsModel", "partTop", "I", false)
  | 33 => ("MatrixScriptsModel", "values2", "I", false)
  | 34 => ("MatrixScriptsModel", "numberCount", "I", false)
  | 35 => ("MatrixScriptsModel", "numberAt", "I", false)
  | _ => ("MatrixScriptsModel", "groups", "[I", true)
def ty_Mdl : Nat → FieldType := fun k => match k with
  | 0 => .int
  | 1 => .array (.byte)
  | 2 => .int
  | 3 => .object "MatrixScriptsModel$Fractions"
  | 4 => .object "MatrixScriptsModel$Forms"
  | 5 => .object "MatrixScriptsModel$Fractions"
  | 6 => .object "MatrixScriptsModel$Fractions"
  | 7 => .array (.byte)
  | 8 => .array (.int)
  | 9 => .array (.int)
  | 10 => .array (.int)
  | 11 => .array (.int)
  | 12 => .int
  | 13 => .int
  | 14 => .int
  | 15 => .array (.byte)
  | 16 => .int
  | 17 => .int
  | 18 => .int
  | 19 => .int
  | 20 => .int
  | 21 => .int
  | 22 => .int
  | 23 => .int
  | 24 => .boolean
  | 25 => .int
  | 26 => .int
  | 27 => .long
  | 28 => .int
  | 29 => .int
  | 30 => .array (.long)
  | 31 => .array (.int)
  | 32 => .int
  | 33 => .int
  | 34 => .int
  | 35 => .int
  | _ => .array (.int)
theorem nm_Mdl : ∀ a, a < 37 → ∀ b, b < 37 → a ≠ b → (T_Mdl a).2.1 ≠ (T_Mdl b).2.1 := by decide +kernel
theorem ty_Mdl_ok : ∀ k, k < 37 → parseFieldDescriptor (T_Mdl k).2.2.1 = some (ty_Mdl k) := by decide +kernel
theorem in_Mdl : ∀ w ∈ u_ws "MatrixScriptsModel" T_Mdl 37, w ∈ wd_all := wd_ps _ [2253, 2255, 2257, 2259, 2261, 2263, 2265, 2267, 2269, 2271, 2273, 2275, 2277, 2279, 2281, 2283, 2285, 2287, 2289, 2291, 2293, 2295, 2297, 2299, 2301, 2303, 2305, 2307, 2309, 2311, 2313, 2315, 2317, 2319, 2321, 2323, 2325] (by decide +kernel) (by decide +kernel)
abbrev vC : List vw_C := [("MatrixScripts$Calc", T_Calc, 14), ("MatrixScripts$Elimination", T_Elim, 15), ("MatrixScripts$Lattices", T_Latt, 12), ("MatrixScripts$Maker", T_Maker, 12), ("MatrixScripts$Matrix", T_Matrix, 6), ("MatrixScripts$Modular", T_Modu, 17), ("MatrixScripts$Page", T_Page, 5), ("MatrixScripts$Polynomials", T_Poly, 8), ("MatrixScripts$Script", T_Script, 17), ("MatrixScripts$Tape", T_Tape, 5), ("MatrixScripts$Values", T_Values, 6), ("MatrixScripts$Whole", T_Whole, 3), ("MatrixScripts", T_Ms, 3), ("MatrixScriptsModel$Forms", T_Forms, 11), ("MatrixScriptsModel$Fractions", T_Frac, 7), ("MatrixScriptsModel$Wholes", T_Whs, 3), ("MatrixScriptsModel", T_Mdl, 37)]
end
section
/-- the array classes: int, long, byte, Whole -/
abbrev tyL (g : Nat → ClassId) : List (ClassId × FieldType) := [(g 0, .int), (g 1, .long), (g 2, .byte), (g 3, .object "MatrixScripts$Whole")]
/-- a contract's start: the cells ws, the tables -/
abbrev cp (D : va_G) (g : Nat → ClassId) (av : List Value) (ws : va_W) (sz : Nat) : Array Value → State → Prop := va_Pc av (fun U => U.heap.size = sz ∧ va_P D vC ws U.heap ∧ va_K D vC (tyL g) U ∧ va_D (fun _ => True) ws ∧ nw_all U)
/-- a contract's end: the cells F u -/
abbrev cv {S : Type} (D : va_G) (A : Nat → Prop) (F : S → va_W) : Array Value → State → Outcome → State → Prop := va_Qv (fun _ : S => True) (fun u t => va_P D vC (F u) t.heap ∧ va_D A (F u)) A
theorem cp_blind {D : va_G} {g : Nat → ClassId} {av : List Value} {ws : va_W} {sz : Nat} : FrameBlind (cp D g av ws sz) := fun a U gg mk q => by
  obtain ⟨q0, q1, qP, qK, qD, qN⟩ := q
  exact ⟨q0, q1, qP, va_K.moved (u := U) (U := U.calling gg mk a) (Vm.Alike.refl U.vm) qK, qD, nw_same (s := U) (U := U.calling gg mk a) rfl qN⟩
theorem cp_S {D : va_G} {g : Nat → ClassId} {As : List Value} {wc wr : va_W} {s : State} {H : Heap} {A : Nat → Prop} (hP : va_P D vC (wc ++ wr) H) (hK : va_K D vC (tyL g) s) (hD : va_D A (wc ++ wr)) (hN : nw_all s) : PreS s H (cp D g As wc H.size) As :=
  ⟨cp_blind, fun U hU hW => ⟨rfl, by rw [hU], by rw [hU]; exact pm_P hP (fun x h => List.mem_append_left _ h), va_K.moved hW.alike hK, (pm_Dl hD).weaken (fun _ _ _ _ => trivial), nw_warm hW hN⟩⟩
theorem pm_expP {D : va_G} {cl : List vw_C} {o a r B : va_W} {H : Heap} (h : va_P D cl (o ++ ((a ++ r) ++ B)) H) : va_P D cl ((o ++ a) ++ (r ++ B)) H := by
  rw [List.append_assoc a r B, ← List.append_assoc o a] at h
  exact h
theorem pm_expD {A : Nat → Prop} {o a r B : va_W} (h : va_D A (o ++ ((a ++ r) ++ B))) : va_D A ((o ++ a) ++ (r ++ B)) := by
  rw [List.append_assoc a r B, ← List.append_assoc o a] at h
  exact h
end
section
theorem d_Whole_init_0 : decode prog_15_method_1_code 0 = .ok (.aload_n 0, 1) := by decide +kernel
theorem d_Whole_init_1 : decode prog_15_method_1_code 1 = .ok (.invokespecial 1, 3) := by decide +kernel
theorem d_Whole_init_4 : decode prog_15_method_1_code 4 = .ok (.aload_n 0, 1) := by decide +kernel
theorem d_Whole_init_5 : decode prog_15_method_1_code 5 = .ok (.iconst 3, 1) := by decide +kernel
theorem d_Whole_init_6 : decode prog_15_method_1_code 6 = .ok (.newarray .int, 2) := by decide +kernel
theorem d_Whole_init_8 : decode prog_15_method_1_code 8 = .ok (.putfield 7, 3) := by decide +kernel
theorem d_Whole_init_11 : decode prog_15_method_1_code 11 = .ok (.return_, 1) := by decide +kernel
theorem d_Tape_init_0 : decode prog_13_method_1_code 0 = .ok (.aload_n 0, 1) := by decide +kernel
theorem d_Tape_init_1 : decode prog_13_method_1_code 1 = .ok (.invokespecial 3, 3) := by decide +kernel
theorem d_Tape_init_4 : decode prog_13_method_1_code 4 = .ok (.aload_n 0, 1) := by decide +kernel
theorem d_Tape_init_5 : decode prog_13_method_1_code 5 = .ok (.bipush 64, 2) := by decide +kernel
theorem d_Tape_init_7 : decode prog_13_method_1_code 7 = .ok (.newarray .int, 2) := by decide +kernel
theorem d_Tape_init_9 : decode prog_13_method_1_code 9 = .ok (.putfield 9, 3) := by decide +kernel
theorem d_Tape_init_12 : decode prog_13_method_1_code 12 = .ok (.return_, 1) := by decide +kernel
theorem d_Page_init_0 : decode prog_10_method_1_code 0 = .ok (.aload_n 0, 1) := by decide +kernel
theorem d_Page_init_1 : decode prog_10_method_1_code 1 = .ok (.invokespecial 1, 3) := by decide +kernel
theorem d_Page_init_4 : decode prog_10_method_1_code 4 = .ok (.aload_n 0, 1) := by decide +kernel
theorem d_Page_init_5 : decode prog_10_method_1_code 5 = .ok (.bipush 64, 2) := by decide +kernel
theorem d_Page_init_7 : decode prog_10_method_1_code 7 = .ok (.newarray .int, 2) := by decide +kernel
theorem d_Page_init_9 : decode prog_10_method_1_code 9 = .ok (.putfield 7, 3) := by decide +kernel
theorem d_Page_init_12 : decode prog_10_method_1_code 12 = .ok (.aload_n 0, 1) := by decide +kernel
theorem d_Page_init_13 : decode prog_10_method_1_code 13 = .ok (.new 13, 3) := by decide +kernel
theorem d_Page_init_16 : decode prog_10_method_1_code 16 = .ok (.dup, 1) := by decide +kernel
theorem d_Page_init_17 : decode prog_10_method_1_code 17 = .ok (.invokespecial 15, 3) := by decide +kernel
theorem d_Page_init_20 : decode prog_10_method_1_code 20 = .ok (.putfield 16, 3) := by decide +kernel
theorem d_Page_init_23 : decode prog_10_method_1_code 23 = .ok (.aload_n 0, 1) := by decide +kernel
theorem d_Page_init_24 : decode prog_10_method_1_code 24 = .ok (.new 13, 3) := by decide +kernel
theorem d_Page_init_27 : decode prog_10_method_1_code 27 = .ok (.dup, 1) := by decide +kernel
theorem d_Page_init_28 : decode prog_10_method_1_code 28 = .ok (.invokespecial 15, 3) := by decide +kernel
theorem d_Page_init_31 : decode prog_10_method_1_code 31 = .ok (.putfield 20, 3) := by decide +kernel
theorem d_Page_init_34 : decode prog_10_method_1_code 34 = .ok (.aload_n 0, 1) := by decide +kernel
theorem d_Page_init_35 : decode prog_10_method_1_code 35 = .ok (.sipush 160, 3) := by decide +kernel
theorem d_Page_init_38 : decode prog_10_method_1_code 38 = .ok (.newarray .int, 2) := by decide +kernel
theorem d_Page_init_40 : decode prog_10_method_1_code 40 = .ok (.putfield 23, 3) := by decide +kernel
theorem d_Page_init_43 : decode prog_10_method_1_code 43 = .ok (.return_, 1) := by decide +kernel
theorem d_Values_init_0 : decode prog_14_method_1_code 0 = .ok (.aload_n 0, 1) := by decide +kernel
theorem d_Values_init_1 : decode prog_14_method_1_code 1 = .ok (.invokespecial 1, 3) := by decide +kernel
theorem d_Values_init_4 : decode prog_14_method_1_code 4 = .ok (.aload_n 0, 1) := by decide +kernel
theorem d_Values_init_5 : decode prog_14_method_1_code 5 = .ok (.sipush 256, 3) := by decide +kernel
theorem d_Values_init_8 : decode prog_14_method_1_code 8 = .ok (.newarray .int, 2) := by decide +kernel
theorem d_Values_init_10 : decode prog_14_method_1_code 10 = .ok (.putfield 7, 3) := by decide +kernel
theorem d_Values_init_13 : decode prog_14_method_1_code 13 = .ok (.aload_n 0, 1) := by decide +kernel
theorem d_Values_init_14 : decode prog_14_method_1_code 14 = .ok (.bipush 16, 2) := by decide +kernel
theorem d_Values_init_16 : decode prog_14_method_1_code 16 = .ok (.newarray .int, 2) := by decide +kernel
theorem d_Values_init_18 : decode prog_14_method_1_code 18 = .ok (.putfield 13, 3) := by decide +kernel
theorem d_Values_init_21 : decode prog_14_method_1_code 21 = .ok (.return_, 1) := by decide +kernel
theorem d_Matrix_init_0 : decode prog_8_method_1_code 0 = .ok (.aload_n 0, 1) := by decide +kernel
theorem d_Matrix_init_1 : decode prog_8_method_1_code 1 = .ok (.invokespecial 1, 3) := by decide +kernel
theorem d_Matrix_init_4 : decode prog_8_method_1_code 4 = .ok (.aload_n 0, 1) := by decide +kernel
theorem d_Matrix_init_5 : decode prog_8_method_1_code 5 = .ok (.new 7, 3) := by decide +kernel
theorem d_Matrix_init_8 : decode prog_8_method_1_code 8 = .ok (.dup, 1) := by decide +kernel
theorem d_Matrix_init_9 : decode prog_8_method_1_code 9 = .ok (.invokespecial 9, 3) := by decide +kernel
theorem d_Matrix_init_12 : decode prog_8_method_1_code 12 = .ok (.putfield 10, 3) := by decide +kernel
theorem d_Matrix_init_15 : decode prog_8_method_1_code 15 = .ok (.aload_n 0, 1) := by decide +kernel
theorem d_Matrix_init_16 : decode prog_8_method_1_code 16 = .ok (.bipush 16, 2) := by decide +kernel
theorem d_Matrix_init_18 : decode prog_8_method_1_code 18 = .ok (.anewarray 7, 3) := by decide +kernel
theorem d_Matrix_init_21 : decode prog_8_method_1_code 21 = .ok (.putfield 16, 3) := by decide +kernel
theorem d_Matrix_init_24 : decode prog_8_method_1_code 24 = .ok (.return_, 1) := by decide +kernel
theorem d_Calc_init_0 : decode prog_3_method_1_code 0 = .ok (.aload_n 0, 1) := by decide +kernel
theorem d_Calc_init_1 : decode prog_3_method_1_code 1 = .ok (.invokespecial 1, 3) := by decide +kernel
theorem d_Calc_init_4 : decode prog_3_method_1_code 4 = .ok (.aload_n 0, 1) := by decide +kernel
theorem d_Calc_init_5 : decode prog_3_method_1_code 5 = .ok (.new 7, 3) := by decide +kernel
theorem d_Calc_init_8 : decode prog_3_method_1_code 8 = .ok (.dup, 1) := by decide +kernel
theorem d_Calc_init_9 : decode prog_3_method_1_code 9 = .ok (.invokespecial 9, 3) := by decide +kernel
theorem d_Calc_init_12 : decode prog_3_method_1_code 12 = .ok (.putfield 10, 3) := by decide +kernel
theorem d_Calc_init_15 : decode prog_3_method_1_code 15 = .ok (.aload_n 0, 1) := by decide +kernel
theorem d_Calc_init_16 : decode prog_3_method_1_code 16 = .ok (.new 7, 3) := by decide +kernel
theorem d_Calc_init_19 : decode prog_3_method_1_code 19 = .ok (.dup, 1) := by decide +kernel
theorem d_Calc_init_20 : decode prog_3_method_1_code 20 = .ok (.invokespecial 9, 3) := by decide +kernel
theorem d_Calc_init_23 : decode prog_3_method_1_code 23 = .ok (.putfield 16, 3) := by decide +kernel
theorem d_Calc_init_26 : decode prog_3_method_1_code 26 = .ok (.aload_n 0, 1) := by decide +kernel
theorem d_Calc_init_27 : decode prog_3_method_1_code 27 = .ok (.new 7, 3) := by decide +kernel
theorem d_Calc_init_30 : decode prog_3_method_1_code 30 = .ok (.dup, 1) := by decide +kernel
theorem d_Calc_init_31 : decode prog_3_method_1_code 31 = .ok (.invokespecial 9, 3) := by decide +kernel
theorem d_Calc_init_34 : decode prog_3_method_1_code 34 = .ok (.putfield 19, 3) := by decide +kernel
theorem d_Calc_init_37 : decode prog_3_method_1_code 37 = .ok (.aload_n 0, 1) := by decide +kernel
theorem d_Calc_init_38 : decode prog_3_method_1_code 38 = .ok (.new 7, 3) := by decide +kernel
theorem d_Calc_init_41 : decode prog_3_method_1_code 41 = .ok (.dup, 1) := by decide +kernel
theorem d_Calc_init_42 : decode prog_3_method_1_code 42 = .ok (.invokespecial 9, 3) := by decide +kernel
theorem d_Calc_init_45 : decode prog_3_method_1_code 45 = .ok (.putfield 22, 3) := by decide +kernel
theorem d_Calc_init_48 : decode prog_3_method_1_code 48 = .ok (.aload_n 0, 1) := by decide +kernel
theorem d_Calc_init_49 : decode prog_3_method_1_code 49 = .ok (.new 7, 3) := by decide +kernel
theorem d_Calc_init_52 : decode prog_3_method_1_code 52 = .ok (.dup, 1) := by decide +kernel
theorem d_Calc_init_53 : decode prog_3_method_1_code 53 = .ok (.invokespecial 9, 3) := by decide +kernel
theorem d_Calc_init_56 : decode prog_3_method_1_code 56 = .ok (.putfield 25, 3) := by decide +kernel
theorem d_Calc_init_59 : decode prog_3_method_1_code 59 = .ok (.aload_n 0, 1) := by decide +kernel
theorem d_Calc_init_60 : decode prog_3_method_1_code 60 = .ok (.new 7, 3) := by decide +kernel
theorem d_Calc_init_63 : decode prog_3_method_1_code 63 = .ok (.dup, 1) := by decide +kernel
theorem d_Calc_init_64 : decode prog_3_method_1_code 64 = .ok (.invokespecial 9, 3) := by decide +kernel
theorem d_Calc_init_67 : decode prog_3_method_1_code 67 = .ok (.putfield 28, 3) := by decide +kernel
theorem d_Calc_init_70 : decode prog_3_method_1_code 70 = .ok (.aload_n 0, 1) := by decide +kernel
theorem d_Calc_init_71 : decode prog_3_method_1_code 71 = .ok (.new 7, 3) := by decide +kernel
theorem d_Calc_init_74 : decode prog_3_method_1_code 74 = .ok (.dup, 1) := by decide +kernel
theorem d_Calc_init_75 : decode prog_3_method_1_code 75 = .ok (.invokespecial 9, 3) := by decide +kernel
theorem d_Calc_init_78 : decode prog_3_method_1_code 78 = .ok (.putfield 31, 3) := by decide +kernel
theorem d_Calc_init_81 : decode prog_3_method_1_code 81 = .ok (.aload_n 0, 1) := by decide +kernel
theorem d_Calc_init_82 : decode prog_3_method_1_code 82 = .ok (.new 7, 3) := by decide +kernel
theorem d_Calc_init_85 : decode prog_3_method_1_code 85 = .ok (.dup, 1) := by decide +kernel
theorem d_Calc_init_86 : decode prog_3_method_1_code 86 = .ok (.invokespecial 9, 3) := by decide +kernel
theorem d_Calc_init_89 : decode prog_3_method_1_code 89 = .ok (.putfield 34, 3) := by decide +kernel
theorem d_Calc_init_92 : decode prog_3_method_1_code 92 = .ok (.aload_n 0, 1) := by decide +kernel
theorem d_Calc_init_93 : decode prog_3_method_1_code 93 = .ok (.new 7, 3) := by decide +kernel
theorem d_Calc_init_96 : decode prog_3_method_1_code 96 = .ok (.dup, 1) := by decide +kernel
theorem d_Calc_init_97 : decode prog_3_method_1_code 97 = .ok (.invokespecial 9, 3) := by decide +kernel
theorem d_Calc_init_100 : decode prog_3_method_1_code 100 = .ok (.putfield 37, 3) := by decide +kernel
theorem d_Calc_init_103 : decode prog_3_method_1_code 103 = .ok (.aload_n 0, 1) := by decide +kernel
theorem d_Calc_init_104 : decode prog_3_method_1_code 104 = .ok (.new 7, 3) := by decide +kernel
theorem d_Calc_init_107 : decode prog_3_method_1_code 107 = .ok (.dup, 1) := by decide +kernel
theorem d_Calc_init_108 : decode prog_3_method_1_code 108 = .ok (.invokespecial 9, 3) := by decide +kernel
theorem d_Calc_init_111 : decode prog_3_method_1_code 111 = .ok (.putfield 40, 3) := by decide +kernel
theorem d_Calc_init_114 : decode prog_3_method_1_code 114 = .ok (.return_, 1) := by decide +kernel
theorem d_Elim_init_0 : decode prog_5_method_1_code 0 = .ok (.aload_n 0, 1) := by decide +kernel
theorem d_Elim_init_1 : decode prog_5_method_1_code 1 = .ok (.invokespecial 1, 3) := by decide +kernel
theorem d_Elim_init_4 : decode prog_5_method_1_code 4 = .ok (.aload_n 0, 1) := by decide +kernel
theorem d_Elim_init_5 : decode prog_5_method_1_code 5 = .ok (.bipush 64, 2) := by decide +kernel
theorem d_Elim_init_7 : decode prog_5_method_1_code 7 = .ok (.newarray .int, 2) := by decide +kernel
theorem d_Elim_init_9 : decode prog_5_method_1_code 9 = .ok (.putfield 9, 3) := by decide +kernel
theorem d_Elim_init_12 : decode prog_5_method_1_code 12 = .ok (.aload_n 0, 1) := by decide +kernel
theorem d_Elim_init_13 : decode prog_5_method_1_code 13 = .ok (.new 15, 3) := by decide +kernel
theorem d_Elim_init_16 : decode prog_5_method_1_code 16 = .ok (.dup, 1) := by decide +kernel
theorem d_Elim_init_17 : decode prog_5_method_1_code 17 = .ok (.invokespecial 17, 3) := by decide +kernel
theorem d_Elim_init_20 : decode prog_5_method_1_code 20 = .ok (.putfield 18, 3) := by decide +kernel
theorem d_Elim_init_23 : decode prog_5_method_1_code 23 = .ok (.aload_n 0, 1) := by decide +kernel
theorem d_Elim_init_24 : decode prog_5_method_1_code 24 = .ok (.new 7, 3) := by decide +kernel
theorem d_Elim_init_27 : decode prog_5_method_1_code 27 = .ok (.dup, 1) := by decide +kernel
theorem d_Elim_init_28 : decode prog_5_method_1_code 28 = .ok (.invokespecial 22, 3) := by decide +kernel
theorem d_Elim_init_31 : decode prog_5_method_1_code 31 = .ok (.putfield 23, 3) := by decide +kernel
theorem d_Elim_init_34 : decode prog_5_method_1_code 34 = .ok (.aload_n 0, 1) := by decide +kernel
theorem d_Elim_init_35 : decode prog_5_method_1_code 35 = .ok (.new 27, 3) := by decide +kernel
theorem d_Elim_init_38 : decode prog_5_method_1_code 38 = .ok (.dup, 1) := by decide +kernel
theorem d_Elim_init_39 : decode prog_5_method_1_code 39 = .ok (.invokespecial 29, 3) := by decide +kernel
theorem d_Elim_init_42 : decode prog_5_method_1_code 42 = .ok (.putfield 30, 3) := by decide +kernel
theorem d_Elim_init_45 : decode prog_5_method_1_code 45 = .ok (.aload_n 0, 1) := by decide +kernel
theorem d_Elim_init_46 : decode prog_5_method_1_code 46 = .ok (.new 7, 3) := by decide +kernel
theorem d_Elim_init_49 : decode prog_5_method_1_code 49 = .ok (.dup, 1) := by decide +kernel
theorem d_Elim_init_50 : decode prog_5_method_1_code 50 = .ok (.invokespecial 22, 3) := by decide +kernel
theorem d_Elim_init_53 : decode prog_5_method_1_code 53 = .ok (.putfield 34, 3) := by decide +kernel
theorem d_Elim_init_56 : decode prog_5_method_1_code 56 = .ok (.aload_n 0, 1) := by decide +kernel
theorem d_Elim_init_57 : decode prog_5_method_1_code 57 = .ok (.new 15, 3) := by decide +kernel
theorem d_Elim_init_60 : decode prog_5_method_1_code 60 = .ok (.dup, 1) := by decide +kernel
theorem d_Elim_init_61 : decode prog_5_method_1_code 61 = .ok (.invokespecial 17, 3) := by decide +kernel
theorem d_Elim_init_64 : decode prog_5_method_1_code 64 = .ok (.putfield 37, 3) := by decide +kernel
theorem d_Elim_init_67 : decode prog_5_method_1_code 67 = .ok (.aload_n 0, 1) := by decide +kernel
theorem d_Elim_init_68 : decode prog_5_method_1_code 68 = .ok (.new 15, 3) := by decide +kernel
theorem d_Elim_init_71 : decode prog_5_method_1_code 71 = .ok (.dup, 1) := by decide +kernel
theorem d_Elim_init_72 : decode prog_5_method_1_code 72 = .ok (.invokespecial 17, 3) := by decide +kernel
theorem d_Elim_init_75 : decode prog_5_method_1_code 75 = .ok (.putfield 40, 3) := by decide +kernel
theorem d_Elim_init_78 : decode prog_5_method_1_code 78 = .ok (.aload_n 0, 1) := by decide +kernel
theorem d_Elim_init_79 : decode prog_5_method_1_code 79 = .ok (.new 15, 3) := by decide +kernel
theorem d_Elim_init_82 : decode prog_5_method_1_code 82 = .ok (.dup, 1) := by decide +kernel
theorem d_Elim_init_83 : decode prog_5_method_1_code 83 = .ok (.invokespecial 17, 3) := by decide +kernel
theorem d_Elim_init_86 : decode prog_5_method_1_code 86 = .ok (.putfield 43, 3) := by decide +kernel
theorem d_Elim_init_89 : decode prog_5_method_1_code 89 = .ok (.aload_n 0, 1) := by decide +kernel
theorem d_Elim_init_90 : decode prog_5_method_1_code 90 = .ok (.new 15, 3) := by decide +kernel
theorem d_Elim_init_93 : decode prog_5_method_1_code 93 = .ok (.dup, 1) := by decide +kernel
theorem d_Elim_init_94 : decode prog_5_method_1_code 94 = .ok (.invokespecial 17, 3) := by decide +kernel
theorem d_Elim_init_97 : decode prog_5_method_1_code 97 = .ok (.putfield 46, 3) := by decide +kernel
theorem d_Elim_init_100 : decode prog_5_method_1_code 100 = .ok (.aload_n 0, 1) := by decide +kernel
theorem d_Elim_init_101 : decode prog_5_method_1_code 101 = .ok (.new 15, 3) := by decide +kernel
theorem d_Elim_init_104 : decode prog_5_method_1_code 104 = .ok (.dup, 1) := by decide +kernel
theorem d_Elim_init_105 : decode prog_5_method_1_code 105 = .ok (.invokespecial 17, 3) := by decide +kernel
theorem d_Elim_init_108 : decode prog_5_method_1_code 108 = .ok (.putfield 49, 3) := by decide +kernel
theorem d_Elim_init_111 : decode prog_5_method_1_code 111 = .ok (.aload_n 0, 1) := by decide +kernel
theorem d_Elim_init_112 : decode prog_5_method_1_code 112 = .ok (.new 15, 3) := by decide +kernel
theorem d_Elim_init_115 : decode prog_5_method_1_code 115 = .ok (.dup, 1) := by decide +kernel
theorem d_Elim_init_116 : decode prog_5_method_1_code 116 = .ok (.invokespecial 17, 3) := by decide +kernel
theorem d_Elim_init_119 : decode prog_5_method_1_code 119 = .ok (.putfield 52, 3) := by decide +kernel
theorem d_Elim_init_122 : decode prog_5_method_1_code 122 = .ok (.aload_n 0, 1) := by decide +kernel
theorem d_Elim_init_123 : decode prog_5_method_1_code 123 = .ok (.bipush 16, 2) := by decide +kernel
theorem d_Elim_init_125 : decode prog_5_method_1_code 125 = .ok (.newarray .int, 2) := by decide +kernel
theorem d_Elim_init_127 : decode prog_5_method_1_code 127 = .ok (.putfield 55, 3) := by decide +kernel
theorem d_Elim_init_130 : decode prog_5_method_1_code 130 = .ok (.return_, 1) := by decide +kernel
theorem d_Latt_init_0 : decode prog_6_method_1_code 0 = .ok (.aload_n 0, 1) := by decide +kernel
theorem d_Latt_init_1 : decode prog_6_method_1_code 1 = .ok (.invokespecial 1, 3) := by decide +kernel
theorem d_Latt_init_4 : decode prog_6_method_1_code 4 = .ok (.aload_n 0, 1) := by decide +kernel
theorem d_Latt_init_5 : decode prog_6_method_1_code 5 = .ok (.new 7, 3) := by decide +kernel
theorem d_Latt_init_8 : decode prog_6_method_1_code 8 = .ok (.dup, 1) := by decide +kernel
theorem d_Latt_init_9 : decode prog_6_method_1_code 9 = .ok (.invokespecial 9, 3) := by decide +kernel
theorem d_Latt_init_12 : decode prog_6_method_1_code 12 = .ok (.putfield 10, 3) := by decide +kernel
theorem d_Latt_init_15 : decode prog_6_method_1_code 15 = .ok (.aload_n 0, 1) := by decide +kernel
theorem d_Latt_init_16 : decode prog_6_method_1_code 16 = .ok (.aload_n 0, 1) := by decide +kernel
theorem d_Latt_init_17 : decode prog_6_method_1_code 17 = .ok (.getfield 10, 3) := by decide +kernel
theorem d_Latt_init_20 : decode prog_6_method_1_code 20 = .ok (.getfield 16, 3) := by decide +kernel
theorem d_Latt_init_23 : decode prog_6_method_1_code 23 = .ok (.putfield 20, 3) := by decide +kernel
theorem d_Latt_init_26 : decode prog_6_method_1_code 26 = .ok (.aload_n 0, 1) := by decide +kernel
theorem d_Latt_init_27 : decode prog_6_method_1_code 27 = .ok (.aload_n 0, 1) := by decide +kernel
theorem d_Latt_init_28 : decode prog_6_method_1_code 28 = .ok (.getfield 10, 3) := by decide +kernel
theorem d_Latt_init_31 : decode prog_6_method_1_code 31 = .ok (.getfield 21, 3) := by decide +kernel
theorem d_Latt_init_34 : decode prog_6_method_1_code 34 = .ok (.putfield 25, 3) := by decide +kernel
theorem d_Latt_init_37 : decode prog_6_method_1_code 37 = .ok (.aload_n 0, 1) := by decide +kernel
theorem d_Latt_init_38 : decode prog_6_method_1_code 38 = .ok (.new 26, 3) := by decide +kernel
theorem d_Latt_init_41 : decode prog_6_method_1_code 41 = .ok (.dup, 1) := by decide +kernel
theorem d_Latt_init_42 : decode prog_6_method_1_code 42 = .ok (.invokespecial 28, 3) := by decide +kernel
theorem d_Latt_init_45 : decode prog_6_method_1_code 45 = .ok (.putfield 29, 3) := by decide +kernel
theorem d_Latt_init_48 : decode prog_6_method_1_code 48 = .ok (.aload_n 0, 1) := by decide +kernel
theorem d_Latt_init_49 : decode prog_6_method_1_code 49 = .ok (.new 26, 3) := by decide +kernel
theorem d_Latt_init_52 : decode prog_6_method_1_code 52 = .ok (.dup, 1) := by decide +kernel
theorem d_Latt_init_53 : decode prog_6_method_1_code 53 = .ok (.invokespecial 28, 3) := by decide +kernel
theorem d_Latt_init_56 : decode prog_6_method_1_code 56 = .ok (.putfield 33, 3) := by decide +kernel
theorem d_Latt_init_59 : decode prog_6_method_1_code 59 = .ok (.aload_n 0, 1) := by decide +kernel
theorem d_Latt_init_60 : decode prog_6_method_1_code 60 = .ok (.new 26, 3) := by decide +kernel
theorem d_Latt_init_63 : decode prog_6_method_1_code 63 = .ok (.dup, 1) := by decide +kernel
theorem d_Latt_init_64 : decode prog_6_method_1_code 64 = .ok (.invokespecial 28, 3) := by decide +kernel
theorem d_Latt_init_67 : decode prog_6_method_1_code 67 = .ok (.putfield 36, 3) := by decide +kernel
theorem d_Latt_init_70 : decode prog_6_method_1_code 70 = .ok (.aload_n 0, 1) := by decide +kernel
theorem d_Latt_init_71 : decode prog_6_method_1_code 71 = .ok (.new 26, 3) := by decide +kernel
theorem d_Latt_init_74 : decode prog_6_method_1_code 74 = .ok (.dup, 1) := by decide +kernel
theorem d_Latt_init_75 : decode prog_6_method_1_code 75 = .ok (.invokespecial 28, 3) := by decide +kernel
theorem d_Latt_init_78 : decode prog_6_method_1_code 78 = .ok (.putfield 39, 3) := by decide +kernel
theorem d_Latt_init_81 : decode prog_6_method_1_code 81 = .ok (.aload_n 0, 1) := by decide +kernel
theorem d_Latt_init_82 : decode prog_6_method_1_code 82 = .ok (.new 26, 3) := by decide +kernel
theorem d_Latt_init_85 : decode prog_6_method_1_code 85 = .ok (.dup, 1) := by decide +kernel
theorem d_Latt_init_86 : decode prog_6_method_1_code 86 = .ok (.invokespecial 28, 3) := by decide +kernel
theorem d_Latt_init_89 : decode prog_6_method_1_code 89 = .ok (.putfield 42, 3) := by decide +kernel
theorem d_Latt_init_92 : decode prog_6_method_1_code 92 = .ok (.aload_n 0, 1) := by decide +kernel
theorem d_Latt_init_93 : decode prog_6_method_1_code 93 = .ok (.new 26, 3) := by decide +kernel
theorem d_Latt_init_96 : decode prog_6_method_1_code 96 = .ok (.dup, 1) := by decide +kernel
theorem d_Latt_init_97 : decode prog_6_method_1_code 97 = .ok (.invokespecial 28, 3) := by decide +kernel
theorem d_Latt_init_100 : decode prog_6_method_1_code 100 = .ok (.putfield 45, 3) := by decide +kernel
theorem d_Latt_init_103 : decode prog_6_method_1_code 103 = .ok (.aload_n 0, 1) := by decide +kernel
theorem d_Latt_init_104 : decode prog_6_method_1_code 104 = .ok (.new 26, 3) := by decide +kernel
theorem d_Latt_init_107 : decode prog_6_method_1_code 107 = .ok (.dup, 1) := by decide +kernel
theorem d_Latt_init_108 : decode prog_6_method_1_code 108 = .ok (.invokespecial 28, 3) := by decide +kernel
theorem d_Latt_init_111 : decode prog_6_method_1_code 111 = .ok (.putfield 48, 3) := by decide +kernel
theorem d_Latt_init_114 : decode prog_6_method_1_code 114 = .ok (.aload_n 0, 1) := by decide +kernel
theorem d_Latt_init_115 : decode prog_6_method_1_code 115 = .ok (.new 26, 3) := by decide +kernel
theorem d_Latt_init_118 : decode prog_6_method_1_code 118 = .ok (.dup, 1) := by decide +kernel
theorem d_Latt_init_119 : decode prog_6_method_1_code 119 = .ok (.invokespecial 28, 3) := by decide +kernel
theorem d_Latt_init_122 : decode prog_6_method_1_code 122 = .ok (.putfield 51, 3) := by decide +kernel
theorem d_Latt_init_125 : decode prog_6_method_1_code 125 = .ok (.return_, 1) := by decide +kernel
theorem d_Modu_init_0 : decode prog_9_method_1_code 0 = .ok (.aload_n 0, 1) := by decide +kernel
theorem d_Modu_init_1 : decode prog_9_method_1_code 1 = .ok (.invokespecial 1, 3) := by decide +kernel
theorem d_Modu_init_4 : decode prog_9_method_1_code 4 = .ok (.aload_n 0, 1) := by decide +kernel
theorem d_Modu_init_5 : decode prog_9_method_1_code 5 = .ok (.bipush 32, 2) := by decide +kernel
theorem d_Modu_init_7 : decode prog_9_method_1_code 7 = .ok (.newarray .int, 2) := by decide +kernel
theorem d_Modu_init_9 : decode prog_9_method_1_code 9 = .ok (.putfield 9, 3) := by decide +kernel
theorem d_Modu_init_12 : decode prog_9_method_1_code 12 = .ok (.aload_n 0, 1) := by decide +kernel
theorem d_Modu_init_13 : decode prog_9_method_1_code 13 = .ok (.bipush 32, 2) := by decide +kernel
theorem d_Modu_init_15 : decode prog_9_method_1_code 15 = .ok (.newarray .int, 2) := by decide +kernel
theorem d_Modu_init_17 : decode prog_9_method_1_code 17 = .ok (.putfield 13, 3) := by decide +kernel
theorem d_Modu_init_20 : decode prog_9_method_1_code 20 = .ok (.aload_n 0, 1) := by decide +kernel
theorem d_Modu_init_21 : decode prog_9_method_1_code 21 = .ok (.sipush 1024, 3) := by decide +kernel
theorem d_Modu_init_24 : decode prog_9_method_1_code 24 = .ok (.newarray .int, 2) := by decide +kernel
theorem d_Modu_init_26 : decode prog_9_method_1_code 26 = .ok (.putfield 16, 3) := by decide +kernel
theorem d_Modu_init_29 : decode prog_9_method_1_code 29 = .ok (.aload_n 0, 1) := by decide +kernel
theorem d_Modu_init_30 : decode prog_9_method_1_code 30 = .ok (.sipush 1056, 3) := by decide +kernel
theorem d_Modu_init_33 : decode prog_9_method_1_code 33 = .ok (.newarray .int, 2) := by decide +kernel
theorem d_Modu_init_35 : decode prog_9_method_1_code 35 = .ok (.putfield 19, 3) := by decide +kernel
theorem d_Modu_init_38 : decode prog_9_method_1_code 38 = .ok (.aload_n 0, 1) := by decide +kernel
theorem d_Modu_init_39 : decode prog_9_method_1_code 39 = .ok (.bipush 33, 2) := by decide +kernel
theorem d_Modu_init_41 : decode prog_9_method_1_code 41 = .ok (.newarray .int, 2) := by decide +kernel
theorem d_Modu_init_43 : decode prog_9_method_1_code 43 = .ok (.putfield 22, 3) := by decide +kernel
theorem d_Modu_init_46 : decode prog_9_method_1_code 46 = .ok (.aload_n 0, 1) := by decide +kernel
theorem d_Modu_init_47 : decode prog_9_method_1_code 47 = .ok (.sipush 1089, 3) := by decide +kernel
theorem d_Modu_init_50 : decode prog_9_method_1_code 50 = .ok (.newarray .int, 2) := by decide +kernel
theorem d_Modu_init_52 : decode prog_9_method_1_code 52 = .ok (.putfield 25, 3) := by decide +kernel
theorem d_Modu_init_55 : decode prog_9_method_1_code 55 = .ok (.aload_n 0, 1) := by decide +kernel
theorem d_Modu_init_56 : decode prog_9_method_1_code 56 = .ok (.bipush 33, 2) := by decide +kernel
theorem d_Modu_init_58 : decode prog_9_method_1_code 58 = .ok (.newarray .int, 2) := by decide +kernel
theorem d_Modu_init_60 : decode prog_9_method_1_code 60 = .ok (.putfield 28, 3) := by decide +kernel
theorem d_Modu_init_63 : decode prog_9_method_1_code 63 = .ok (.aload_n 0, 1) := by decide +kernel
theorem d_Modu_init_64 : decode prog_9_method_1_code 64 = .ok (.bipush 33, 2) := by decide +kernel
theorem d_Modu_init_66 : decode prog_9_method_1_code 66 = .ok (.newarray .int, 2) := by decide +kernel
theorem d_Modu_init_68 : decode prog_9_method_1_code 68 = .ok (.putfield 31, 3) := by decide +kernel
theorem d_Modu_init_71 : decode prog_9_method_1_code 71 = .ok (.aload_n 0, 1) := by decide +kernel
theorem d_Modu_init_72 : decode prog_9_method_1_code 72 = .ok (.bipush 32, 2) := by decide +kernel
theorem d_Modu_init_74 : decode prog_9_method_1_code 74 = .ok (.newarray .int, 2) := by decide +kernel
theorem d_Modu_init_76 : decode prog_9_method_1_code 76 = .ok (.putfield 34, 3) := by decide +kernel
theorem d_Modu_init_79 : decode prog_9_method_1_code 79 = .ok (.aload_n 0, 1) := by decide +kernel
theorem d_Modu_init_80 : decode prog_9_method_1_code 80 = .ok (.bipush 32, 2) := by decide +kernel
theorem d_Modu_init_82 : decode prog_9_method_1_code 82 = .ok (.newarray .int, 2) := by decide +kernel
theorem d_Modu_init_84 : decode prog_9_method_1_code 84 = .ok (.putfield 37, 3) := by decide +kernel
theorem d_Modu_init_87 : decode prog_9_method_1_code 87 = .ok (.aload_n 0, 1) := by decide +kernel
theorem d_Modu_init_88 : decode prog_9_method_1_code 88 = .ok (.bipush 32, 2) := by decide +kernel
theorem d_Modu_init_90 : decode prog_9_method_1_code 90 = .ok (.newarray .int, 2) := by decide +kernel
theorem d_Modu_init_92 : decode prog_9_method_1_code 92 = .ok (.putfield 40, 3) := by decide +kernel
theorem d_Modu_init_95 : decode prog_9_method_1_code 95 = .ok (.aload_n 0, 1) := by decide +kernel
theorem d_Modu_init_96 : decode prog_9_method_1_code 96 = .ok (.bipush 32, 2) := by decide +kernel
theorem d_Modu_init_98 : decode prog_9_method_1_code 98 = .ok (.newarray .int, 2) := by decide +kernel
theorem d_Modu_init_100 : decode prog_9_method_1_code 100 = .ok (.putfield 43, 3) := by decide +kernel
theorem d_Modu_init_103 : decode prog_9_method_1_code 103 = .ok (.return_, 1) := by decide +kernel
theorem d_Poly_init_0 : decode prog_11_method_1_code 0 = .ok (.aload_n 0, 1) := by decide +kernel
theorem d_Poly_init_1 : decode prog_11_method_1_code 1 = .ok (.invokespecial 1, 3) := by decide +kernel
theorem d_Poly_init_4 : decode prog_11_method_1_code 4 = .ok (.aload_n 0, 1) := by decide +kernel
theorem d_Poly_init_5 : decode prog_11_method_1_code 5 = .ok (.new 7, 3) := by decide +kernel
theorem d_Poly_init_8 : decode prog_11_method_1_code 8 = .ok (.dup, 1) := by decide +kernel
theorem d_Poly_init_9 : decode prog_11_method_1_code 9 = .ok (.invokespecial 9, 3) := by decide +kernel
theorem d_Poly_init_12 : decode prog_11_method_1_code 12 = .ok (.putfield 10, 3) := by decide +kernel
theorem d_Poly_init_15 : decode prog_11_method_1_code 15 = .ok (.aload_n 0, 1) := by decide +kernel
theorem d_Poly_init_16 : decode prog_11_method_1_code 16 = .ok (.new 16, 3) := by decide +kernel
theorem d_Poly_init_19 : decode prog_11_method_1_code 19 = .ok (.dup, 1) := by decide +kernel
theorem d_Poly_init_20 : decode prog_11_method_1_code 20 = .ok (.invokespecial 18, 3) := by decide +kernel
theorem d_Poly_init_23 : decode prog_11_method_1_code 23 = .ok (.putfield 19, 3) := by decide +kernel
theorem d_Poly_init_26 : decode prog_11_method_1_code 26 = .ok (.aload_n 0, 1) := by decide +kernel
theorem d_Poly_init_27 : decode prog_11_method_1_code 27 = .ok (.new 16, 3) := by decide +kernel
theorem d_Poly_init_30 : decode prog_11_method_1_code 30 = .ok (.dup, 1) := by decide +kernel
theorem d_Poly_init_31 : decode prog_11_method_1_code 31 = .ok (.invokespecial 18, 3) := by decide +kernel
theorem d_Poly_init_34 : decode prog_11_method_1_code 34 = .ok (.putfield 23, 3) := by decide +kernel
theorem d_Poly_init_37 : decode prog_11_method_1_code 37 = .ok (.aload_n 0, 1) := by decide +kernel
theorem d_Poly_init_38 : decode prog_11_method_1_code 38 = .ok (.new 26, 3) := by decide +kernel
theorem d_Poly_init_41 : decode prog_11_method_1_code 41 = .ok (.dup, 1) := by decide +kernel
theorem d_Poly_init_42 : decode prog_11_method_1_code 42 = .ok (.invokespecial 28, 3) := by decide +kernel
theorem d_Poly_init_45 : decode prog_11_method_1_code 45 = .ok (.putfield 29, 3) := by decide +kernel
theorem d_Poly_init_48 : decode prog_11_method_1_code 48 = .ok (.aload_n 0, 1) := by decide +kernel
theorem d_Poly_init_49 : decode prog_11_method_1_code 49 = .ok (.bipush 32, 2) := by decide +kernel
theorem d_Poly_init_51 : decode prog_11_method_1_code 51 = .ok (.newarray .int, 2) := by decide +kernel
theorem d_Poly_init_53 : decode prog_11_method_1_code 53 = .ok (.putfield 33, 3) := by decide +kernel
theorem d_Poly_init_56 : decode prog_11_method_1_code 56 = .ok (.aload_n 0, 1) := by decide +kernel
theorem d_Poly_init_57 : decode prog_11_method_1_code 57 = .ok (.new 16, 3) := by decide +kernel
theorem d_Poly_init_60 : decode prog_11_method_1_code 60 = .ok (.dup, 1) := by decide +kernel
theorem d_Poly_init_61 : decode prog_11_method_1_code 61 = .ok (.invokespecial 18, 3) := by decide +kernel
theorem d_Poly_init_64 : decode prog_11_method_1_code 64 = .ok (.putfield 37, 3) := by decide +kernel
theorem d_Poly_init_67 : decode prog_11_method_1_code 67 = .ok (.aload_n 0, 1) := by decide +kernel
theorem d_Poly_init_68 : decode prog_11_method_1_code 68 = .ok (.new 26, 3) := by decide +kernel
theorem d_Poly_init_71 : decode prog_11_method_1_code 71 = .ok (.dup, 1) := by decide +kernel
theorem d_Poly_init_72 : decode prog_11_method_1_code 72 = .ok (.invokespecial 28, 3) := by decide +kernel
theorem d_Poly_init_75 : decode prog_11_method_1_code 75 = .ok (.putfield 40, 3) := by decide +kernel
theorem d_Poly_init_78 : decode prog_11_method_1_code 78 = .ok (.aload_n 0, 1) := by decide +kernel
theorem d_Poly_init_79 : decode prog_11_method_1_code 79 = .ok (.new 26, 3) := by decide +kernel
theorem d_Poly_init_82 : decode prog_11_method_1_code 82 = .ok (.dup, 1) := by decide +kernel
theorem d_Poly_init_83 : decode prog_11_method_1_code 83 = .ok (.invokespecial 28, 3) := by decide +kernel
theorem d_Poly_init_86 : decode prog_11_method_1_code 86 = .ok (.putfield 43, 3) := by decide +kernel
theorem d_Poly_init_89 : decode prog_11_method_1_code 89 = .ok (.return_, 1) := by decide +kernel
theorem d_Maker_init_0 : decode prog_7_method_1_code 0 = .ok (.aload_n 0, 1) := by decide +kernel
theorem d_Maker_init_1 : decode prog_7_method_1_code 1 = .ok (.invokespecial 1, 3) := by decide +kernel
theorem d_Maker_init_4 : decode prog_7_method_1_code 4 = .ok (.aload_n 0, 1) := by decide +kernel
theorem d_Maker_init_5 : decode prog_7_method_1_code 5 = .ok (.new 7, 3) := by decide +kernel
theorem d_Maker_init_8 : decode prog_7_method_1_code 8 = .ok (.dup, 1) := by decide +kernel
theorem d_Maker_init_9 : decode prog_7_method_1_code 9 = .ok (.invokespecial 9, 3) := by decide +kernel
theorem d_Maker_init_12 : decode prog_7_method_1_code 12 = .ok (.putfield 10, 3) := by decide +kernel
theorem d_Maker_init_15 : decode prog_7_method_1_code 15 = .ok (.aload_n 0, 1) := by decide +kernel
theorem d_Maker_init_16 : decode prog_7_method_1_code 16 = .ok (.new 16, 3) := by decide +kernel
theorem d_Maker_init_19 : decode prog_7_method_1_code 19 = .ok (.dup, 1) := by decide +kernel
theorem d_Maker_init_20 : decode prog_7_method_1_code 20 = .ok (.invokespecial 18, 3) := by decide +kernel
theorem d_Maker_init_23 : decode prog_7_method_1_code 23 = .ok (.putfield 19, 3) := by decide +kernel
theorem d_Maker_init_26 : decode prog_7_method_1_code 26 = .ok (.aload_n 0, 1) := by decide +kernel
theorem d_Maker_init_27 : decode prog_7_method_1_code 27 = .ok (.aload_n 0, 1) := by decide +kernel
theorem d_Maker_init_28 : decode prog_7_method_1_code 28 = .ok (.getfield 19, 3) := by decide +kernel
theorem d_Maker_init_31 : decode prog_7_method_1_code 31 = .ok (.getfield 23, 3) := by decide +kernel
theorem d_Maker_init_34 : decode prog_7_method_1_code 34 = .ok (.putfield 27, 3) := by decide +kernel
theorem d_Maker_init_37 : decode prog_7_method_1_code 37 = .ok (.aload_n 0, 1) := by decide +kernel
theorem d_Maker_init_38 : decode prog_7_method_1_code 38 = .ok (.new 28, 3) := by decide +kernel
theorem d_Maker_init_41 : decode prog_7_method_1_code 41 = .ok (.dup, 1) := by decide +kernel
theorem d_Maker_init_42 : decode prog_7_method_1_code 42 = .ok (.invokespecial 30, 3) := by decide +kernel
theorem d_Maker_init_45 : decode prog_7_method_1_code 45 = .ok (.putfield 31, 3) := by decide +kernel
theorem d_Maker_init_48 : decode prog_7_method_1_code 48 = .ok (.aload_n 0, 1) := by decide +kernel
theorem d_Maker_init_49 : decode prog_7_method_1_code 49 = .ok (.aload_n 0, 1) := by decide +kernel
theorem d_Maker_init_50 : decode prog_7_method_1_code 50 = .ok (.getfield 27, 3) := by decide +kernel
theorem d_Maker_init_53 : decode prog_7_method_1_code 53 = .ok (.getfield 35, 3) := by decide +kernel
theorem d_Maker_init_56 : decode prog_7_method_1_code 56 = .ok (.putfield 41, 3) := by decide +kernel
theorem d_Maker_init_59 : decode prog_7_method_1_code 59 = .ok (.aload_n 0, 1) := by decide +kernel
theorem d_Maker_init_60 : decode prog_7_method_1_code 60 = .ok (.new 42, 3) := by decide +kernel
theorem d_Maker_init_63 : decode prog_7_method_1_code 63 = .ok (.dup, 1) := by decide +kernel
theorem d_Maker_init_64 : decode prog_7_method_1_code 64 = .ok (.invokespecial 44, 3) := by decide +kernel
theorem d_Maker_init_67 : decode prog_7_method_1_code 67 = .ok (.putfield 45, 3) := by decide +kernel
theorem d_Maker_init_70 : decode prog_7_method_1_code 70 = .ok (.aload_n 0, 1) := by decide +kernel
theorem d_Maker_init_71 : decode prog_7_method_1_code 71 = .ok (.new 42, 3) := by decide +kernel
theorem d_Maker_init_74 : decode prog_7_method_1_code 74 = .ok (.dup, 1) := by decide +kernel
theorem d_Maker_init_75 : decode prog_7_method_1_code 75 = .ok (.invokespecial 44, 3) := by decide +kernel
theorem d_Maker_init_78 : decode prog_7_method_1_code 78 = .ok (.putfield 49, 3) := by decide +kernel
theorem d_Maker_init_81 : decode prog_7_method_1_code 81 = .ok (.aload_n 0, 1) := by decide +kernel
theorem d_Maker_init_82 : decode prog_7_method_1_code 82 = .ok (.new 42, 3) := by decide +kernel
theorem d_Maker_init_85 : decode prog_7_method_1_code 85 = .ok (.dup, 1) := by decide +kernel
theorem d_Maker_init_86 : decode prog_7_method_1_code 86 = .ok (.invokespecial 44, 3) := by decide +kernel
theorem d_Maker_init_89 : decode prog_7_method_1_code 89 = .ok (.putfield 52, 3) := by decide +kernel
theorem d_Maker_init_92 : decode prog_7_method_1_code 92 = .ok (.aload_n 0, 1) := by decide +kernel
theorem d_Maker_init_93 : decode prog_7_method_1_code 93 = .ok (.new 55, 3) := by decide +kernel
theorem d_Maker_init_96 : decode prog_7_method_1_code 96 = .ok (.dup, 1) := by decide +kernel
theorem d_Maker_init_97 : decode prog_7_method_1_code 97 = .ok (.invokespecial 57, 3) := by decide +kernel
theorem d_Maker_init_100 : decode prog_7_method_1_code 100 = .ok (.putfield 58, 3) := by decide +kernel
theorem d_Maker_init_103 : decode prog_7_method_1_code 103 = .ok (.aload_n 0, 1) := by decide +kernel
theorem d_Maker_init_104 : decode prog_7_method_1_code 104 = .ok (.new 55, 3) := by decide +kernel
theorem d_Maker_init_107 : decode prog_7_method_1_code 107 = .ok (.dup, 1) := by decide +kernel
theorem d_Maker_init_108 : decode prog_7_method_1_code 108 = .ok (.invokespecial 57, 3) := by decide +kernel
theorem d_Maker_init_111 : decode prog_7_method_1_code 111 = .ok (.putfield 62, 3) := by decide +kernel
theorem d_Maker_init_114 : decode prog_7_method_1_code 114 = .ok (.aload_n 0, 1) := by decide +kernel
theorem d_Maker_init_115 : decode prog_7_method_1_code 115 = .ok (.new 55, 3) := by decide +kernel
theorem d_Maker_init_118 : decode prog_7_method_1_code 118 = .ok (.dup, 1) := by decide +kernel
theorem d_Maker_init_119 : decode prog_7_method_1_code 119 = .ok (.invokespecial 57, 3) := by decide +kernel
theorem d_Maker_init_122 : decode prog_7_method_1_code 122 = .ok (.putfield 65, 3) := by decide +kernel
theorem d_Maker_init_125 : decode prog_7_method_1_code 125 = .ok (.return_, 1) := by decide +kernel
theorem d_Script_init_0 : decode prog_12_method_1_code 0 = .ok (.aload_n 0, 1) := by decide +kernel
theorem d_Script_init_1 : decode prog_12_method_1_code 1 = .ok (.invokespecial 3, 3) := by decide +kernel
theorem d_Script_init_4 : decode prog_12_method_1_code 4 = .ok (.aload_n 0, 1) := by decide +kernel
theorem d_Script_init_5 : decode prog_12_method_1_code 5 = .ok (.new 9, 3) := by decide +kernel
theorem d_Script_init_8 : decode prog_12_method_1_code 8 = .ok (.dup, 1) := by decide +kernel
theorem d_Script_init_9 : decode prog_12_method_1_code 9 = .ok (.invokespecial 11, 3) := by decide +kernel
theorem d_Script_init_12 : decode prog_12_method_1_code 12 = .ok (.putfield 12, 3) := by decide +kernel
theorem d_Script_init_15 : decode prog_12_method_1_code 15 = .ok (.aload_n 0, 1) := by decide +kernel
theorem d_Script_init_16 : decode prog_12_method_1_code 16 = .ok (.new 18, 3) := by decide +kernel
theorem d_Script_init_19 : decode prog_12_method_1_code 19 = .ok (.dup, 1) := by decide +kernel
theorem d_Script_init_20 : decode prog_12_method_1_code 20 = .ok (.invokespecial 20, 3) := by decide +kernel
theorem d_Script_init_23 : decode prog_12_method_1_code 23 = .ok (.putfield 21, 3) := by decide +kernel
theorem d_Script_init_26 : decode prog_12_method_1_code 26 = .ok (.aload_n 0, 1) := by decide +kernel
theorem d_Script_init_27 : decode prog_12_method_1_code 27 = .ok (.new 25, 3) := by decide +kernel
theorem d_Script_init_30 : decode prog_12_method_1_code 30 = .ok (.dup, 1) := by decide +kernel
theorem d_Script_init_31 : decode prog_12_method_1_code 31 = .ok (.invokespecial 27, 3) := by decide +kernel
theorem d_Script_init_34 : decode prog_12_method_1_code 34 = .ok (.putfield 28, 3) := by decide +kernel
theorem d_Script_init_37 : decode prog_12_method_1_code 37 = .ok (.aload_n 0, 1) := by decide +kernel
theorem d_Script_init_38 : decode prog_12_method_1_code 38 = .ok (.iconst (-1), 1) := by decide +kernel
theorem d_Script_init_39 : decode prog_12_method_1_code 39 = .ok (.putfield 32, 3) := by decide +kernel
theorem d_Script_init_42 : decode prog_12_method_1_code 42 = .ok (.aload_n 0, 1) := by decide +kernel
theorem d_Script_init_43 : decode prog_12_method_1_code 43 = .ok (.new 36, 3) := by decide +kernel
theorem d_Script_init_46 : decode prog_12_method_1_code 46 = .ok (.dup, 1) := by decide +kernel
theorem d_Script_init_47 : decode prog_12_method_1_code 47 = .ok (.invokespecial 38, 3) := by decide +kernel
theorem d_Script_init_50 : decode prog_12_method_1_code 50 = .ok (.putfield 39, 3) := by decide +kernel
theorem d_Script_init_53 : decode prog_12_method_1_code 53 = .ok (.aload_n 0, 1) := by decide +kernel
theorem d_Script_init_54 : decode prog_12_method_1_code 54 = .ok (.aload_n 0, 1) := by decide +kernel
theorem d_Script_init_55 : decode prog_12_method_1_code 55 = .ok (.getfield 39, 3) := by decide +kernel
theorem d_Script_init_58 : decode prog_12_method_1_code 58 = .ok (.getfield 43, 3) := by decide +kernel
theorem d_Script_init_61 : decode prog_12_method_1_code 61 = .ok (.putfield 46, 3) := by decide +kernel
theorem d_Script_init_64 : decode prog_12_method_1_code 64 = .ok (.aload_n 0, 1) := by decide +kernel
theorem d_Script_init_65 : decode prog_12_method_1_code 65 = .ok (.bipush 10, 2) := by decide +kernel
theorem d_Script_init_67 : decode prog_12_method_1_code 67 = .ok (.newarray .int, 2) := by decide +kernel
theorem d_Script_init_69 : decode prog_12_method_1_code 69 = .ok (.putfield 47, 3) := by decide +kernel
theorem d_Script_init_72 : decode prog_12_method_1_code 72 = .ok (.aload_n 0, 1) := by decide +kernel
theorem d_Script_init_73 : decode prog_12_method_1_code 73 = .ok (.sipush 160, 3) := by decide +kernel
theorem d_Script_init_76 : decode prog_12_method_1_code 76 = .ok (.newarray .int, 2) := by decide +kernel
theorem d_Script_init_78 : decode prog_12_method_1_code 78 = .ok (.putfield 51, 3) := by decide +kernel
theorem d_Script_init_81 : decode prog_12_method_1_code 81 = .ok (.aload_n 0, 1) := by decide +kernel
theorem d_Script_init_82 : decode prog_12_method_1_code 82 = .ok (.iconst 4, 1) := by decide +kernel
theorem d_Script_init_83 : decode prog_12_method_1_code 83 = .ok (.newarray .long, 2) := by decide +kernel
theorem d_Script_init_85 : decode prog_12_method_1_code 85 = .ok (.putfield 54, 3) := by decide +kernel
theorem d_Script_init_88 : decode prog_12_method_1_code 88 = .ok (.aload_n 0, 1) := by decide +kernel
theorem d_Script_init_89 : decode prog_12_method_1_code 89 = .ok (.bipush 64, 2) := by decide +kernel
theorem d_Script_init_91 : decode prog_12_method_1_code 91 = .ok (.newarray .int, 2) := by decide +kernel
theorem d_Script_init_93 : decode prog_12_method_1_code 93 = .ok (.putfield 58, 3) := by decide +kernel
theorem d_Script_init_96 : decode prog_12_method_1_code 96 = .ok (.return_, 1) := by decide +kernel
theorem d_Ms_init_0 : decode prog_1_method_1_code 0 = .ok (.aload_n 0, 1) := by decide +kernel
theorem d_Ms_init_1 : decode prog_1_method_1_code 1 = .ok (.invokespecial 1, 3) := by decide +kernel
theorem d_Ms_init_4 : decode prog_1_method_1_code 4 = .ok (.aload_n 0, 1) := by decide +kernel
theorem d_Ms_init_5 : decode prog_1_method_1_code 5 = .ok (.new 7, 3) := by decide +kernel
theorem d_Ms_init_8 : decode prog_1_method_1_code 8 = .ok (.dup, 1) := by decide +kernel
theorem d_Ms_init_9 : decode prog_1_method_1_code 9 = .ok (.invokespecial 9, 3) := by decide +kernel
theorem d_Ms_init_12 : decode prog_1_method_1_code 12 = .ok (.putfield 10, 3) := by decide +kernel
theorem d_Ms_init_15 : decode prog_1_method_1_code 15 = .ok (.aload_n 0, 1) := by decide +kernel
theorem d_Ms_init_16 : decode prog_1_method_1_code 16 = .ok (.aload_n 0, 1) := by decide +kernel
theorem d_Ms_init_17 : decode prog_1_method_1_code 17 = .ok (.getfield 10, 3) := by decide +kernel
theorem d_Ms_init_20 : decode prog_1_method_1_code 20 = .ok (.getfield 16, 3) := by decide +kernel
theorem d_Ms_init_23 : decode prog_1_method_1_code 23 = .ok (.putfield 20, 3) := by decide +kernel
theorem d_Ms_init_26 : decode prog_1_method_1_code 26 = .ok (.aload_n 0, 1) := by decide +kernel
theorem d_Ms_init_27 : decode prog_1_method_1_code 27 = .ok (.aload_n 0, 1) := by decide +kernel
theorem d_Ms_init_28 : decode prog_1_method_1_code 28 = .ok (.getfield 10, 3) := by decide +kernel
theorem d_Ms_init_31 : decode prog_1_method_1_code 31 = .ok (.getfield 21, 3) := by decide +kernel
theorem d_Ms_init_34 : decode prog_1_method_1_code 34 = .ok (.putfield 25, 3) := by decide +kernel
theorem d_Ms_init_37 : decode prog_1_method_1_code 37 = .ok (.return_, 1) := by decide +kernel
theorem d_Whs_init_0 : decode prog_20_method_1_code 0 = .ok (.aload_n 0, 1) := by decide +kernel
theorem d_Whs_init_1 : decode prog_20_method_1_code 1 = .ok (.invokespecial 1, 3) := by decide +kernel
theorem d_Whs_init_4 : decode prog_20_method_1_code 4 = .ok (.aload_n 0, 1) := by decide +kernel
theorem d_Whs_init_5 : decode prog_20_method_1_code 5 = .ok (.sipush 4096, 3) := by decide +kernel
theorem d_Whs_init_8 : decode prog_20_method_1_code 8 = .ok (.newarray .int, 2) := by decide +kernel
theorem d_Whs_init_10 : decode prog_20_method_1_code 10 = .ok (.putfield 7, 3) := by decide +kernel
theorem d_Whs_init_13 : decode prog_20_method_1_code 13 = .ok (.aload_n 0, 1) := by decide +kernel
theorem d_Whs_init_14 : decode prog_20_method_1_code 14 = .ok (.iconst 1, 1) := by decide +kernel
theorem d_Whs_init_15 : decode prog_20_method_1_code 15 = .ok (.putfield 13, 3) := by decide +kernel
theorem d_Whs_init_18 : decode prog_20_method_1_code 18 = .ok (.return_, 1) := by decide +kernel
theorem d_Frac_init_0 : decode prog_19_method_1_code 0 = .ok (.aload_n 0, 1) := by decide +kernel
theorem d_Frac_init_1 : decode prog_19_method_1_code 1 = .ok (.invokespecial 1, 3) := by decide +kernel
theorem d_Frac_init_4 : decode prog_19_method_1_code 4 = .ok (.aload_n 0, 1) := by decide +kernel
theorem d_Frac_init_5 : decode prog_19_method_1_code 5 = .ok (.new 7, 3) := by decide +kernel
theorem d_Frac_init_8 : decode prog_19_method_1_code 8 = .ok (.dup, 1) := by decide +kernel
theorem d_Frac_init_9 : decode prog_19_method_1_code 9 = .ok (.invokespecial 9, 3) := by decide +kernel
theorem d_Frac_init_12 : decode prog_19_method_1_code 12 = .ok (.putfield 10, 3) := by decide +kernel
theorem d_Frac_init_15 : decode prog_19_method_1_code 15 = .ok (.aload_n 0, 1) := by decide +kernel
theorem d_Frac_init_16 : decode prog_19_method_1_code 16 = .ok (.sipush 4096, 3) := by decide +kernel
theorem d_Frac_init_19 : decode prog_19_method_1_code 19 = .ok (.newarray .int, 2) := by decide +kernel
theorem d_Frac_init_21 : decode prog_19_method_1_code 21 = .ok (.putfield 16, 3) := by decide +kernel
theorem d_Frac_init_24 : decode prog_19_method_1_code 24 = .ok (.aload_n 0, 1) := by decide +kernel
theorem d_Frac_init_25 : decode prog_19_method_1_code 25 = .ok (.bipush 64, 2) := by decide +kernel
theorem d_Frac_init_27 : decode prog_19_method_1_code 27 = .ok (.newarray .int, 2) := by decide +kernel
theorem d_Frac_init_29 : decode prog_19_method_1_code 29 = .ok (.putfield 20, 3) := by decide +kernel
theorem d_Frac_init_32 : decode prog_19_method_1_code 32 = .ok (.aload_n 0, 1) := by decide +kernel
theorem d_Frac_init_33 : decode prog_19_method_1_code 33 = .ok (.getfield 10, 3) := by decide +kernel
theorem d_Frac_init_36 : decode prog_19_method_1_code 36 = .ok (.getfield 23, 3) := by decide +kernel
theorem d_Frac_init_39 : decode prog_19_method_1_code 39 = .ok (.iconst 1, 1) := by decide +kernel
theorem d_Frac_init_40 : decode prog_19_method_1_code 40 = .ok (.iconst 1, 1) := by decide +kernel
theorem d_Frac_init_41 : decode prog_19_method_1_code 41 = .ok (.iastore, 1) := by decide +kernel
theorem d_Frac_init_42 : decode prog_19_method_1_code 42 = .ok (.aload_n 0, 1) := by decide +kernel
theorem d_Frac_init_43 : decode prog_19_method_1_code 43 = .ok (.getfield 10, 3) := by decide +kernel
theorem d_Frac_init_46 : decode prog_19_method_1_code 46 = .ok (.getfield 23, 3) := by decide +kernel
theorem d_Frac_init_49 : decode prog_19_method_1_code 49 = .ok (.iconst 2, 1) := by decide +kernel
theorem d_Frac_init_50 : decode prog_19_method_1_code 50 = .ok (.iconst 1, 1) := by decide +kernel
theorem d_Frac_init_51 : decode prog_19_method_1_code 51 = .ok (.iastore, 1) := by decide +kernel
theorem d_Frac_init_52 : decode prog_19_method_1_code 52 = .ok (.aload_n 0, 1) := by decide +kernel
theorem d_Frac_init_53 : decode prog_19_method_1_code 53 = .ok (.getfield 10, 3) := by decide +kernel
theorem d_Frac_init_56 : decode prog_19_method_1_code 56 = .ok (.iconst 3, 1) := by decide +kernel
theorem d_Frac_init_57 : decode prog_19_method_1_code 57 = .ok (.putfield 26, 3) := by decide +kernel
theorem d_Frac_init_60 : decode prog_19_method_1_code 60 = .ok (.return_, 1) := by decide +kernel
theorem d_Forms_init_0 : decode prog_18_method_1_code 0 = .ok (.aload_n 0, 1) := by decide +kernel
theorem d_Forms_init_1 : decode prog_18_method_1_code 1 = .ok (.invokespecial 3, 3) := by decide +kernel
theorem d_Forms_init_4 : decode prog_18_method_1_code 4 = .ok (.aload_n 0, 1) := by decide +kernel
theorem d_Forms_init_5 : decode prog_18_method_1_code 5 = .ok (.sipush 8192, 3) := by decide +kernel
theorem d_Forms_init_8 : decode prog_18_method_1_code 8 = .ok (.newarray .long, 2) := by decide +kernel
theorem d_Forms_init_10 : decode prog_18_method_1_code 10 = .ok (.putfield 9, 3) := by decide +kernel
theorem d_Forms_init_13 : decode prog_18_method_1_code 13 = .ok (.aload_n 0, 1) := by decide +kernel
theorem d_Forms_init_14 : decode prog_18_method_1_code 14 = .ok (.bipush 64, 2) := by decide +kernel
theorem d_Forms_init_16 : decode prog_18_method_1_code 16 = .ok (.newarray .int, 2) := by decide +kernel
theorem d_Forms_init_18 : decode prog_18_method_1_code 18 = .ok (.putfield 15, 3) := by decide +kernel
theorem d_Forms_init_21 : decode prog_18_method_1_code 21 = .ok (.aload_n 0, 1) := by decide +kernel
theorem d_Forms_init_22 : decode prog_18_method_1_code 22 = .ok (.bipush 64, 2) := by decide +kernel
theorem d_Forms_init_24 : decode prog_18_method_1_code 24 = .ok (.newarray .int, 2) := by decide +kernel
theorem d_Forms_init_26 : decode prog_18_method_1_code 26 = .ok (.putfield 19, 3) := by decide +kernel
theorem d_Forms_init_29 : decode prog_18_method_1_code 29 = .ok (.aload_n 0, 1) := by decide +kernel
theorem d_Forms_init_30 : decode prog_18_method_1_code 30 = .ok (.bipush 64, 2) := by decide +kernel
theorem d_Forms_init_32 : decode prog_18_method_1_code 32 = .ok (.newarray .int, 2) := by decide +kernel
theorem d_Forms_init_34 : decode prog_18_method_1_code 34 = .ok (.putfield 22, 3) := by decide +kernel
theorem d_Forms_init_37 : decode prog_18_method_1_code 37 = .ok (.aload_n 0, 1) := by decide +kernel
theorem d_Forms_init_38 : decode prog_18_method_1_code 38 = .ok (.bipush 64, 2) := by decide +kernel
theorem d_Forms_init_40 : decode prog_18_method_1_code 40 = .ok (.newarray .int, 2) := by decide +kernel
theorem d_Forms_init_42 : decode prog_18_method_1_code 42 = .ok (.putfield 25, 3) := by decide +kernel
theorem d_Forms_init_45 : decode prog_18_method_1_code 45 = .ok (.aload_n 0, 1) := by decide +kernel
theorem d_Forms_init_46 : decode prog_18_method_1_code 46 = .ok (.aload_n 1, 1) := by decide +kernel
theorem d_Forms_init_47 : decode prog_18_method_1_code 47 = .ok (.putfield 28, 3) := by decide +kernel
theorem d_Forms_init_50 : decode prog_18_method_1_code 50 = .ok (.aload_n 0, 1) := by decide +kernel
theorem d_Forms_init_51 : decode prog_18_method_1_code 51 = .ok (.aload_n 1, 1) := by decide +kernel
theorem d_Forms_init_52 : decode prog_18_method_1_code 52 = .ok (.getfield 32, 3) := by decide +kernel
theorem d_Forms_init_55 : decode prog_18_method_1_code 55 = .ok (.putfield 38, 3) := by decide +kernel
theorem d_Forms_init_58 : decode prog_18_method_1_code 58 = .ok (.return_, 1) := by decide +kernel
theorem d_Mdl_init_0 : decode prog_17_method_1_code 0 = .ok (.aload_n 0, 1) := by decide +kernel
theorem d_Mdl_init_1 : decode prog_17_method_1_code 1 = .ok (.invokespecial 1, 3) := by decide +kernel
theorem d_Mdl_init_4 : decode prog_17_method_1_code 4 = .ok (.aload_n 0, 1) := by decide +kernel
theorem d_Mdl_init_5 : decode prog_17_method_1_code 5 = .ok (.ldc 9, 2) := by decide +kernel
theorem d_Mdl_init_7 : decode prog_17_method_1_code 7 = .ok (.newarray .byte, 2) := by decide +kernel
theorem d_Mdl_init_9 : decode prog_17_method_1_code 9 = .ok (.putfield 10, 3) := by decide +kernel
theorem d_Mdl_init_12 : decode prog_17_method_1_code 12 = .ok (.aload_n 0, 1) := by decide +kernel
theorem d_Mdl_init_13 : decode prog_17_method_1_code 13 = .ok (.new 14, 3) := by decide +kernel
theorem d_Mdl_init_16 : decode prog_17_method_1_code 16 = .ok (.dup, 1) := by decide +kernel
theorem d_Mdl_init_17 : decode prog_17_method_1_code 17 = .ok (.invokespecial 16, 3) := by decide +kernel
theorem d_Mdl_init_20 : decode prog_17_method_1_code 20 = .ok (.putfield 17, 3) := by decide +kernel
theorem d_Mdl_init_23 : decode prog_17_method_1_code 23 = .ok (.aload_n 0, 1) := by decide +kernel
theorem d_Mdl_init_24 : decode prog_17_method_1_code 24 = .ok (.new 21, 3) := by decide +kernel
theorem d_Mdl_init_27 : decode prog_17_method_1_code 27 = .ok (.dup, 1) := by decide +kernel
theorem d_Mdl_init_28 : decode prog_17_method_1_code 28 = .ok (.aload_n 0, 1) := by decide +kernel
theorem d_Mdl_init_29 : decode prog_17_method_1_code 29 = .ok (.getfield 17, 3) := by decide +kernel
theorem d_Mdl_init_32 : decode prog_17_method_1_code 32 = .ok (.invokespecial 23, 3) := by decide +kernel
theorem d_Mdl_init_35 : decode prog_17_method_1_code 35 = .ok (.putfield 26, 3) := by decide +kernel
theorem d_Mdl_init_38 : decode prog_17_method_1_code 38 = .ok (.aload_n 0, 1) := by decide +kernel
theorem d_Mdl_init_39 : decode prog_17_method_1_code 39 = .ok (.new 14, 3) := by decide +kernel
theorem d_Mdl_init_42 : decode prog_17_method_1_code 42 = .ok (.dup, 1) := by decide +kernel
theorem d_Mdl_init_43 : decode prog_17_method_1_code 43 = .ok (.invokespecial 16, 3) := by decide +kernel
theorem d_Mdl_init_46 : decode prog_17_method_1_code 46 = .ok (.putfield 30, 3) := by decide +kernel
theorem d_Mdl_init_49 : decode prog_17_method_1_code 49 = .ok (.aload_n 0, 1) := by decide +kernel
theorem d_Mdl_init_50 : decode prog_17_method_1_code 50 = .ok (.new 14, 3) := by decide +kernel
theorem d_Mdl_init_53 : decode prog_17_method_1_code 53 = .ok (.dup, 1) := by decide +kernel
theorem d_Mdl_init_54 : decode prog_17_method_1_code 54 = .ok (.invokespecial 16, 3) := by decide +kernel
theorem d_Mdl_init_57 : decode prog_17_method_1_code 57 = .ok (.putfield 33, 3) := by decide +kernel
theorem d_Mdl_init_60 : decode prog_17_method_1_code 60 = .ok (.aload_n 0, 1) := by decide +kernel
theorem d_Mdl_init_61 : decode prog_17_method_1_code 61 = .ok (.sipush 8200, 3) := by decide +kernel
theorem d_Mdl_init_64 : decode prog_17_method_1_code 64 = .ok (.newarray .byte, 2) := by decide +kernel
theorem d_Mdl_init_66 : decode prog_17_method_1_code 66 = .ok (.putfield 36, 3) := by decide +kernel
theorem d_Mdl_init_69 : decode prog_17_method_1_code 69 = .ok (.aload_n 0, 1) := by decide +kernel
theorem d_Mdl_init_70 : decode prog_17_method_1_code 70 = .ok (.sipush 200, 3) := by decide +kernel
theorem d_Mdl_init_73 : decode prog_17_method_1_code 73 = .ok (.newarray .int, 2) := by decide +kernel
theorem d_Mdl_init_75 : decode prog_17_method_1_code 75 = .ok (.putfield 39, 3) := by decide +kernel
theorem d_Mdl_init_78 : decode prog_17_method_1_code 78 = .ok (.aload_n 0, 1) := by decide +kernel
theorem d_Mdl_init_79 : decode prog_17_method_1_code 79 = .ok (.sipush 200, 3) := by decide +kernel
theorem d_Mdl_init_82 : decode prog_17_method_1_code 82 = .ok (.newarray .int, 2) := by decide +kernel
theorem d_Mdl_init_84 : decode prog_17_method_1_code 84 = .ok (.putfield 43, 3) := by decide +kernel
theorem d_Mdl_init_87 : decode prog_17_method_1_code 87 = .ok (.aload_n 0, 1) := by decide +kernel
theorem d_Mdl_init_88 : decode prog_17_method_1_code 88 = .ok (.sipush 200, 3) := by decide +kernel
theorem d_Mdl_init_91 : decode prog_17_method_1_code 91 = .ok (.newarray .int, 2) := by decide +kernel
theorem d_Mdl_init_93 : decode prog_17_method_1_code 93 = .ok (.putfield 46, 3) := by decide +kernel
theorem d_Mdl_init_96 : decode prog_17_method_1_code 96 = .ok (.aload_n 0, 1) := by decide +kernel
theorem d_Mdl_init_97 : decode prog_17_method_1_code 97 = .ok (.sipush 200, 3) := by decide +kernel
theorem d_Mdl_init_100 : decode prog_17_method_1_code 100 = .ok (.newarray .int, 2) := by decide +kernel
theorem d_Mdl_init_102 : decode prog_17_method_1_code 102 = .ok (.putfield 49, 3) := by decide +kernel
theorem d_Mdl_init_105 : decode prog_17_method_1_code 105 = .ok (.aload_n 0, 1) := by decide +kernel
theorem d_Mdl_init_106 : decode prog_17_method_1_code 106 = .ok (.sipush 1024, 3) := by decide +kernel
theorem d_Mdl_init_109 : decode prog_17_method_1_code 109 = .ok (.newarray .byte, 2) := by decide +kernel
theorem d_Mdl_init_111 : decode prog_17_method_1_code 111 = .ok (.putfield 52, 3) := by decide +kernel
theorem d_Mdl_init_114 : decode prog_17_method_1_code 114 = .ok (.aload_n 0, 1) := by decide +kernel
theorem d_Mdl_init_115 : decode prog_17_method_1_code 115 = .ok (.iconst (-1), 1) := by decide +kernel
theorem d_Mdl_init_116 : decode prog_17_method_1_code 116 = .ok (.putfield 55, 3) := by decide +kernel
theorem d_Mdl_init_119 : decode prog_17_method_1_code 119 = .ok (.aload_n 0, 1) := by decide +kernel
theorem d_Mdl_init_120 : decode prog_17_method_1_code 120 = .ok (.sipush 200, 3) := by decide +kernel
theorem d_Mdl_init_123 : decode prog_17_method_1_code 123 = .ok (.newarray .long, 2) := by decide +kernel
theorem d_Mdl_init_125 : decode prog_17_method_1_code 125 = .ok (.putfield 59, 3) := by decide +kernel
theorem d_Mdl_init_128 : decode prog_17_method_1_code 128 = .ok (.aload_n 0, 1) := by decide +kernel
theorem d_Mdl_init_129 : decode prog_17_method_1_code 129 = .ok (.bipush 64, 2) := by decide +kernel
theorem d_Mdl_init_131 : decode prog_17_method_1_code 131 = .ok (.newarray .int, 2) := by decide +kernel
theorem d_Mdl_init_133 : decode prog_17_method_1_code 133 = .ok (.putfield 63, 3) := by decide +kernel
theorem d_Mdl_init_136 : decode prog_17_method_1_code 136 = .ok (.aload_n 0, 1) := by decide +kernel
theorem d_Mdl_init_137 : decode prog_17_method_1_code 137 = .ok (.sipush 320, 3) := by decide +kernel
theorem d_Mdl_init_140 : decode prog_17_method_1_code 140 = .ok (.newarray .int, 2) := by decide +kernel
theorem d_Mdl_init_142 : decode prog_17_method_1_code 142 = .ok (.putfield 66, 3) := by decide +kernel
theorem d_Mdl_init_145 : decode prog_17_method_1_code 145 = .ok (.return_, 1) := by decide +kernel
end
section
abbrev S_Whole : Type := Nat
def ws_Whole (g : Nat → ClassId) (h0 : Nat) (u : S_Whole) : va_W := [(h0, .inr (11, [.ref u, .int 0, .int 0])), (u, .inl (g 0, 3, .inl (fun _ => 0)))] ++ ([] : va_W)
def w_Whole_init : List Cond := .code ⟨"MatrixScripts$Whole", "<init>", "()V"⟩ prog_15_method_1_code 1 none :: wd_all
theorem gd_Whole_init : GoodIn wd_all w_Whole_init := gd_of tw_244
set_option maxHeartbeats 4000000 in
set_option maxRecDepth 100000 in
theorem c_Whole_init (l : Launch) (D : va_G) (g : Nat → ClassId) (h0 : Nat) (sz : Nat) : Met l ⟨"MatrixScripts$Whole", "<init>", "()V"⟩ w_Whole_init { frames := 1, cells := 1, slots := 3, locals := 12 } (cp D g [.ref h0] [(h0, .inr (11, [.null, .int 0, .int 0]))] sz) (cv D (va_A [(h0, .inr (11, [.null, .int 0, .int 0]))] sz) (fun u : S_Whole => ws_Whole g h0 u)) 1 3 (va_A [(h0, .inr (11, [.null, .int 0, .int 0]))] sz) := by
  refine Met.ofW (cc := prog_15_method_1_code) (maxL := 1) (ret := none) (by decide) rfl ?_
  intro p e s m args below meth c s₁ B0 hml hv
  obtain ⟨rfl, hsz, hP, hK, hD0, hN⟩ := hv
  have hx := B0.exec
  have hb := B0.bytes
  have hr := B0.returns
  have hts := atoms_spec (ws := w_Whole_init) B0.pre
  have hT := fun (w : Cond) (h : w ∈ wd_all) => hts w (List.mem_cons_of_mem _ h)
  have hown : s.vm.findClass "MatrixScripts$Whole" = some m.cls := findClass_of_methodNamed B0.named
  have hlocks := B0.notSynchronized
  have hin : meth.name = "<init>" := (name_of_methodNamed B0.named B0.method).1
  subst hsz
  have hD := hD0.self (sz := s.heap.size)
  generalize hAe : va_A [(h0, .inr (11, [.null, .int 0, .int 0]))] s.heap.size = A at hD ⊢
  have hA : ∀ q : Nat, s.heap.size ≤ q → A q := fun q h => by rw [← hAe]; exact Or.inr h
  have hS : va_S A s.heap s.heap [] := va_S.rf
  have hP : va_P D vC ([(h0, .inr (11, [.null, .int 0, .int 0]))] ++ ([] : va_W)) s.heap := hP
  have hD : va_D A ([(h0, .inr (11, [.null, .int 0, .int 0]))] ++ ([] : va_W)) := hD
  have hl := lv_entry ([.ref h0]) (n := 1) (Nat.le_of_ble_eq_true rfl)
  rw [lg_entry_eq]
  generalize (lg_sl ([.ref h0]) ++ List.replicate (1 - (lg_sl ([.ref h0])).length) Slot.unset).toArray = ls at hl ⊢
  have hl : lv_has ls 1 [(0, .ref h0)] := hl
  refine lv_aload_n hx hb d_Whole_init_0 rfl (lv_at hl 0 rfl) ?_
  refine W.objInit hx hb hown (hT _ tw_245) (hT _ tw_199) (hT _ tw_200) rfl (by rw [hml]; exact hl.1) rfl d_Whole_init_1 (Nat.le_of_ble_eq_true rfl) (Nat.le_of_ble_eq_true rfl) ?_
  refine W.eq (g2 := F0 m 4 ls []) rfl ?_
  refine lv_aload_n hx hb d_Whole_init_4 rfl (lv_at hl 0 rfl) ?_
  refine lv_iconst (v := 3) hx hb d_Whole_init_5 (by decide) ?_
  refine pm_newi (N := 3) hx hb (hT _ tw_233) hK 0 rfl hP hD hS hA (by decide) (by decide) (by decide) (Nat.le_of_ble_eq_true rfl) (Nat.le_of_ble_eq_true rfl) d_Whole_init_6 (fun q6 H hP hD hS => ?_)
  have hP : va_P D vC ([(h0, .inr (11, [.null, .int 0, .int 0])), (q6, .inl (g 0, 3, .inl (fun _ => 0)))] ++ ([] : va_W)) H := hP
  have hD : va_D A ([(h0, .inr (11, [.null, .int 0, .int 0])), (q6, .inl (g 0, 3, .inl (fun _ => 0)))] ++ ([] : va_W)) := hD
  refine W.widen (k := 1) (n := 3) (by decide) (by decide) ?_
  refine va_put (D := D) (ci := 11) (v := .ref q6) (ty := .array (.int)) (C := "MatrixScripts$Whole") (T := T_Whole) (N := 3) hx hb hT in_Whole ty_Whole ty_Whole_ok nm_Whole hown hK hP hD hS 0 rfl rfl 0 (by decide) (hT _ tw_246) (fun _ h9 => h9) rfl (by decide +kernel) rfl rfl (Nat.le_of_ble_eq_true rfl) d_Whole_init_8 (fun H locs hP hD hS => ?_)
  have hP : va_P D vC ([(h0, .inr (11, [.ref q6, .int 0, .int 0])), (q6, .inl (g 0, 3, .inl (fun _ => 0)))] ++ ([] : va_W)) H := hP
  have hD : va_D A ([(h0, .inr (11, [.ref q6, .int 0, .int 0])), (q6, .inl (g 0, 3, .inl (fun _ => 0)))] ++ ([] : va_W)) := hD
  exact W.vret hx hb hr (fun t ht1 hW => ⟨⟨(q6), rfl, trivial, by rw [ht1]; exact hP, hD⟩, hS.F ht1⟩) hS.2.2 d_Whole_init_11
abbrev S_Tape : Type := Nat
def ws_Tape (g : Nat → ClassId) (h0 : Nat) (u : S_Tape) : va_W := [(h0, .inr (9, [.ref u, .int 0, .int 0, .int 0, .int 0])), (u, .inl (g 0, 64, .inl (fun _ => 0)))] ++ ([] : va_W)
def w_Tape_init : List Cond := .code ⟨"MatrixScripts$Tape", "<init>", "()V"⟩ prog_13_method_1_code 1 none :: wd_all
theorem gd_Tape_init : GoodIn wd_all w_Tape_init := gd_of tw_211
set_option maxHeartbeats 4000000 in
set_option maxRecDepth 100000 in
theorem c_Tape_init (l : Launch) (D : va_G) (g : Nat → ClassId) (h0 : Nat) (sz : Nat) : Met l ⟨"MatrixScripts$Tape", "<init>", "()V"⟩ w_Tape_init { frames := 1, cells := 1, slots := 64, locals := 12 } (cp D g [.ref h0] [(h0, .inr (9, [.null, .int 0, .int 0, .int 0, .int 0]))] sz) (cv D (va_A [(h0, .inr (9, [.null, .int 0, .int 0, .int 0, .int 0]))] sz) (fun u : S_Tape => ws_Tape g h0 u)) 1 64 (va_A [(h0, .inr (9, [.null, .int 0, .int 0, .int 0, .int 0]))] sz) := by
  refine Met.ofW (cc := prog_13_method_1_code) (maxL := 1) (ret := none) (by decide) rfl ?_
  intro p e s m args below meth c s₁ B0 hml hv
  obtain ⟨rfl, hsz, hP, hK, hD0, hN⟩ := hv
  have hx := B0.exec
  have hb := B0.bytes
  have hr := B0.returns
  have hts := atoms_spec (ws := w_Tape_init) B0.pre
  have hT := fun (w : Cond) (h : w ∈ wd_all) => hts w (List.mem_cons_of_mem _ h)
  have hown : s.vm.findClass "MatrixScripts$Tape" = some m.cls := findClass_of_methodNamed B0.named
  have hlocks := B0.notSynchronized
  have hin : meth.name = "<init>" := (name_of_methodNamed B0.named B0.method).1
  subst hsz
  have hD := hD0.self (sz := s.heap.size)
  generalize hAe : va_A [(h0, .inr (9, [.null, .int 0, .int 0, .int 0, .int 0]))] s.heap.size = A at hD ⊢
  have hA : ∀ q : Nat, s.heap.size ≤ q → A q := fun q h => by rw [← hAe]; exact Or.inr h
  have hS : va_S A s.heap s.heap [] := va_S.rf
  have hP : va_P D vC ([(h0, .inr (9, [.null, .int 0, .int 0, .int 0, .int 0]))] ++ ([] : va_W)) s.heap := hP
  have hD : va_D A ([(h0, .inr (9, [.null, .int 0, .int 0, .int 0, .int 0]))] ++ ([] : va_W)) := hD
  have hl := lv_entry ([.ref h0]) (n := 1) (Nat.le_of_ble_eq_true rfl)
  rw [lg_entry_eq]
  generalize (lg_sl ([.ref h0]) ++ List.replicate (1 - (lg_sl ([.ref h0])).length) Slot.unset).toArray = ls at hl ⊢
  have hl : lv_has ls 1 [(0, .ref h0)] := hl
  refine lv_aload_n hx hb d_Tape_init_0 rfl (lv_at hl 0 rfl) ?_
  refine W.objInit hx hb hown (hT _ tw_212) (hT _ tw_199) (hT _ tw_200) rfl (by rw [hml]; exact hl.1) rfl d_Tape_init_1 (Nat.le_of_ble_eq_true rfl) (Nat.le_of_ble_eq_true rfl) ?_
  refine W.eq (g2 := F0 m 4 ls []) rfl ?_
  refine lv_aload_n hx hb d_Tape_init_4 rfl (lv_at hl 0 rfl) ?_
  refine lv_bipush (v := 64) hx hb d_Tape_init_5 (by decide) ?_
  refine pm_newi (N := 64) hx hb (hT _ tw_233) hK 0 rfl hP hD hS hA (by decide) (by decide) (by decide) (Nat.le_of_ble_eq_true rfl) (Nat.le_of_ble_eq_true rfl) d_Tape_init_7 (fun q7 H hP hD hS => ?_)
  have hP : va_P D vC ([(h0, .inr (9, [.null, .int 0, .int 0, .int 0, .int 0])), (q7, .inl (g 0, 64, .inl (fun _ => 0)))] ++ ([] : va_W)) H := hP
  have hD : va_D A ([(h0, .inr (9, [.null, .int 0, .int 0, .int 0, .int 0])), (q7, .inl (g 0, 64, .inl (fun _ => 0)))] ++ ([] : va_W)) := hD
  refine W.widen (k := 1) (n := 64) (by decide) (by decide) ?_
  refine va_put (D := D) (ci := 9) (v := .ref q7) (ty := .array (.int)) (C := "MatrixScripts$Tape") (T := T_Tape) (N := 5) hx hb hT in_Tape ty_Tape ty_Tape_ok nm_Tape hown hK hP hD hS 0 rfl rfl 0 (by decide) (hT _ tw_213) (fun _ h9 => h9) rfl (by decide +kernel) rfl rfl (Nat.le_of_ble_eq_true rfl) d_Tape_init_9 (fun H locs hP hD hS => ?_)
  have hP : va_P D vC ([(h0, .inr (9, [.ref q7, .int 0, .int 0, .int 0, .int 0])), (q7, .inl (g 0, 64, .inl (fun _ => 0)))] ++ ([] : va_W)) H := hP
  have hD : va_D A ([(h0, .inr (9, [.ref q7, .int 0, .int 0, .int 0, .int 0])), (q7, .inl (g 0, 64, .inl (fun _ => 0)))] ++ ([] : va_W)) := hD
  exact W.vret hx hb hr (fun t ht1 hW => ⟨⟨(q7), rfl, trivial, by rw [ht1]; exact hP, hD⟩, hS.F ht1⟩) hS.2.2 d_Tape_init_12
abbrev S_Page : Type := Nat × (Nat × S_Whole) × (Nat × S_Whole) × Nat
def ws_Page (g : Nat → ClassId) (h0 : Nat) (u : S_Page) : va_W := [(h0, .inr (6, [.ref u.1, .int 0, .ref u.2.1.1, .ref u.2.2.1.1, .ref u.2.2.2])), (u.1, .inl (g 0, 64, .inl (fun _ => 0))), (u.2.2.2, .inl (g 0, 160, .inl (fun _ => 0)))] ++ (ws_Whole g u.2.2.1.1 u.2.2.1.2 ++ (ws_Whole g u.2.1.1 u.2.1.2 ++ ([] : va_W)))
def w_Page_init : List Cond := .code ⟨"MatrixScripts$Page", "<init>", "()V"⟩ prog_10_method_1_code 1 none :: wd_all
theorem gd_Page_init : GoodIn wd_all w_Page_init := gd_of tw_238
set_option maxHeartbeats 4000000 in
set_option maxRecDepth 100000 in
theorem c_Page_init (l : Launch) (D : va_G) (g : Nat → ClassId) (h0 : Nat) (sz : Nat) : Met l ⟨"MatrixScripts$Page", "<init>", "()V"⟩ w_Page_init { frames := 2, cells := 6, slots := 236, locals := 32 } (cp D g [.ref h0] [(h0, .inr (6, [.null, .int 0, .null, .null, .null]))] sz) (cv D (va_A [(h0, .inr (6, [.null, .int 0, .null, .null, .null]))] sz) (fun u : S_Page => ws_Page g h0 u)) 6 236 (va_A [(h0, .inr (6, [.null, .int 0, .null, .null, .null]))] sz) := by
  refine Met.ofW (cc := prog_10_method_1_code) (maxL := 1) (ret := none) (by decide) rfl ?_
  intro p e s m args below meth c s₁ B0 hml hv
  obtain ⟨rfl, hsz, hP, hK, hD0, hN⟩ := hv
  have hx := B0.exec
  have hb := B0.bytes
  have hr := B0.returns
  have hts := atoms_spec (ws := w_Page_init) B0.pre
  have hT := fun (w : Cond) (h : w ∈ wd_all) => hts w (List.mem_cons_of_mem _ h)
  have hown : s.vm.findClass "MatrixScripts$Page" = some m.cls := findClass_of_methodNamed B0.named
  have hlocks := B0.notSynchronized
  have hin : meth.name = "<init>" := (name_of_methodNamed B0.named B0.method).1
  subst hsz
  have hD := hD0.self (sz := s.heap.size)
  generalize hAe : va_A [(h0, .inr (6, [.null, .int 0, .null, .null, .null]))] s.heap.size = A at hD ⊢
  have hA : ∀ q : Nat, s.heap.size ≤ q → A q := fun q h => by rw [← hAe]; exact Or.inr h
  have hS : va_S A s.heap s.heap [] := va_S.rf
  have hP : va_P D vC ([(h0, .inr (6, [.null, .int 0, .null, .null, .null]))] ++ ([] : va_W)) s.heap := hP
  have hD : va_D A ([(h0, .inr (6, [.null, .int 0, .null, .null, .null]))] ++ ([] : va_W)) := hD
  have hl := lv_entry ([.ref h0]) (n := 1) (Nat.le_of_ble_eq_true rfl)
  rw [lg_entry_eq]
  generalize (lg_sl ([.ref h0]) ++ List.replicate (1 - (lg_sl ([.ref h0])).length) Slot.unset).toArray = ls at hl ⊢
  have hl : lv_has ls 1 [(0, .ref h0)] := hl
  refine lv_aload_n hx hb d_Page_init_0 rfl (lv_at hl 0 rfl) ?_
  refine W.objInit hx hb hown (hT _ tw_239) (hT _ tw_199) (hT _ tw_200) rfl (by rw [hml]; exact hl.1) rfl d_Page_init_1 (Nat.le_of_ble_eq_true rfl) (Nat.le_of_ble_eq_true rfl) ?_
  refine W.eq (g2 := F0 m 4 ls []) rfl ?_
  refine lv_aload_n hx hb d_Page_init_4 rfl (lv_at hl 0 rfl) ?_
  refine lv_bipush (v := 64) hx hb d_Page_init_5 (by decide) ?_
  refine pm_newi (N := 64) hx hb (hT _ tw_233) hK 0 rfl hP hD hS hA (by decide) (by decide) (by decide) (Nat.le_of_ble_eq_true rfl) (Nat.le_of_ble_eq_true rfl) d_Page_init_7 (fun q7 H hP hD hS => ?_)
  have hP : va_P D vC ([(h0, .inr (6, [.null, .int 0, .null, .null, .null])), (q7, .inl (g 0, 64, .inl (fun _ => 0)))] ++ ([] : va_W)) H := hP
  have hD : va_D A ([(h0, .inr (6, [.null, .int 0, .null, .null, .null])), (q7, .inl (g 0, 64, .inl (fun _ => 0)))] ++ ([] : va_W)) := hD
  refine W.widen (k := 1) (n := 64) (by decide) (by decide) ?_
  refine va_put (D := D) (ci := 6) (v := .ref q7) (ty := .array (.int)) (C := "MatrixScripts$Page") (T := T_Page) (N := 5) hx hb hT in_Page ty_Page ty_Page_ok nm_Page hown hK hP hD hS 0 rfl rfl 0 (by decide) (hT _ tw_273) (fun _ h9 => h9) rfl (by decide +kernel) rfl rfl (Nat.le_of_ble_eq_true rfl) d_Page_init_9 (fun H locs hP hD hS => ?_)
  have hP : va_P D vC ([(h0, .inr (6, [.ref q7, .int 0, .null, .null, .null])), (q7, .inl (g 0, 64, .inl (fun _ => 0)))] ++ ([] : va_W)) H := hP
  have hD : va_D A ([(h0, .inr (6, [.ref q7, .int 0, .null, .null, .null])), (q7, .inl (g 0, 64, .inl (fun _ => 0)))] ++ ([] : va_W)) := hD
  refine lv_aload_n hx hb d_Page_init_12 rfl (lv_at hl 0 rfl) ?_
  refine pm_new (D := D) (ci := 11) (fs := [.null, .int 0, .int 0]) (C := "MatrixScripts$Whole") (T := T_Whole) (N := 3) hx hb hT in_Whole ty_Whole ty_Whole_ok hown (hT _ tw_240) (hT _ tw_241) (hT _ tw_158) hK hP hD hS hA rfl (by decide) (Nat.le_of_ble_eq_true rfl) (Nat.le_of_ble_eq_true rfl) d_Page_init_13 (fun q13 H hP hD hS => ?_)
  have hP : va_P D vC ([(h0, .inr (6, [.ref q7, .int 0, .null, .null, .null])), (q7, .inl (g 0, 64, .inl (fun _ => 0))), (q13, .inr (11, [.null, .int 0, .int 0]))] ++ ([] : va_W)) H := hP
  have hD : va_D A ([(h0, .inr (6, [.ref q7, .int 0, .null, .null, .null])), (q7, .inl (g 0, 64, .inl (fun _ => 0))), (q13, .inr (11, [.null, .int 0, .int 0]))] ++ ([] : va_W)) := hD
  refine W.widen (k := 2) (n := 67) (by decide) (by decide) ?_
  refine lv_dup hx hb d_Page_init_16 rfl ?_
  have hP := pm_subP (a' := [(q13, .inr (11, [.null, .int 0, .int 0])), (h0, .inr (6, [.ref q7, .int 0, .null, .null, .null])), (q7, .inl (g 0, 64, .inl (fun _ => 0)))]) hP [2, 0, 1] rfl
  have hD := pm_subD (a' := [(q13, .inr (11, [.null, .int 0, .int 0])), (h0, .inr (6, [.ref q7, .int 0, .null, .null, .null])), (q7, .inl (g 0, 64, .inl (fun _ => 0)))]) hD [2, 0, 1] (by decide) rfl
  have hP : va_P D vC ([(q13, .inr (11, [.null, .int 0, .int 0]))] ++ ([(h0, .inr (6, [.ref q7, .int 0, .null, .null, .null])), (q7, .inl (g 0, 64, .inl (fun _ => 0)))] ++ ([] : va_W))) H := hP
  have hD : va_D A ([(q13, .inr (11, [.null, .int 0, .int 0]))] ++ ([(h0, .inr (6, [.ref q7, .int 0, .null, .null, .null])), (q7, .inl (g 0, 64, .inl (fun _ => 0)))] ++ ([] : va_W))) := hD
  have hFc := pm_free hD hS hA
  refine va_callv (va_runIN (As := []) (rest := [.ref q13, .ref h0]) ⟨hx, hb, hml, hown, hT⟩ (c_Whole_init l D g q13 H.size) (⟨va_cnB 0 hT gd_Whole_init rfl rfl rfl (hN.1 _ nw_242) (hT _ tw_158) (by decide +kernel) ⟨Nat.le_of_ble_eq_true rfl, Nat.le_of_ble_eq_true rfl⟩, rfl, hT _ tw_243⟩) (cp_S hP hK hD hN) rfl rfl hl.1 rfl (lv_room (Nat.le_of_ble_eq_true rfl)) d_Page_init_17 ⟨Nat.le_of_ble_eq_true rfl, Nat.le_of_ble_eq_true rfl⟩) hS (fun q _ h => hFc q h) hFc (fun u17 t H1 locs ht1 hvm hw hB hz1 hk1 hS => ?_)
  obtain ⟨hP1, hD1⟩ := hB
  rw [ht1] at hP1
  obtain ⟨hP, hD⟩ := pm_join hP hD hk1 hFc hP1 hD1
  generalize H1 = H at hP hS ⊢
  have hP := pm_swapP hP
  have hD := pm_swapD hD
  have hP : va_P D vC ([(h0, .inr (6, [.ref q7, .int 0, .null, .null, .null])), (q7, .inl (g 0, 64, .inl (fun _ => 0)))] ++ (ws_Whole g q13 u17 ++ ([] : va_W))) H := hP
  have hD : va_D A ([(h0, .inr (6, [.ref q7, .int 0, .null, .null, .null])), (q7, .inl (g 0, 64, .inl (fun _ => 0)))] ++ (ws_Whole g q13 u17 ++ ([] : va_W))) := hD
  refine W.widen (k := 3) (n := 70) (by decide) (by decide) ?_
  refine va_putF (D := D) (ci := 6) (v := .ref q13) (ty := .object "MatrixScripts$Whole") (C := "MatrixScripts$Page") (T := T_Page) (N := 5) hx hb hT in_Page ty_Page ty_Page_ok nm_Page hown hK hP hD hS 0 rfl rfl 2 (by decide) (hT _ tw_276) (fun _ h9 => h9) rfl hin rfl (by decide +kernel) rfl rfl (Nat.le_of_ble_eq_true rfl) d_Page_init_20 (fun H locs hP hD hS => ?_)
  have hP : va_P D vC ([(h0, .inr (6, [.ref q7, .int 0, .ref q13, .null, .null])), (q7, .inl (g 0, 64, .inl (fun _ => 0)))] ++ (ws_Whole g q13 u17 ++ ([] : va_W))) H := hP
  have hD : va_D A ([(h0, .inr (6, [.ref q7, .int 0, .ref q13, .null, .null])), (q7, .inl (g 0, 64, .inl (fun _ => 0)))] ++ (ws_Whole g q13 u17 ++ ([] : va_W))) := hD
  refine lv_aload_n hx hb d_Page_init_23 rfl (lv_at hl 0 rfl) ?_
  refine pm_new (D := D) (ci := 11) (fs := [.null, .int 0, .int 0]) (C := "MatrixScripts$Whole") (T := T_Whole) (N := 3) hx hb hT in_Whole ty_Whole ty_Whole_ok hown (hT _ tw_240) (hT _ tw_241) (hT _ tw_158) hK hP hD hS hA rfl (by decide) (Nat.le_of_ble_eq_true rfl) (Nat.le_of_ble_eq_true rfl) d_Page_init_24 (fun q24 H hP hD hS => ?_)
  have hP : va_P D vC ([(h0, .inr (6, [.ref q7, .int 0, .ref q13, .null, .null])), (q7, .inl (g 0, 64, .inl (fun _ => 0))), (q24, .inr (11, [.null, .int 0, .int 0]))] ++ (ws_Whole g q13 u17 ++ ([] : va_W))) H := hP
  have hD : va_D A ([(h0, .inr (6, [.ref q7, .int 0, .ref q13, .null, .null])), (q7, .inl (g 0, 64, .inl (fun _ => 0))), (q24, .inr (11, [.null, .int 0, .int 0]))] ++ (ws_Whole g q13 u17 ++ ([] : va_W))) := hD
  refine W.widen (k := 4) (n := 73) (by decide) (by decide) ?_
  refine lv_dup hx hb d_Page_init_27 rfl ?_
  have hP := pm_subP (a' := [(q24, .inr (11, [.null, .int 0, .int 0])), (h0, .inr (6, [.ref q7, .int 0, .ref q13, .null, .null])), (q7, .inl (g 0, 64, .inl (fun _ => 0)))]) hP [2, 0, 1] rfl
  have hD := pm_subD (a' := [(q24, .inr (11, [.null, .int 0, .int 0])), (h0, .inr (6, [.ref q7, .int 0, .ref q13, .null, .null])), (q7, .inl (g 0, 64, .inl (fun _ => 0)))]) hD [2, 0, 1] (by decide) rfl
  have hP : va_P D vC ([(q24, .inr (11, [.null, .int 0, .int 0]))] ++ ([(h0, .inr (6, [.ref q7, .int 0, .ref q13, .null, .null])), (q7, .inl (g 0, 64, .inl (fun _ => 0)))] ++ (ws_Whole g q13 u17 ++ ([] : va_W)))) H := hP
  have hD : va_D A ([(q24, .inr (11, [.null, .int 0, .int 0]))] ++ ([(h0, .inr (6, [.ref q7, .int 0, .ref q13, .null, .null])), (q7, .inl (g 0, 64, .inl (fun _ => 0)))] ++ (ws_Whole g q13 u17 ++ ([] : va_W)))) := hD
  have hFc := pm_free hD hS hA
  refine va_callv (va_runIN (As := []) (rest := [.ref q24, .ref h0]) ⟨hx, hb, hml, hown, hT⟩ (c_Whole_init l D g q24 H.size) (⟨va_cnB 0 hT gd_Whole_init rfl rfl rfl (hN.1 _ nw_242) (hT _ tw_158) (by decide +kernel) ⟨Nat.le_of_ble_eq_true rfl, Nat.le_of_ble_eq_true rfl⟩, rfl, hT _ tw_243⟩) (cp_S hP hK hD hN) rfl rfl hl.1 rfl (lv_room (Nat.le_of_ble_eq_true rfl)) d_Page_init_28 ⟨Nat.le_of_ble_eq_true rfl, Nat.le_of_ble_eq_true rfl⟩) hS (fun q _ h => hFc q h) hFc (fun u28 t H1 locs ht1 hvm hw hB hz1 hk1 hS => ?_)
  obtain ⟨hP1, hD1⟩ := hB
  rw [ht1] at hP1
  obtain ⟨hP, hD⟩ := pm_join hP hD hk1 hFc hP1 hD1
  generalize H1 = H at hP hS ⊢
  have hP := pm_swapP hP
  have hD := pm_swapD hD
  have hP : va_P D vC ([(h0, .inr (6, [.ref q7, .int 0, .ref q13, .null, .null])), (q7, .inl (g 0, 64, .inl (fun _ => 0)))] ++ (ws_Whole g q24 u28 ++ (ws_Whole g q13 u17 ++ ([] : va_W)))) H := hP
  have hD : va_D A ([(h0, .inr (6, [.ref q7, .int 0, .ref q13, .null, .null])), (q7, .inl (g 0, 64, .inl (fun _ => 0)))] ++ (ws_Whole g q24 u28 ++ (ws_Whole g q13 u17 ++ ([] : va_W)))) := hD
  refine W.widen (k := 5) (n := 76) (by decide) (by decide) ?_
  refine va_putF (D := D) (ci := 6) (v := .ref q24) (ty := .object "MatrixScripts$Whole") (C := "MatrixScripts$Page") (T := T_Page) (N := 5) hx hb hT in_Page ty_Page ty_Page_ok nm_Page hown hK hP hD hS 0 rfl rfl 3 (by decide) (hT _ tw_277) (fun _ h9 => h9) rfl hin rfl (by decide +kernel) rfl rfl (Nat.le_of_ble_eq_true rfl) d_Page_init_31 (fun H locs hP hD hS => ?_)
  have hP : va_P D vC ([(h0, .inr (6, [.ref q7, .int 0, .ref q13, .ref q24, .null])), (q7, .inl (g 0, 64, .inl (fun _ => 0)))] ++ (ws_Whole g q24 u28 ++ (ws_Whole g q13 u17 ++ ([] : va_W)))) H := hP
  have hD : va_D A ([(h0, .inr (6, [.ref q7, .int 0, .ref q13, .ref q24, .null])), (q7, .inl (g 0, 64, .inl (fun _ => 0)))] ++ (ws_Whole g q24 u28 ++ (ws_Whole g q13 u17 ++ ([] : va_W)))) := hD
  refine lv_aload_n hx hb d_Page_init_34 rfl (lv_at hl 0 rfl) ?_
  refine lv_sipush (v := 160) hx hb d_Page_init_35 (by decide) ?_
  refine pm_newi (N := 160) hx hb (hT _ tw_233) hK 0 rfl hP hD hS hA (by decide) (by decide) (by decide) (Nat.le_of_ble_eq_true rfl) (Nat.le_of_ble_eq_true rfl) d_Page_init_38 (fun q38 H hP hD hS => ?_)
  have hP : va_P D vC ([(h0, .inr (6, [.ref q7, .int 0, .ref q13, .ref q24, .null])), (q7, .inl (g 0, 64, .inl (fun _ => 0))), (q38, .inl (g 0, 160, .inl (fun _ => 0)))] ++ (ws_Whole g q24 u28 ++ (ws_Whole g q13 u17 ++ ([] : va_W)))) H := hP
  have hD : va_D A ([(h0, .inr (6, [.ref q7, .int 0, .ref q13, .ref q24, .null])), (q7, .inl (g 0, 64, .inl (fun _ => 0))), (q38, .inl (g 0, 160, .inl (fun _ => 0)))] ++ (ws_Whole g q24 u28 ++ (ws_Whole g q13 u17 ++ ([] : va_W)))) := hD
  refine W.widen (k := 6) (n := 236) (by decide) (by decide) ?_
  refine va_putF (D := D) (ci := 6) (v := .ref q38) (ty := .array (.int)) (C := "MatrixScripts$Page") (T := T_Page) (N := 5) hx hb hT in_Page ty_Page ty_Page_ok nm_Page hown hK hP hD hS 0 rfl rfl 4 (by decide) (hT _ tw_278) (fun _ h9 => h9) rfl hin rfl (by decide +kernel) rfl rfl (Nat.le_of_ble_eq_true rfl) d_Page_init_40 (fun H locs hP hD hS => ?_)
  have hP : va_P D vC ([(h0, .inr (6, [.ref q7, .int 0, .ref q13, .ref q24, .ref q38])), (q7, .inl (g 0, 64, .inl (fun _ => 0))), (q38, .inl (g 0, 160, .inl (fun _ => 0)))] ++ (ws_Whole g q24 u28 ++ (ws_Whole g q13 u17 ++ ([] : va_W)))) H := hP
  have hD : va_D A ([(h0, .inr (6, [.ref q7, .int 0, .ref q13, .ref q24, .ref q38])), (q7, .inl (g 0, 64, .inl (fun _ => 0))), (q38, .inl (g 0, 160, .inl (fun _ => 0)))] ++ (ws_Whole g q24 u28 ++ (ws_Whole g q13 u17 ++ ([] : va_W)))) := hD
  exact W.vret hx hb hr (fun t ht1 hW => ⟨⟨(q7, (q13, u17), (q24, u28), q38), rfl, trivial, by rw [ht1]; exact hP, hD⟩, hS.F ht1⟩) hS.2.2 d_Page_init_43
abbrev S_Values : Type := Nat × Nat
def ws_Values (g : Nat → ClassId) (h0 : Nat) (u : S_Values) : va_W := [(h0, .inr (10, [.int 0, .int 0, .int 0, .ref u.1, .ref u.2, .int 0])), (u.1, .inl (g 0, 256, .inl (fun _ => 0))), (u.2, .inl (g 0, 16, .inl (fun _ => 0)))] ++ ([] : va_W)
def w_Values_init : List Cond := .code ⟨"MatrixScripts$Values", "<init>", "()V"⟩ prog_14_method_1_code 1 none :: wd_all
theorem gd_Values_init : GoodIn wd_all w_Values_init := gd_of tw_294
set_option maxHeartbeats 4000000 in
set_option maxRecDepth 100000 in
theorem c_Values_init (l : Launch) (D : va_G) (g : Nat → ClassId) (h0 : Nat) (sz : Nat) : Met l ⟨"MatrixScripts$Values", "<init>", "()V"⟩ w_Values_init { frames := 1, cells := 2, slots := 272, locals := 12 } (cp D g [.ref h0] [(h0, .inr (10, [.int 0, .int 0, .int 0, .null, .null, .int 0]))] sz) (cv D (va_A [(h0, .inr (10, [.int 0, .int 0, .int 0, .null, .null, .int 0]))] sz) (fun u : S_Values => ws_Values g h0 u)) 2 272 (va_A [(h0, .inr (10, [.int 0, .int 0, .int 0, .null, .null, .int 0]))] sz) := by
  refine Met.ofW (cc := prog_14_method_1_code) (maxL := 1) (ret := none) (by decide) rfl ?_
  intro p e s m args below meth c s₁ B0 hml hv
  obtain ⟨rfl, hsz, hP, hK, hD0, hN⟩ := hv
  have hx := B0.exec
  have hb := B0.bytes
  have hr := B0.returns
  have hts := atoms_spec (ws := w_Values_init) B0.pre
  have hT := fun (w : Cond) (h : w ∈ wd_all) => hts w (List.mem_cons_of_mem _ h)
  have hown : s.vm.findClass "MatrixScripts$Values" = some m.cls := findClass_of_methodNamed B0.named
  have hlocks := B0.notSynchronized
  have hin : meth.name = "<init>" := (name_of_methodNamed B0.named B0.method).1
  subst hsz
  have hD := hD0.self (sz := s.heap.size)
  generalize hAe : va_A [(h0, .inr (10, [.int 0, .int 0, .int 0, .null, .null, .int 0]))] s.heap.size = A at hD ⊢
  have hA : ∀ q : Nat, s.heap.size ≤ q → A q := fun q h => by rw [← hAe]; exact Or.inr h
  have hS : va_S A s.heap s.heap [] := va_S.rf
  have hP : va_P D vC ([(h0, .inr (10, [.int 0, .int 0, .int 0, .null, .null, .int 0]))] ++ ([] : va_W)) s.heap := hP
  have hD : va_D A ([(h0, .inr (10, [.int 0, .int 0, .int 0, .null, .null, .int 0]))] ++ ([] : va_W)) := hD
  have hl := lv_entry ([.ref h0]) (n := 1) (Nat.le_of_ble_eq_true rfl)
  rw [lg_entry_eq]
  generalize (lg_sl ([.ref h0]) ++ List.replicate (1 - (lg_sl ([.ref h0])).length) Slot.unset).toArray = ls at hl ⊢
  have hl : lv_has ls 1 [(0, .ref h0)] := hl
  refine lv_aload_n hx hb d_Values_init_0 rfl (lv_at hl 0 rfl) ?_
  refine W.objInit hx hb hown (hT _ tw_295) (hT _ tw_199) (hT _ tw_200) rfl (by rw [hml]; exact hl.1) rfl d_Values_init_1 (Nat.le_of_ble_eq_true rfl) (Nat.le_of_ble_eq_true rfl) ?_
  refine W.eq (g2 := F0 m 4 ls []) rfl ?_
  refine lv_aload_n hx hb d_Values_init_4 rfl (lv_at hl 0 rfl) ?_
  refine lv_sipush (v := 256) hx hb d_Values_init_5 (by decide) ?_
  refine pm_newi (N := 256) hx hb (hT _ tw_233) hK 0 rfl hP hD hS hA (by decide) (by decide) (by decide) (Nat.le_of_ble_eq_true rfl) (Nat.le_of_ble_eq_true rfl) d_Values_init_8 (fun q8 H hP hD hS => ?_)
  have hP : va_P D vC ([(h0, .inr (10, [.int 0, .int 0, .int 0, .null, .null, .int 0])), (q8, .inl (g 0, 256, .inl (fun _ => 0)))] ++ ([] : va_W)) H := hP
  have hD : va_D A ([(h0, .inr (10, [.int 0, .int 0, .int 0, .null, .null, .int 0])), (q8, .inl (g 0, 256, .inl (fun _ => 0)))] ++ ([] : va_W)) := hD
  refine W.widen (k := 1) (n := 256) (by decide) (by decide) ?_
  refine va_put (D := D) (ci := 10) (v := .ref q8) (ty := .array (.int)) (C := "MatrixScripts$Values") (T := T_Values) (N := 6) hx hb hT in_Values ty_Values ty_Values_ok nm_Values hown hK hP hD hS 0 rfl rfl 3 (by decide) (hT _ tw_307) (fun _ h9 => h9) rfl (by decide +kernel) rfl rfl (Nat.le_of_ble_eq_true rfl) d_Values_init_10 (fun H locs hP hD hS => ?_)
  have hP : va_P D vC ([(h0, .inr (10, [.int 0, .int 0, .int 0, .ref q8, .null, .int 0])), (q8, .inl (g 0, 256, .inl (fun _ => 0)))] ++ ([] : va_W)) H := hP
  have hD : va_D A ([(h0, .inr (10, [.int 0, .int 0, .int 0, .ref q8, .null, .int 0])), (q8, .inl (g 0, 256, .inl (fun _ => 0)))] ++ ([] : va_W)) := hD
  refine lv_aload_n hx hb d_Values_init_13 rfl (lv_at hl 0 rfl) ?_
  refine lv_bipush (v := 16) hx hb d_Values_init_14 (by decide) ?_
  refine pm_newi (N := 16) hx hb (hT _ tw_233) hK 0 rfl hP hD hS hA (by decide) (by decide) (by decide) (Nat.le_of_ble_eq_true rfl) (Nat.le_of_ble_eq_true rfl) d_Values_init_16 (fun q16 H hP hD hS => ?_)
  have hP : va_P D vC ([(h0, .inr (10, [.int 0, .int 0, .int 0, .ref q8, .null, .int 0])), (q8, .inl (g 0, 256, .inl (fun _ => 0))), (q16, .inl (g 0, 16, .inl (fun _ => 0)))] ++ ([] : va_W)) H := hP
  have hD : va_D A ([(h0, .inr (10, [.int 0, .int 0, .int 0, .ref q8, .null, .int 0])), (q8, .inl (g 0, 256, .inl (fun _ => 0))), (q16, .inl (g 0, 16, .inl (fun _ => 0)))] ++ ([] : va_W)) := hD
  refine W.widen (k := 2) (n := 272) (by decide) (by decide) ?_
  refine va_put (D := D) (ci := 10) (v := .ref q16) (ty := .array (.int)) (C := "MatrixScripts$Values") (T := T_Values) (N := 6) hx hb hT in_Values ty_Values ty_Values_ok nm_Values hown hK hP hD hS 0 rfl rfl 4 (by decide) (hT _ tw_308) (fun _ h9 => h9) rfl (by decide +kernel) rfl rfl (Nat.le_of_ble_eq_true rfl) d_Values_init_18 (fun H locs hP hD hS => ?_)
  have hP : va_P D vC ([(h0, .inr (10, [.int 0, .int 0, .int 0, .ref q8, .ref q16, .int 0])), (q8, .inl (g 0, 256, .inl (fun _ => 0))), (q16, .inl (g 0, 16, .inl (fun _ => 0)))] ++ ([] : va_W)) H := hP
  have hD : va_D A ([(h0, .inr (10, [.int 0, .int 0, .int 0, .ref q8, .ref q16, .int 0])), (q8, .inl (g 0, 256, .inl (fun _ => 0))), (q16, .inl (g 0, 16, .inl (fun _ => 0)))] ++ ([] : va_W)) := hD
  exact W.vret hx hb hr (fun t ht1 hW => ⟨⟨(q8, q16), rfl, trivial, by rw [ht1]; exact hP, hD⟩, hS.F ht1⟩) hS.2.2 d_Values_init_21
abbrev S_Matrix : Type := (Nat × S_Whole) × Nat
def ws_Matrix (g : Nat → ClassId) (h0 : Nat) (u : S_Matrix) : va_W := [(h0, .inr (4, [.int 0, .int 0, .int 0, .ref u.1.1, .ref u.2, .int 0])), (u.2, .inl (g 3, 16, .inr (.inr (.inr (.inr (fun _ => none))))))] ++ (ws_Whole g u.1.1 u.1.2 ++ ([] : va_W))
def w_Matrix_init : List Cond := .code ⟨"MatrixScripts$Matrix", "<init>", "()V"⟩ prog_8_method_1_code 1 none :: wd_all
theorem gd_Matrix_init : GoodIn wd_all w_Matrix_init := gd_of tw_349
set_option maxHeartbeats 4000000 in
set_option maxRecDepth 100000 in
theorem c_Matrix_init (l : Launch) (D : va_G) (g : Nat → ClassId) (h0 : Nat) (sz : Nat) : Met l ⟨"MatrixScripts$Matrix", "<init>", "()V"⟩ w_Matrix_init { frames := 2, cells := 3, slots := 22, locals := 32 } (cp D g [.ref h0] [(h0, .inr (4, [.int 0, .int 0, .int 0, .null, .null, .int 0]))] sz) (cv D (va_A [(h0, .inr (4, [.int 0, .int 0, .int 0, .null, .null, .int 0]))] sz) (fun u : S_Matrix => ws_Matrix g h0 u)) 3 22 (va_A [(h0, .inr (4, [.int 0, .int 0, .int 0, .null, .null, .int 0]))] sz) := by
  refine Met.ofW (cc := prog_8_method_1_code) (maxL := 1) (ret := none) (by decide) rfl ?_
  intro p e s m args below meth c s₁ B0 hml hv
  obtain ⟨rfl, hsz, hP, hK, hD0, hN⟩ := hv
  have hx := B0.exec
  have hb := B0.bytes
  have hr := B0.returns
  have hts := atoms_spec (ws := w_Matrix_init) B0.pre
  have hT := fun (w : Cond) (h : w ∈ wd_all) => hts w (List.mem_cons_of_mem _ h)
  have hown : s.vm.findClass "MatrixScripts$Matrix" = some m.cls := findClass_of_methodNamed B0.named
  have hlocks := B0.notSynchronized
  have hin : meth.name = "<init>" := (name_of_methodNamed B0.named B0.method).1
  subst hsz
  have hD := hD0.self (sz := s.heap.size)
  generalize hAe : va_A [(h0, .inr (4, [.int 0, .int 0, .int 0, .null, .null, .int 0]))] s.heap.size = A at hD ⊢
  have hA : ∀ q : Nat, s.heap.size ≤ q → A q := fun q h => by rw [← hAe]; exact Or.inr h
  have hS : va_S A s.heap s.heap [] := va_S.rf
  have hP : va_P D vC ([(h0, .inr (4, [.int 0, .int 0, .int 0, .null, .null, .int 0]))] ++ ([] : va_W)) s.heap := hP
  have hD : va_D A ([(h0, .inr (4, [.int 0, .int 0, .int 0, .null, .null, .int 0]))] ++ ([] : va_W)) := hD
  have hl := lv_entry ([.ref h0]) (n := 1) (Nat.le_of_ble_eq_true rfl)
  rw [lg_entry_eq]
  generalize (lg_sl ([.ref h0]) ++ List.replicate (1 - (lg_sl ([.ref h0])).length) Slot.unset).toArray = ls at hl ⊢
  have hl : lv_has ls 1 [(0, .ref h0)] := hl
  refine lv_aload_n hx hb d_Matrix_init_0 rfl (lv_at hl 0 rfl) ?_
  refine W.objInit hx hb hown (hT _ tw_350) (hT _ tw_199) (hT _ tw_200) rfl (by rw [hml]; exact hl.1) rfl d_Matrix_init_1 (Nat.le_of_ble_eq_true rfl) (Nat.le_of_ble_eq_true rfl) ?_
  refine W.eq (g2 := F0 m 4 ls []) rfl ?_
  refine lv_aload_n hx hb d_Matrix_init_4 rfl (lv_at hl 0 rfl) ?_
  refine pm_new (D := D) (ci := 11) (fs := [.null, .int 0, .int 0]) (C := "MatrixScripts$Whole") (T := T_Whole) (N := 3) hx hb hT in_Whole ty_Whole ty_Whole_ok hown (hT _ tw_351) (hT _ tw_241) (hT _ tw_158) hK hP hD hS hA rfl (by decide) (Nat.le_of_ble_eq_true rfl) (Nat.le_of_ble_eq_true rfl) d_Matrix_init_5 (fun q5 H hP hD hS => ?_)
  have hP : va_P D vC ([(h0, .inr (4, [.int 0, .int 0, .int 0, .null, .null, .int 0])), (q5, .inr (11, [.null, .int 0, .int 0]))] ++ ([] : va_W)) H := hP
  have hD : va_D A ([(h0, .inr (4, [.int 0, .int 0, .int 0, .null, .null, .int 0])), (q5, .inr (11, [.null, .int 0, .int 0]))] ++ ([] : va_W)) := hD
  refine W.widen (k := 1) (n := 3) (by decide) (by decide) ?_
  refine lv_dup hx hb d_Matrix_init_8 rfl ?_
  have hP := pm_subP (a' := [(q5, .inr (11, [.null, .int 0, .int 0])), (h0, .inr (4, [.int 0, .int 0, .int 0, .null, .null, .int 0]))]) hP [1, 0] rfl
  have hD := pm_subD (a' := [(q5, .inr (11, [.null, .int 0, .int 0])), (h0, .inr (4, [.int 0, .int 0, .int 0, .null, .null, .int 0]))]) hD [1, 0] (by decide) rfl
  have hP : va_P D vC ([(q5, .inr (11, [.null, .int 0, .int 0]))] ++ ([(h0, .inr (4, [.int 0, .int 0, .int 0, .null, .null, .int 0]))] ++ ([] : va_W))) H := hP
  have hD : va_D A ([(q5, .inr (11, [.null, .int 0, .int 0]))] ++ ([(h0, .inr (4, [.int 0, .int 0, .int 0, .null, .null, .int 0]))] ++ ([] : va_W))) := hD
  have hFc := pm_free hD hS hA
  refine va_callv (va_runIN (As := []) (rest := [.ref q5, .ref h0]) ⟨hx, hb, hml, hown, hT⟩ (c_Whole_init l D g q5 H.size) (⟨va_cnB 0 hT gd_Whole_init rfl rfl rfl (hN.1 _ nw_352) (hT _ tw_158) (by decide +kernel) ⟨Nat.le_of_ble_eq_true rfl, Nat.le_of_ble_eq_true rfl⟩, rfl, hT _ tw_243⟩) (cp_S hP hK hD hN) rfl rfl hl.1 rfl (lv_room (Nat.le_of_ble_eq_true rfl)) d_Matrix_init_9 ⟨Nat.le_of_ble_eq_true rfl, Nat.le_of_ble_eq_true rfl⟩) hS (fun q _ h => hFc q h) hFc (fun u9 t H1 locs ht1 hvm hw hB hz1 hk1 hS => ?_)
  obtain ⟨hP1, hD1⟩ := hB
  rw [ht1] at hP1
  obtain ⟨hP, hD⟩ := pm_join hP hD hk1 hFc hP1 hD1
  generalize H1 = H at hP hS ⊢
  have hP := pm_swapP hP
  have hD := pm_swapD hD
  have hP : va_P D vC ([(h0, .inr (4, [.int 0, .int 0, .int 0, .null, .null, .int 0]))] ++ (ws_Whole g q5 u9 ++ ([] : va_W))) H := hP
  have hD : va_D A ([(h0, .inr (4, [.int 0, .int 0, .int 0, .null, .null, .int 0]))] ++ (ws_Whole g q5 u9 ++ ([] : va_W))) := hD
  refine W.widen (k := 2) (n := 6) (by decide) (by decide) ?_
  refine va_putF (D := D) (ci := 4) (v := .ref q5) (ty := .object "MatrixScripts$Whole") (C := "MatrixScripts$Matrix") (T := T_Matrix) (N := 6) hx hb hT in_Matrix ty_Matrix ty_Matrix_ok nm_Matrix hown hK hP hD hS 0 rfl rfl 3 (by decide) (hT _ tw_372) (fun _ h9 => h9) rfl hin rfl (by decide +kernel) rfl rfl (Nat.le_of_ble_eq_true rfl) d_Matrix_init_12 (fun H locs hP hD hS => ?_)
  have hP : va_P D vC ([(h0, .inr (4, [.int 0, .int 0, .int 0, .ref q5, .null, .int 0]))] ++ (ws_Whole g q5 u9 ++ ([] : va_W))) H := hP
  have hD : va_D A ([(h0, .inr (4, [.int 0, .int 0, .int 0, .ref q5, .null, .int 0]))] ++ (ws_Whole g q5 u9 ++ ([] : va_W))) := hD
  refine lv_aload_n hx hb d_Matrix_init_15 rfl (lv_at hl 0 rfl) ?_
  refine lv_bipush (v := 16) hx hb d_Matrix_init_16 (by decide) ?_
  refine pm_newq (N := 16) hx hb hown (hT _ tw_351) (hN.2) hK 3 rfl hP hD hS hA (by decide) (by decide) (by decide) (Nat.le_of_ble_eq_true rfl) (Nat.le_of_ble_eq_true rfl) d_Matrix_init_18 (fun q18 H hP hD hS => ?_)
  have hP : va_P D vC ([(h0, .inr (4, [.int 0, .int 0, .int 0, .ref q5, .null, .int 0])), (q18, .inl (g 3, 16, .inr (.inr (.inr (.inr (fun _ => none))))))] ++ (ws_Whole g q5 u9 ++ ([] : va_W))) H := hP
  have hD : va_D A ([(h0, .inr (4, [.int 0, .int 0, .int 0, .ref q5, .null, .int 0])), (q18, .inl (g 3, 16, .inr (.inr (.inr (.inr (fun _ => none))))))] ++ (ws_Whole g q5 u9 ++ ([] : va_W))) := hD
  refine W.widen (k := 3) (n := 22) (by decide) (by decide) ?_
  refine va_put (D := D) (ci := 4) (v := .ref q18) (ty := .array (.object "MatrixScripts$Whole")) (C := "MatrixScripts$Matrix") (T := T_Matrix) (N := 6) hx hb hT in_Matrix ty_Matrix ty_Matrix_ok nm_Matrix hown hK hP hD hS 0 rfl rfl 4 (by decide) (hT _ tw_379) (fun _ h9 => h9) rfl (by decide +kernel) rfl rfl (Nat.le_of_ble_eq_true rfl) d_Matrix_init_21 (fun H locs hP hD hS => ?_)
  have hP : va_P D vC ([(h0, .inr (4, [.int 0, .int 0, .int 0, .ref q5, .ref q18, .int 0])), (q18, .inl (g 3, 16, .inr (.inr (.inr (.inr (fun _ => none))))))] ++ (ws_Whole g q5 u9 ++ ([] : va_W))) H := hP
  have hD : va_D A ([(h0, .inr (4, [.int 0, .int 0, .int 0, .ref q5, .ref q18, .int 0])), (q18, .inl (g 3, 16, .inr (.inr (.inr (.inr (fun _ => none))))))] ++ (ws_Whole g q5 u9 ++ ([] : va_W))) := hD
  exact W.vret hx hb hr (fun t ht1 hW => ⟨⟨((q5, u9), q18), rfl, trivial, by rw [ht1]; exact hP, hD⟩, hS.F ht1⟩) hS.2.2 d_Matrix_init_24
abbrev S_Calc : Type := (Nat × S_Whole) × (Nat × S_Whole) × (Nat × S_Whole) × (Nat × S_Whole) × (Nat × S_Whole) × (Nat × S_Whole) × (Nat × S_Whole) × (Nat × S_Whole) × (Nat × S_Whole) × (Nat × S_Whole)
def ws_Calc (g : Nat → ClassId) (h0 : Nat) (u : S_Calc) : va_W := [(h0, .inr (0, [.ref u.1.1, .ref u.2.1.1, .ref u.2.2.1.1, .ref u.2.2.2.1.1, .ref u.2.2.2.2.1.1, .ref u.2.2.2.2.2.1.1, .ref u.2.2.2.2.2.2.1.1, .ref u.2.2.2.2.2.2.2.1.1, .ref u.2.2.2.2.2.2.2.2.1.1, .ref u.2.2.2.2.2.2.2.2.2.1, .long 0, .long 0, .long 0, .long 0]))] ++ (ws_Whole g u.2.2.2.2.2.2.2.2.2.1 u.2.2.2.2.2.2.2.2.2.2 ++ (ws_Whole g u.2.2.2.2.2.2.2.2.1.1 u.2.2.2.2.2.2.2.2.1.2 ++ (ws_Whole g u.2.2.2.2.2.2.2.1.1 u.2.2.2.2.2.2.2.1.2 ++ (ws_Whole g u.2.2.2.2.2.2.1.1 u.2.2.2.2.2.2.1.2 ++ (ws_Whole g u.2.2.2.2.2.1.1 u.2.2.2.2.2.1.2 ++ (ws_Whole g u.2.2.2.2.1.1 u.2.2.2.2.1.2 ++ (ws_Whole g u.2.2.2.1.1 u.2.2.2.1.2 ++ (ws_Whole g u.2.2.1.1 u.2.2.1.2 ++ (ws_Whole g u.2.1.1 u.2.1.2 ++ (ws_Whole g u.1.1 u.1.2 ++ ([] : va_W)))))))))))
def w_Calc_init : List Cond := .code ⟨"MatrixScripts$Calc", "<init>", "()V"⟩ prog_3_method_1_code 1 none :: wd_all
theorem gd_Calc_init : GoodIn wd_all w_Calc_init := gd_of tw_398
set_option maxHeartbeats 4000000 in
set_option maxRecDepth 100000 in
theorem c_Calc_init (l : Launch) (D : va_G) (g : Nat → ClassId) (h0 : Nat) (sz : Nat) : Met l ⟨"MatrixScripts$Calc", "<init>", "()V"⟩ w_Calc_init { frames := 2, cells := 20, slots := 60, locals := 32 } (cp D g [.ref h0] [(h0, .inr (0, [.null, .null, .null, .null, .null, .null, .null, .null, .null, .null, .long 0, .long 0, .long 0, .long 0]))] sz) (cv D (va_A [(h0, .inr (0, [.null, .null, .null, .null, .null, .null, .null, .null, .null, .null, .long 0, .long 0, .long 0, .long 0]))] sz) (fun u : S_Calc => ws_Calc g h0 u)) 20 60 (va_A [(h0, .inr (0, [.null, .null, .null, .null, .null, .null, .null, .null, .null, .null, .long 0, .long 0, .long 0, .long 0]))] sz) := by
  refine Met.ofW (cc := prog_3_method_1_code) (maxL := 1) (ret := none) (by decide) rfl ?_
  intro p e s m args below meth c s₁ B0 hml hv
  obtain ⟨rfl, hsz, hP, hK, hD0, hN⟩ := hv
  have hx := B0.exec
  have hb := B0.bytes
  have hr := B0.returns
  have hts := atoms_spec (ws := w_Calc_init) B0.pre
  have hT := fun (w : Cond) (h : w ∈ wd_all) => hts w (List.mem_cons_of_mem _ h)
  have hown : s.vm.findClass "MatrixScripts$Calc" = some m.cls := findClass_of_methodNamed B0.named
  have hlocks := B0.notSynchronized
  have hin : meth.name = "<init>" := (name_of_methodNamed B0.named B0.method).1
  subst hsz
  have hD := hD0.self (sz := s.heap.size)
  generalize hAe : va_A [(h0, .inr (0, [.null, .null, .null, .null, .null, .null, .null, .null, .null, .null, .long 0, .long 0, .long 0, .long 0]))] s.heap.size = A at hD ⊢
  have hA : ∀ q : Nat, s.heap.size ≤ q → A q := fun q h => by rw [← hAe]; exact Or.inr h
  have hS : va_S A s.heap s.heap [] := va_S.rf
  have hP : va_P D vC ([(h0, .inr (0, [.null, .null, .null, .null, .null, .null, .null, .null, .null, .null, .long 0, .long 0, .long 0, .long 0]))] ++ ([] : va_W)) s.heap := hP
  have hD : va_D A ([(h0, .inr (0, [.null, .null, .null, .null, .null, .null, .null, .null, .null, .null, .long 0, .long 0, .long 0, .long 0]))] ++ ([] : va_W)) := hD
  have hl := lv_entry ([.ref h0]) (n := 1) (Nat.le_of_ble_eq_true rfl)
  rw [lg_entry_eq]
  generalize (lg_sl ([.ref h0]) ++ List.replicate (1 - (lg_sl ([.ref h0])).length) Slot.unset).toArray = ls at hl ⊢
  have hl : lv_has ls 1 [(0, .ref h0)] := hl
  refine lv_aload_n hx hb d_Calc_init_0 rfl (lv_at hl 0 rfl) ?_
  refine W.objInit hx hb hown (hT _ tw_399) (hT _ tw_199) (hT _ tw_200) rfl (by rw [hml]; exact hl.1) rfl d_Calc_init_1 (Nat.le_of_ble_eq_true rfl) (Nat.le_of_ble_eq_true rfl) ?_
  refine W.eq (g2 := F0 m 4 ls []) rfl ?_
  refine lv_aload_n hx hb d_Calc_init_4 rfl (lv_at hl 0 rfl) ?_
  refine pm_new (D := D) (ci := 11) (fs := [.null, .int 0, .int 0]) (C := "MatrixScripts$Whole") (T := T_Whole) (N := 3) hx hb hT in_Whole ty_Whole ty_Whole_ok hown (hT _ tw_400) (hT _ tw_241) (hT _ tw_158) hK hP hD hS hA rfl (by decide) (Nat.le_of_ble_eq_true rfl) (Nat.le_of_ble_eq_true rfl) d_Calc_init_5 (fun q5 H hP hD hS => ?_)
  have hP : va_P D vC ([(h0, .inr (0, [.null, .null, .null, .null, .null, .null, .null, .null, .null, .null, .long 0, .long 0, .long 0, .long 0])), (q5, .inr (11, [.null, .int 0, .int 0]))] ++ ([] : va_W)) H := hP
  have hD : va_D A ([(h0, .inr (0, [.null, .null, .null, .null, .null, .null, .null, .null, .null, .null, .long 0, .long 0, .long 0, .long 0])), (q5, .inr (11, [.null, .int 0, .int 0]))] ++ ([] : va_W)) := hD
  refine W.widen (k := 1) (n := 3) (by decide) (by decide) ?_
  refine lv_dup hx hb d_Calc_init_8 rfl ?_
  have hP := pm_subP (a' := [(q5, .inr (11, [.null, .int 0, .int 0])), (h0, .inr (0, [.null, .null, .null, .null, .null, .null, .null, .null, .null, .null, .long 0, .long 0, .long 0, .long 0]))]) hP [1, 0] rfl
  have hD := pm_subD (a' := [(q5, .inr (11, [.null, .int 0, .int 0])), (h0, .inr (0, [.null, .null, .null, .null, .null, .null, .null, .null, .null, .null, .long 0, .long 0, .long 0, .long 0]))]) hD [1, 0] (by decide) rfl
  have hP : va_P D vC ([(q5, .inr (11, [.null, .int 0, .int 0]))] ++ ([(h0, .inr (0, [.null, .null, .null, .null, .null, .null, .null, .null, .null, .null, .long 0, .long 0, .long 0, .long 0]))] ++ ([] : va_W))) H := hP
  have hD : va_D A ([(q5, .inr (11, [.null, .int 0, .int 0]))] ++ ([(h0, .inr (0, [.null, .null, .null, .null, .null, .null, .null, .null, .null, .null, .long 0, .long 0, .long 0, .long 0]))] ++ ([] : va_W))) := hD
  have hFc := pm_free hD hS hA
  refine va_callv (va_runIN (As := []) (rest := [.ref q5, .ref h0]) ⟨hx, hb, hml, hown, hT⟩ (c_Whole_init l D g q5 H.size) (⟨va_cnB 0 hT gd_Whole_init rfl rfl rfl (hN.1 _ nw_401) (hT _ tw_158) (by decide +kernel) ⟨Nat.le_of_ble_eq_true rfl, Nat.le_of_ble_eq_true rfl⟩, rfl, hT _ tw_243⟩) (cp_S hP hK hD hN) rfl rfl hl.1 rfl (lv_room (Nat.le_of_ble_eq_true rfl)) d_Calc_init_9 ⟨Nat.le_of_ble_eq_true rfl, Nat.le_of_ble_eq_true rfl⟩) hS (fun q _ h => hFc q h) hFc (fun u9 t H1 locs ht1 hvm hw hB hz1 hk1 hS => ?_)
  obtain ⟨hP1, hD1⟩ := hB
  rw [ht1] at hP1
  obtain ⟨hP, hD⟩ := pm_join hP hD hk1 hFc hP1 hD1
  generalize H1 = H at hP hS ⊢
  have hP := pm_swapP hP
  have hD := pm_swapD hD
  have hP : va_P D vC ([(h0, .inr (0, [.null, .null, .null, .null, .null, .null, .null, .null, .null, .null, .long 0, .long 0, .long 0, .long 0]))] ++ (ws_Whole g q5 u9 ++ ([] : va_W))) H := hP
  have hD : va_D A ([(h0, .inr (0, [.null, .null, .null, .null, .null, .null, .null, .null, .null, .null, .long 0, .long 0, .long 0, .long 0]))] ++ (ws_Whole g q5 u9 ++ ([] : va_W))) := hD
  refine W.widen (k := 2) (n := 6) (by decide) (by decide) ?_
  refine va_put (D := D) (ci := 0) (v := .ref q5) (ty := .object "MatrixScripts$Whole") (C := "MatrixScripts$Calc") (T := T_Calc) (N := 14) hx hb hT in_Calc ty_Calc ty_Calc_ok nm_Calc hown hK hP hD hS 0 rfl rfl 0 (by decide) (hT _ tw_402) (fun _ h9 => h9) rfl (by decide +kernel) rfl rfl (Nat.le_of_ble_eq_true rfl) d_Calc_init_12 (fun H locs hP hD hS => ?_)
  have hP : va_P D vC ([(h0, .inr (0, [.ref q5, .null, .null, .null, .null, .null, .null, .null, .null, .null, .long 0, .long 0, .long 0, .long 0]))] ++ (ws_Whole g q5 u9 ++ ([] : va_W))) H := hP
  have hD : va_D A ([(h0, .inr (0, [.ref q5, .null, .null, .null, .null, .null, .null, .null, .null, .null, .long 0, .long 0, .long 0, .long 0]))] ++ (ws_Whole g q5 u9 ++ ([] : va_W))) := hD
  refine lv_aload_n hx hb d_Calc_init_15 rfl (lv_at hl 0 rfl) ?_
  refine pm_new (D := D) (ci := 11) (fs := [.null, .int 0, .int 0]) (C := "MatrixScripts$Whole") (T := T_Whole) (N := 3) hx hb hT in_Whole ty_Whole ty_Whole_ok hown (hT _ tw_400) (hT _ tw_241) (hT _ tw_158) hK hP hD hS hA rfl (by decide) (Nat.le_of_ble_eq_true rfl) (Nat.le_of_ble_eq_true rfl) d_Calc_init_16 (fun q16 H hP hD hS => ?_)
  have hP : va_P D vC ([(h0, .inr (0, [.ref q5, .null, .null, .null, .null, .null, .null, .null, .null, .null, .long 0, .long 0, .long 0, .long 0])), (q16, .inr (11, [.null, .int 0, .int 0]))] ++ (ws_Whole g q5 u9 ++ ([] : va_W))) H := hP
  have hD : va_D A ([(h0, .inr (0, [.ref q5, .null, .null, .null, .null, .null, .null, .null, .null, .null, .long 0, .long 0, .long 0, .long 0])), (q16, .inr (11, [.null, .int 0, .int 0]))] ++ (ws_Whole g q5 u9 ++ ([] : va_W))) := hD
  refine W.widen (k := 3) (n := 9) (by decide) (by decide) ?_
  refine lv_dup hx hb d_Calc_init_19 rfl ?_
  have hP := pm_subP (a' := [(q16, .inr (11, [.null, .int 0, .int 0])), (h0, .inr (0, [.ref q5, .null, .null, .null, .null, .null, .null, .null, .null, .null, .long 0, .long 0, .long 0, .long 0]))]) hP [1, 0] rfl
  have hD := pm_subD (a' := [(q16, .inr (11, [.null, .int 0, .int 0])), (h0, .inr (0, [.ref q5, .null, .null, .null, .null, .null, .null, .null, .null, .null, .long 0, .long 0, .long 0, .long 0]))]) hD [1, 0] (by decide) rfl
  have hP : va_P D vC ([(q16, .inr (11, [.null, .int 0, .int 0]))] ++ ([(h0, .inr (0, [.ref q5, .null, .null, .null, .null, .null, .null, .null, .null, .null, .long 0, .long 0, .long 0, .long 0]))] ++ (ws_Whole g q5 u9 ++ ([] : va_W)))) H := hP
  have hD : va_D A ([(q16, .inr (11, [.null, .int 0, .int 0]))] ++ ([(h0, .inr (0, [.ref q5, .null, .null, .null, .null, .null, .null, .null, .null, .null, .long 0, .long 0, .long 0, .long 0]))] ++ (ws_Whole g q5 u9 ++ ([] : va_W)))) := hD
  have hFc := pm_free hD hS hA
  refine va_callv (va_runIN (As := []) (rest := [.ref q16, .ref h0]) ⟨hx, hb, hml, hown, hT⟩ (c_Whole_init l D g q16 H.size) (⟨va_cnB 0 hT gd_Whole_init rfl rfl rfl (hN.1 _ nw_401) (hT _ tw_158) (by decide +kernel) ⟨Nat.le_of_ble_eq_true rfl, Nat.le_of_ble_eq_true rfl⟩, rfl, hT _ tw_243⟩) (cp_S hP hK hD hN) rfl rfl hl.1 rfl (lv_room (Nat.le_of_ble_eq_true rfl)) d_Calc_init_20 ⟨Nat.le_of_ble_eq_true rfl, Nat.le_of_ble_eq_true rfl⟩) hS (fun q _ h => hFc q h) hFc (fun u20 t H1 locs ht1 hvm hw hB hz1 hk1 hS => ?_)
  obtain ⟨hP1, hD1⟩ := hB
  rw [ht1] at hP1
  obtain ⟨hP, hD⟩ := pm_join hP hD hk1 hFc hP1 hD1
  generalize H1 = H at hP hS ⊢
  have hP := pm_swapP hP
  have hD := pm_swapD hD
  have hP : va_P D vC ([(h0, .inr (0, [.ref q5, .null, .null, .null, .null, .null, .null, .null, .null, .null, .long 0, .long 0, .long 0, .long 0]))] ++ (ws_Whole g q16 u20 ++ (ws_Whole g q5 u9 ++ ([] : va_W)))) H := hP
  have hD : va_D A ([(h0, .inr (0, [.ref q5, .null, .null, .null, .null, .null, .null, .null, .null, .null, .long 0, .long 0, .long 0, .long 0]))] ++ (ws_Whole g q16 u20 ++ (ws_Whole g q5 u9 ++ ([] : va_W)))) := hD
  refine W.widen (k := 4) (n := 12) (by decide) (by decide) ?_
  refine va_put (D := D) (ci := 0) (v := .ref q16) (ty := .object "MatrixScripts$Whole") (C := "MatrixScripts$Calc") (T := T_Calc) (N := 14) hx hb hT in_Calc ty_Calc ty_Calc_ok nm_Calc hown hK hP hD hS 0 rfl rfl 1 (by decide) (hT _ tw_404) (fun _ h9 => h9) rfl (by decide +kernel) rfl rfl (Nat.le_of_ble_eq_true rfl) d_Calc_init_23 (fun H locs hP hD hS => ?_)
  have hP : va_P D vC ([(h0, .inr (0, [.ref q5, .ref q16, .null, .null, .null, .null, .null, .null, .null, .null, .long 0, .long 0, .long 0, .long 0]))] ++ (ws_Whole g q16 u20 ++ (ws_Whole g q5 u9 ++ ([] : va_W)))) H := hP
  have hD : va_D A ([(h0, .inr (0, [.ref q5, .ref q16, .null, .null, .null, .null, .null, .null, .null, .null, .long 0, .long 0, .long 0, .long 0]))] ++ (ws_Whole g q16 u20 ++ (ws_Whole g q5 u9 ++ ([] : va_W)))) := hD
  refine lv_aload_n hx hb d_Calc_init_26 rfl (lv_at hl 0 rfl) ?_
  refine pm_new (D := D) (ci := 11) (fs := [.null, .int 0, .int 0]) (C := "MatrixScripts$Whole") (T := T_Whole) (N := 3) hx hb hT in_Whole ty_Whole ty_Whole_ok hown (hT _ tw_400) (hT _ tw_241) (hT _ tw_158) hK hP hD hS hA rfl (by decide) (Nat.le_of_ble_eq_true rfl) (Nat.le_of_ble_eq_true rfl) d_Calc_init_27 (fun q27 H hP hD hS => ?_)
  have hP : va_P D vC ([(h0, .inr (0, [.ref q5, .ref q16, .null, .null, .null, .null, .null, .null, .null, .null, .long 0, .long 0, .long 0, .long 0])), (q27, .inr (11, [.null, .int 0, .int 0]))] ++ (ws_Whole g q16 u20 ++ (ws_Whole g q5 u9 ++ ([] : va_W)))) H := hP
  have hD : va_D A ([(h0, .inr (0, [.ref q5, .ref q16, .null, .null, .null, .null, .null, .null, .null, .null, .long 0, .long 0, .long 0, .long 0])), (q27, .inr (11, [.null, .int 0, .int 0]))] ++ (ws_Whole g q16 u20 ++ (ws_Whole g q5 u9 ++ ([] : va_W)))) := hD
  refine W.widen (k := 5) (n := 15) (by decide) (by decide) ?_
  refine lv_dup hx hb d_Calc_init_30 rfl ?_
  have hP := pm_subP (a' := [(q27, .inr (11, [.null, .int 0, .int 0])), (h0, .inr (0, [.ref q5, .ref q16, .null, .null, .null, .null, .null, .null, .null, .null, .long 0, .long 0, .long 0, .long 0]))]) hP [1, 0] rfl
  have hD := pm_subD (a' := [(q27, .inr (11, [.null, .int 0, .int 0])), (h0, .inr (0, [.ref q5, .ref q16, .null, .null, .null, .null, .null, .null, .null, .null, .long 0, .long 0, .long 0, .long 0]))]) hD [1, 0] (by decide) rfl
  have hP : va_P D vC ([(q27, .inr (11, [.null, .int 0, .int 0]))] ++ ([(h0, .inr (0, [.ref q5, .ref q16, .null, .null, .null, .null, .null, .null, .null, .null, .long 0, .long 0, .long 0, .long 0]))] ++ (ws_Whole g q16 u20 ++ (ws_Whole g q5 u9 ++ ([] : va_W))))) H := hP
  have hD : va_D A ([(q27, .inr (11, [.null, .int 0, .int 0]))] ++ ([(h0, .inr (0, [.ref q5, .ref q16, .null, .null, .null, .null, .null, .null, .null, .null, .long 0, .long 0, .long 0, .long 0]))] ++ (ws_Whole g q16 u20 ++ (ws_Whole g q5 u9 ++ ([] : va_W))))) := hD
  have hFc := pm_free hD hS hA
  refine va_callv (va_runIN (As := []) (rest := [.ref q27, .ref h0]) ⟨hx, hb, hml, hown, hT⟩ (c_Whole_init l D g q27 H.size) (⟨va_cnB 0 hT gd_Whole_init rfl rfl rfl (hN.1 _ nw_401) (hT _ tw_158) (by decide +kernel) ⟨Nat.le_of_ble_eq_true rfl, Nat.le_of_ble_eq_true rfl⟩, rfl, hT _ tw_243⟩) (cp_S hP hK hD hN) rfl rfl hl.1 rfl (lv_room (Nat.le_of_ble_eq_true rfl)) d_Calc_init_31 ⟨Nat.le_of_ble_eq_true rfl, Nat.le_of_ble_eq_true rfl⟩) hS (fun q _ h => hFc q h) hFc (fun u31 t H1 locs ht1 hvm hw hB hz1 hk1 hS => ?_)
  obtain ⟨hP1, hD1⟩ := hB
  rw [ht1] at hP1
  obtain ⟨hP, hD⟩ := pm_join hP hD hk1 hFc hP1 hD1
  generalize H1 = H at hP hS ⊢
  have hP := pm_swapP hP
  have hD := pm_swapD hD
  have hP : va_P D vC ([(h0, .inr (0, [.ref q5, .ref q16, .null, .null, .null, .null, .null, .null, .null, .null, .long 0, .long 0, .long 0, .long 0]))] ++ (ws_Whole g q27 u31 ++ (ws_Whole g q16 u20 ++ (ws_Whole g q5 u9 ++ ([] : va_W))))) H := hP
  have hD : va_D A ([(h0, .inr (0, [.ref q5, .ref q16, .null, .null, .null, .null, .null, .null, .null, .null, .long 0, .long 0, .long 0, .long 0]))] ++ (ws_Whole g q27 u31 ++ (ws_Whole g q16 u20 ++ (ws_Whole g q5 u9 ++ ([] : va_W))))) := hD
  refine W.widen (k := 6) (n := 18) (by decide) (by decide) ?_
  refine va_put (D := D) (ci := 0) (v := .ref q27) (ty := .object "MatrixScripts$Whole") (C := "MatrixScripts$Calc") (T := T_Calc) (N := 14) hx hb hT in_Calc ty_Calc ty_Calc_ok nm_Calc hown hK hP hD hS 0 rfl rfl 2 (by decide) (hT _ tw_406) (fun _ h9 => h9) rfl (by decide +kernel) rfl rfl (Nat.le_of_ble_eq_true rfl) d_Calc_init_34 (fun H locs hP hD hS => ?_)
  have hP : va_P D vC ([(h0, .inr (0, [.ref q5, .ref q16, .ref q27, .null, .null, .null, .null, .null, .null, .null, .long 0, .long 0, .long 0, .long 0]))] ++ (ws_Whole g q27 u31 ++ (ws_Whole g q16 u20 ++ (ws_Whole g q5 u9 ++ ([] : va_W))))) H := hP
  have hD : va_D A ([(h0, .inr (0, [.ref q5, .ref q16, .ref q27, .null, .null, .null, .null, .null, .null, .null, .long 0, .long 0, .long 0, .long 0]))] ++ (ws_Whole g q27 u31 ++ (ws_Whole g q16 u20 ++ (ws_Whole g q5 u9 ++ ([] : va_W))))) := hD
  refine lv_aload_n hx hb d_Calc_init_37 rfl (lv_at hl 0 rfl) ?_
  refine pm_new (D := D) (ci := 11) (fs := [.null, .int 0, .int 0]) (C := "MatrixScripts$Whole") (T := T_Whole) (N := 3) hx hb hT in_Whole ty_Whole ty_Whole_ok hown (hT _ tw_400) (hT _ tw_241) (hT _ tw_158) hK hP hD hS hA rfl (by decide) (Nat.le_of_ble_eq_true rfl) (Nat.le_of_ble_eq_true rfl) d_Calc_init_38 (fun q38 H hP hD hS => ?_)
  have hP : va_P D vC ([(h0, .inr (0, [.ref q5, .ref q16, .ref q27, .null, .null, .null, .null, .null, .null, .null, .long 0, .long 0, .long 0, .long 0])), (q38, .inr (11, [.null, .int 0, .int 0]))] ++ (ws_Whole g q27 u31 ++ (ws_Whole g q16 u20 ++ (ws_Whole g q5 u9 ++ ([] : va_W))))) H := hP
  have hD : va_D A ([(h0, .inr (0, [.ref q5, .ref q16, .ref q27, .null, .null, .null, .null, .null, .null, .null, .long 0, .long 0, .long 0, .long 0])), (q38, .inr (11, [.null, .int 0, .int 0]))] ++ (ws_Whole g q27 u31 ++ (ws_Whole g q16 u20 ++ (ws_Whole g q5 u9 ++ ([] : va_W))))) := hD
  refine W.widen (k := 7) (n := 21) (by decide) (by decide) ?_
  refine lv_dup hx hb d_Calc_init_41 rfl ?_
  have hP := pm_subP (a' := [(q38, .inr (11, [.null, .int 0, .int 0])), (h0, .inr (0, [.ref q5, .ref q16, .ref q27, .null, .null, .null, .null, .null, .null, .null, .long 0, .long 0, .long 0, .long 0]))]) hP [1, 0] rfl
  have hD := pm_subD (a' := [(q38, .inr (11, [.null, .int 0, .int 0])), (h0, .inr (0, [.ref q5, .ref q16, .ref q27, .null, .null, .null, .null, .null, .null, .null, .long 0, .long 0, .long 0, .long 0]))]) hD [1, 0] (by decide) rfl
  have hP : va_P D vC ([(q38, .inr (11, [.null, .int 0, .int 0]))] ++ ([(h0, .inr (0, [.ref q5, .ref q16, .ref q27, .null, .null, .null, .null, .null, .null, .null, .long 0, .long 0, .long 0, .long 0]))] ++ (ws_Whole g q27 u31 ++ (ws_Whole g q16 u20 ++ (ws_Whole g q5 u9 ++ ([] : va_W)))))) H := hP
  have hD : va_D A ([(q38, .inr (11, [.null, .int 0, .int 0]))] ++ ([(h0, .inr (0, [.ref q5, .ref q16, .ref q27, .null, .null, .null, .null, .null, .null, .null, .long 0, .long 0, .long 0, .long 0]))] ++ (ws_Whole g q27 u31 ++ (ws_Whole g q16 u20 ++ (ws_Whole g q5 u9 ++ ([] : va_W)))))) := hD
  have hFc := pm_free hD hS hA
  refine va_callv (va_runIN (As := []) (rest := [.ref q38, .ref h0]) ⟨hx, hb, hml, hown, hT⟩ (c_Whole_init l D g q38 H.size) (⟨va_cnB 0 hT gd_Whole_init rfl rfl rfl (hN.1 _ nw_401) (hT _ tw_158) (by decide +kernel) ⟨Nat.le_of_ble_eq_true rfl, Nat.le_of_ble_eq_true rfl⟩, rfl, hT _ tw_243⟩) (cp_S hP hK hD hN) rfl rfl hl.1 rfl (lv_room (Nat.le_of_ble_eq_true rfl)) d_Calc_init_42 ⟨Nat.le_of_ble_eq_true rfl, Nat.le_of_ble_eq_true rfl⟩) hS (fun q _ h => hFc q h) hFc (fun u42 t H1 locs ht1 hvm hw hB hz1 hk1 hS => ?_)
  obtain ⟨hP1, hD1⟩ := hB
  rw [ht1] at hP1
  obtain ⟨hP, hD⟩ := pm_join hP hD hk1 hFc hP1 hD1
  generalize H1 = H at hP hS ⊢
  have hP := pm_swapP hP
  have hD := pm_swapD hD
  have hP : va_P D vC ([(h0, .inr (0, [.ref q5, .ref q16, .ref q27, .null, .null, .null, .null, .null, .null, .null, .long 0, .long 0, .long 0, .long 0]))] ++ (ws_Whole g q38 u42 ++ (ws_Whole g q27 u31 ++ (ws_Whole g q16 u20 ++ (ws_Whole g q5 u9 ++ ([] : va_W)))))) H := hP
  have hD : va_D A ([(h0, .inr (0, [.ref q5, .ref q16, .ref q27, .null, .null, .null, .null, .null, .null, .null, .long 0, .long 0, .long 0, .long 0]))] ++ (ws_Whole g q38 u42 ++ (ws_Whole g q27 u31 ++ (ws_Whole g q16 u20 ++ (ws_Whole g q5 u9 ++ ([] : va_W)))))) := hD
  refine W.widen (k := 8) (n := 24) (by decide) (by decide) ?_
  refine va_put (D := D) (ci := 0) (v := .ref q38) (ty := .object "MatrixScripts$Whole") (C := "MatrixScripts$Calc") (T := T_Calc) (N := 14) hx hb hT in_Calc ty_Calc ty_Calc_ok nm_Calc hown hK hP hD hS 0 rfl rfl 3 (by decide) (hT _ tw_407) (fun _ h9 => h9) rfl (by decide +kernel) rfl rfl (Nat.le_of_ble_eq_true rfl) d_Calc_init_45 (fun H locs hP hD hS => ?_)
  have hP : va_P D vC ([(h0, .inr (0, [.ref q5, .ref q16, .ref q27, .ref q38, .null, .null, .null, .null, .null, .null, .long 0, .long 0, .long 0, .long 0]))] ++ (ws_Whole g q38 u42 ++ (ws_Whole g q27 u31 ++ (ws_Whole g q16 u20 ++ (ws_Whole g q5 u9 ++ ([] : va_W)))))) H := hP
  have hD : va_D A ([(h0, .inr (0, [.ref q5, .ref q16, .ref q27, .ref q38, .null, .null, .null, .null, .null, .null, .long 0, .long 0, .long 0, .long 0]))] ++ (ws_Whole g q38 u42 ++ (ws_Whole g q27 u31 ++ (ws_Whole g q16 u20 ++ (ws_Whole g q5 u9 ++ ([] : va_W)))))) := hD
  refine lv_aload_n hx hb d_Calc_init_48 rfl (lv_at hl 0 rfl) ?_
  refine pm_new (D := D) (ci := 11) (fs := [.null, .int 0, .int 0]) (C := "MatrixScripts$Whole") (T := T_Whole) (N := 3) hx hb hT in_Whole ty_Whole ty_Whole_ok hown (hT _ tw_400) (hT _ tw_241) (hT _ tw_158) hK hP hD hS hA rfl (by decide) (Nat.le_of_ble_eq_true rfl) (Nat.le_of_ble_eq_true rfl) d_Calc_init_49 (fun q49 H hP hD hS => ?_)
  have hP : va_P D vC ([(h0, .inr (0, [.ref q5, .ref q16, .ref q27, .ref q38, .null, .null, .null, .null, .null, .null, .long 0, .long 0, .long 0, .long 0])), (q49, .inr (11, [.null, .int 0, .int 0]))] ++ (ws_Whole g q38 u42 ++ (ws_Whole g q27 u31 ++ (ws_Whole g q16 u20 ++ (ws_Whole g q5 u9 ++ ([] : va_W)))))) H := hP
  have hD : va_D A ([(h0, .inr (0, [.ref q5, .ref q16, .ref q27, .ref q38, .null, .null, .null, .null, .null, .null, .long 0, .long 0, .long 0, .long 0])), (q49, .inr (11, [.null, .int 0, .int 0]))] ++ (ws_Whole g q38 u42 ++ (ws_Whole g q27 u31 ++ (ws_Whole g q16 u20 ++ (ws_Whole g q5 u9 ++ ([] : va_W)))))) := hD
  refine W.widen (k := 9) (n := 27) (by decide) (by decide) ?_
  refine lv_dup hx hb d_Calc_init_52 rfl ?_
  have hP := pm_subP (a' := [(q49, .inr (11, [.null, .int 0, .int 0])), (h0, .inr (0, [.ref q5, .ref q16, .ref q27, .ref q38, .null, .null, .null, .null, .null, .null, .long 0, .long 0, .long 0, .long 0]))]) hP [1, 0] rfl
  have hD := pm_subD (a' := [(q49, .inr (11, [.null, .int 0, .int 0])), (h0, .inr (0, [.ref q5, .ref q16, .ref q27, .ref q38, .null, .null, .null, .null, .null, .null, .long 0, .long 0, .long 0, .long 0]))]) hD [1, 0] (by decide) rfl
  have hP : va_P D vC ([(q49, .inr (11, [.null, .int 0, .int 0]))] ++ ([(h0, .inr (0, [.ref q5, .ref q16, .ref q27, .ref q38, .null, .null, .null, .null, .null, .null, .long 0, .long 0, .long 0, .long 0]))] ++ (ws_Whole g q38 u42 ++ (ws_Whole g q27 u31 ++ (ws_Whole g q16 u20 ++ (ws_Whole g q5 u9 ++ ([] : va_W))))))) H := hP
  have hD : va_D A ([(q49, .inr (11, [.null, .int 0, .int 0]))] ++ ([(h0, .inr (0, [.ref q5, .ref q16, .ref q27, .ref q38, .null, .null, .null, .null, .null, .null, .long 0, .long 0, .long 0, .long 0]))] ++ (ws_Whole g q38 u42 ++ (ws_Whole g q27 u31 ++ (ws_Whole g q16 u20 ++ (ws_Whole g q5 u9 ++ ([] : va_W))))))) := hD
  have hFc := pm_free hD hS hA
  refine va_callv (va_runIN (As := []) (rest := [.ref q49, .ref h0]) ⟨hx, hb, hml, hown, hT⟩ (c_Whole_init l D g q49 H.size) (⟨va_cnB 0 hT gd_Whole_init rfl rfl rfl (hN.1 _ nw_401) (hT _ tw_158) (by decide +kernel) ⟨Nat.le_of_ble_eq_true rfl, Nat.le_of_ble_eq_true rfl⟩, rfl, hT _ tw_243⟩) (cp_S hP hK hD hN) rfl rfl hl.1 rfl (lv_room (Nat.le_of_ble_eq_true rfl)) d_Calc_init_53 ⟨Nat.le_of_ble_eq_true rfl, Nat.le_of_ble_eq_true rfl⟩) hS (fun q _ h => hFc q h) hFc (fun u53 t H1 locs ht1 hvm hw hB hz1 hk1 hS => ?_)
  obtain ⟨hP1, hD1⟩ := hB
  rw [ht1] at hP1
  obtain ⟨hP, hD⟩ := pm_join hP hD hk1 hFc hP1 hD1
  generalize H1 = H at hP hS ⊢
  have hP := pm_swapP hP
  have hD := pm_swapD hD
  have hP : va_P D vC ([(h0, .inr (0, [.ref q5, .ref q16, .ref q27, .ref q38, .null, .null, .null, .null, .null, .null, .long 0, .long 0, .long 0, .long 0]))] ++ (ws_Whole g q49 u53 ++ (ws_Whole g q38 u42 ++ (ws_Whole g q27 u31 ++ (ws_Whole g q16 u20 ++ (ws_Whole g q5 u9 ++ ([] : va_W))))))) H := hP
  have hD : va_D A ([(h0, .inr (0, [.ref q5, .ref q16, .ref q27, .ref q38, .null, .null, .null, .null, .null, .null, .long 0, .long 0, .long 0, .long 0]))] ++ (ws_Whole g q49 u53 ++ (ws_Whole g q38 u42 ++ (ws_Whole g q27 u31 ++ (ws_Whole g q16 u20 ++ (ws_Whole g q5 u9 ++ ([] : va_W))))))) := hD
  refine W.widen (k := 10) (n := 30) (by decide) (by decide) ?_
  refine va_put (D := D) (ci := 0) (v := .ref q49) (ty := .object "MatrixScripts$Whole") (C := "MatrixScripts$Calc") (T := T_Calc) (N := 14) hx hb hT in_Calc ty_Calc ty_Calc_ok nm_Calc hown hK hP hD hS 0 rfl rfl 4 (by decide) (hT _ tw_408) (fun _ h9 => h9) rfl (by decide +kernel) rfl rfl (Nat.le_of_ble_eq_true rfl) d_Calc_init_56 (fun H locs hP hD hS => ?_)
  have hP : va_P D vC ([(h0, .inr (0, [.ref q5, .ref q16, .ref q27, .ref q38, .ref q49, .null, .null, .null, .null, .null, .long 0, .long 0, .long 0, .long 0]))] ++ (ws_Whole g q49 u53 ++ (ws_Whole g q38 u42 ++ (ws_Whole g q27 u31 ++ (ws_Whole g q16 u20 ++ (ws_Whole g q5 u9 ++ ([] : va_W))))))) H := hP
  have hD : va_D A ([(h0, .inr (0, [.ref q5, .ref q16, .ref q27, .ref q38, .ref q49, .null, .null, .null, .null, .null, .long 0, .long 0, .long 0, .long 0]))] ++ (ws_Whole g q49 u53 ++ (ws_Whole g q38 u42 ++ (ws_Whole g q27 u31 ++ (ws_Whole g q16 u20 ++ (ws_Whole g q5 u9 ++ ([] : va_W))))))) := hD
  refine lv_aload_n hx hb d_Calc_init_59 rfl (lv_at hl 0 rfl) ?_
  refine pm_new (D := D) (ci := 11) (fs := [.null, .int 0, .int 0]) (C := "MatrixScripts$Whole") (T := T_Whole) (N := 3) hx hb hT in_Whole ty_Whole ty_Whole_ok hown (hT _ tw_400) (hT _ tw_241) (hT _ tw_158) hK hP hD hS hA rfl (by decide) (Nat.le_of_ble_eq_true rfl) (Nat.le_of_ble_eq_true rfl) d_Calc_init_60 (fun q60 H hP hD hS => ?_)
  have hP : va_P D vC ([(h0, .inr (0, [.ref q5, .ref q16, .ref q27, .ref q38, .ref q49, .null, .null, .null, .null, .null, .long 0, .long 0, .long 0, .long 0])), (q60, .inr (11, [.null, .int 0, .int 0]))] ++ (ws_Whole g q49 u53 ++ (ws_Whole g q38 u42 ++ (ws_Whole g q27 u31 ++ (ws_Whole g q16 u20 ++ (ws_Whole g q5 u9 ++ ([] : va_W))))))) H := hP
  have hD : va_D A ([(h0, .inr (0, [.ref q5, .ref q16, .ref q27, .ref q38, .ref q49, .null, .null, .null, .null, .null, .long 0, .long 0, .long 0, .long 0])), (q60, .inr (11, [.null, .int 0, .int 0]))] ++ (ws_Whole g q49 u53 ++ (ws_Whole g q38 u42 ++ (ws_Whole g q27 u31 ++ (ws_Whole g q16 u20 ++ (ws_Whole g q5 u9 ++ ([] : va_W))))))) := hD
  refine W.widen (k := 11) (n := 33) (by decide) (by decide) ?_
  refine lv_dup hx hb d_Calc_init_63 rfl ?_
  have hP := pm_subP (a' := [(q60, .inr (11, [.null, .int 0, .int 0])), (h0, .inr (0, [.ref q5, .ref q16, .ref q27, .ref q38, .ref q49, .null, .null, .null, .null, .null, .long 0, .long 0, .long 0, .long 0]))]) hP [1, 0] rfl
  have hD := pm_subD (a' := [(q60, .inr (11, [.null, .int 0, .int 0])), (h0, .inr (0, [.ref q5, .ref q16, .ref q27, .ref q38, .ref q49, .null, .null, .null, .null, .null, .long 0, .long 0, .long 0, .long 0]))]) hD [1, 0] (by decide) rfl
  have hP : va_P D vC ([(q60, .inr (11, [.null, .int 0, .int 0]))] ++ ([(h0, .inr (0, [.ref q5, .ref q16, .ref q27, .ref q38, .ref q49, .null, .null, .null, .null, .null, .long 0, .long 0, .long 0, .long 0]))] ++ (ws_Whole g q49 u53 ++ (ws_Whole g q38 u42 ++ (ws_Whole g q27 u31 ++ (ws_Whole g q16 u20 ++ (ws_Whole g q5 u9 ++ ([] : va_W)))))))) H := hP
  have hD : va_D A ([(q60, .inr (11, [.null, .int 0, .int 0]))] ++ ([(h0, .inr (0, [.ref q5, .ref q16, .ref q27, .ref q38, .ref q49, .null, .null, .null, .null, .null, .long 0, .long 0, .long 0, .long 0]))] ++ (ws_Whole g q49 u53 ++ (ws_Whole g q38 u42 ++ (ws_Whole g q27 u31 ++ (ws_Whole g q16 u20 ++ (ws_Whole g q5 u9 ++ ([] : va_W)))))))) := hD
  have hFc := pm_free hD hS hA
  refine va_callv (va_runIN (As := []) (rest := [.ref q60, .ref h0]) ⟨hx, hb, hml, hown, hT⟩ (c_Whole_init l D g q60 H.size) (⟨va_cnB 0 hT gd_Whole_init rfl rfl rfl (hN.1 _ nw_401) (hT _ tw_158) (by decide +kernel) ⟨Nat.le_of_ble_eq_true rfl, Nat.le_of_ble_eq_true rfl⟩, rfl, hT _ tw_243⟩) (cp_S hP hK hD hN) rfl rfl hl.1 rfl (lv_room (Nat.le_of_ble_eq_true rfl)) d_Calc_init_64 ⟨Nat.le_of_ble_eq_true rfl, Nat.le_of_ble_eq_true rfl⟩) hS (fun q _ h => hFc q h) hFc (fun u64 t H1 locs ht1 hvm hw hB hz1 hk1 hS => ?_)
  obtain ⟨hP1, hD1⟩ := hB
  rw [ht1] at hP1
  obtain ⟨hP, hD⟩ := pm_join hP hD hk1 hFc hP1 hD1
  generalize H1 = H at hP hS ⊢
  have hP := pm_swapP hP
  have hD := pm_swapD hD
  have hP : va_P D vC ([(h0, .inr (0, [.ref q5, .ref q16, .ref q27, .ref q38, .ref q49, .null, .null, .null, .null, .null, .long 0, .long 0, .long 0, .long 0]))] ++ (ws_Whole g q60 u64 ++ (ws_Whole g q49 u53 ++ (ws_Whole g q38 u42 ++ (ws_Whole g q27 u31 ++ (ws_Whole g q16 u20 ++ (ws_Whole g q5 u9 ++ ([] : va_W)))))))) H := hP
  have hD : va_D A ([(h0, .inr (0, [.ref q5, .ref q16, .ref q27, .ref q38, .ref q49, .null, .null, .null, .null, .null, .long 0, .long 0, .long 0, .long 0]))] ++ (ws_Whole g q60 u64 ++ (ws_Whole g q49 u53 ++ (ws_Whole g q38 u42 ++ (ws_Whole g q27 u31 ++ (ws_Whole g q16 u20 ++ (ws_Whole g q5 u9 ++ ([] : va_W)))))))) := hD
  refine W.widen (k := 12) (n := 36) (by decide) (by decide) ?_
  refine va_put (D := D) (ci := 0) (v := .ref q60) (ty := .object "MatrixScripts$Whole") (C := "MatrixScripts$Calc") (T := T_Calc) (N := 14) hx hb hT in_Calc ty_Calc ty_Calc_ok nm_Calc hown hK hP hD hS 0 rfl rfl 5 (by decide) (hT _ tw_409) (fun _ h9 => h9) rfl (by decide +kernel) rfl rfl (Nat.le_of_ble_eq_true rfl) d_Calc_init_67 (fun H locs hP hD hS => ?_)
  have hP : va_P D vC ([(h0, .inr (0, [.ref q5, .ref q16, .ref q27, .ref q38, .ref q49, .ref q60, .null, .null, .null, .null, .long 0, .long 0, .long 0, .long 0]))] ++ (ws_Whole g q60 u64 ++ (ws_Whole g q49 u53 ++ (ws_Whole g q38 u42 ++ (ws_Whole g q27 u31 ++ (ws_Whole g q16 u20 ++ (ws_Whole g q5 u9 ++ ([] : va_W)))))))) H := hP
  have hD : va_D A ([(h0, .inr (0, [.ref q5, .ref q16, .ref q27, .ref q38, .ref q49, .ref q60, .null, .null, .null, .null, .long 0, .long 0, .long 0, .long 0]))] ++ (ws_Whole g q60 u64 ++ (ws_Whole g q49 u53 ++ (ws_Whole g q38 u42 ++ (ws_Whole g q27 u31 ++ (ws_Whole g q16 u20 ++ (ws_Whole g q5 u9 ++ ([] : va_W)))))))) := hD
  refine lv_aload_n hx hb d_Calc_init_70 rfl (lv_at hl 0 rfl) ?_
  refine pm_new (D := D) (ci := 11) (fs := [.null, .int 0, .int 0]) (C := "MatrixScripts$Whole") (T := T_Whole) (N := 3) hx hb hT in_Whole ty_Whole ty_Whole_ok hown (hT _ tw_400) (hT _ tw_241) (hT _ tw_158) hK hP hD hS hA rfl (by decide) (Nat.le_of_ble_eq_true rfl) (Nat.le_of_ble_eq_true rfl) d_Calc_init_71 (fun q71 H hP hD hS => ?_)
  have hP : va_P D vC ([(h0, .inr (0, [.ref q5, .ref q16, .ref q27, .ref q38, .ref q49, .ref q60, .null, .null, .null, .null, .long 0, .long 0, .long 0, .long 0])), (q71, .inr (11, [.null, .int 0, .int 0]))] ++ (ws_Whole g q60 u64 ++ (ws_Whole g q49 u53 ++ (ws_Whole g q38 u42 ++ (ws_Whole g q27 u31 ++ (ws_Whole g q16 u20 ++ (ws_Whole g q5 u9 ++ ([] : va_W)))))))) H := hP
  have hD : va_D A ([(h0, .inr (0, [.ref q5, .ref q16, .ref q27, .ref q38, .ref q49, .ref q60, .null, .null, .null, .null, .long 0, .long 0, .long 0, .long 0])), (q71, .inr (11, [.null, .int 0, .int 0]))] ++ (ws_Whole g q60 u64 ++ (ws_Whole g q49 u53 ++ (ws_Whole g q38 u42 ++ (ws_Whole g q27 u31 ++ (ws_Whole g q16 u20 ++ (ws_Whole g q5 u9 ++ ([] : va_W)))))))) := hD
  refine W.widen (k := 13) (n := 39) (by decide) (by decide) ?_
  refine lv_dup hx hb d_Calc_init_74 rfl ?_
  have hP := pm_subP (a' := [(q71, .inr (11, [.null, .int 0, .int 0])), (h0, .inr (0, [.ref q5, .ref q16, .ref q27, .ref q38, .ref q49, .ref q60, .null, .null, .null, .null, .long 0, .long 0, .long 0, .long 0]))]) hP [1, 0] rfl
  have hD := pm_subD (a' := [(q71, .inr (11, [.null, .int 0, .int 0])), (h0, .inr (0, [.ref q5, .ref q16, .ref q27, .ref q38, .ref q49, .ref q60, .null, .null, .null, .null, .long 0, .long 0, .long 0, .long 0]))]) hD [1, 0] (by decide) rfl
  have hP : va_P D vC ([(q71, .inr (11, [.null, .int 0, .int 0]))] ++ ([(h0, .inr (0, [.ref q5, .ref q16, .ref q27, .ref q38, .ref q49, .ref q60, .null, .null, .null, .null, .long 0, .long 0, .long 0, .long 0]))] ++ (ws_Whole g q60 u64 ++ (ws_Whole g q49 u53 ++ (ws_Whole g q38 u42 ++ (ws_Whole g q27 u31 ++ (ws_Whole g q16 u20 ++ (ws_Whole g q5 u9 ++ ([] : va_W))))))))) H := hP
  have hD : va_D A ([(q71, .inr (11, [.null, .int 0, .int 0]))] ++ ([(h0, .inr (0, [.ref q5, .ref q16, .ref q27, .ref q38, .ref q49, .ref q60, .null, .null, .null, .null, .long 0, .long 0, .long 0, .long 0]))] ++ (ws_Whole g q60 u64 ++ (ws_Whole g q49 u53 ++ (ws_Whole g q38 u42 ++ (ws_Whole g q27 u31 ++ (ws_Whole g q16 u20 ++ (ws_Whole g q5 u9 ++ ([] : va_W))))))))) := hD
  have hFc := pm_free hD hS hA
  refine va_callv (va_runIN (As := []) (rest := [.ref q71, .ref h0]) ⟨hx, hb, hml, hown, hT⟩ (c_Whole_init l D g q71 H.size) (⟨va_cnB 0 hT gd_Whole_init rfl rfl rfl (hN.1 _ nw_401) (hT _ tw_158) (by decide +kernel) ⟨Nat.le_of_ble_eq_true rfl, Nat.le_of_ble_eq_true rfl⟩, rfl, hT _ tw_243⟩) (cp_S hP hK hD hN) rfl rfl hl.1 rfl (lv_room (Nat.le_of_ble_eq_true rfl)) d_Calc_init_75 ⟨Nat.le_of_ble_eq_true rfl, Nat.le_of_ble_eq_true rfl⟩) hS (fun q _ h => hFc q h) hFc (fun u75 t H1 locs ht1 hvm hw hB hz1 hk1 hS => ?_)
  obtain ⟨hP1, hD1⟩ := hB
  rw [ht1] at hP1
  obtain ⟨hP, hD⟩ := pm_join hP hD hk1 hFc hP1 hD1
  generalize H1 = H at hP hS ⊢
  have hP := pm_swapP hP
  have hD := pm_swapD hD
  have hP : va_P D vC ([(h0, .inr (0, [.ref q5, .ref q16, .ref q27, .ref q38, .ref q49, .ref q60, .null, .null, .null, .null, .long 0, .long 0, .long 0, .long 0]))] ++ (ws_Whole g q71 u75 ++ (ws_Whole g q60 u64 ++ (ws_Whole g q49 u53 ++ (ws_Whole g q38 u42 ++ (ws_Whole g q27 u31 ++ (ws_Whole g q16 u20 ++ (ws_Whole g q5 u9 ++ ([] : va_W))))))))) H := hP
  have hD : va_D A ([(h0, .inr (0, [.ref q5, .ref q16, .ref q27, .ref q38, .ref q49, .ref q60, .null, .null, .null, .null, .long 0, .long 0, .long 0, .long 0]))] ++ (ws_Whole g q71 u75 ++ (ws_Whole g q60 u64 ++ (ws_Whole g q49 u53 ++ (ws_Whole g q38 u42 ++ (ws_Whole g q27 u31 ++ (ws_Whole g q16 u20 ++ (ws_Whole g q5 u9 ++ ([] : va_W))))))))) := hD
  refine W.widen (k := 14) (n := 42) (by decide) (by decide) ?_
  refine va_put (D := D) (ci := 0) (v := .ref q71) (ty := .object "MatrixScripts$Whole") (C := "MatrixScripts$Calc") (T := T_Calc) (N := 14) hx hb hT in_Calc ty_Calc ty_Calc_ok nm_Calc hown hK hP hD hS 0 rfl rfl 6 (by decide) (hT _ tw_410) (fun _ h9 => h9) rfl (by decide +kernel) rfl rfl (Nat.le_of_ble_eq_true rfl) d_Calc_init_78 (fun H locs hP hD hS => ?_)
  have hP : va_P D vC ([(h0, .inr (0, [.ref q5, .ref q16, .ref q27, .ref q38, .ref q49, .ref q60, .ref q71, .null, .null, .null, .long 0, .long 0, .long 0, .long 0]))] ++ (ws_Whole g q71 u75 ++ (ws_Whole g q60 u64 ++ (ws_Whole g q49 u53 ++ (ws_Whole g q38 u42 ++ (ws_Whole g q27 u31 ++ (ws_Whole g q16 u20 ++ (ws_Whole g q5 u9 ++ ([] : va_W))))))))) H := hP
  have hD : va_D A ([(h0, .inr (0, [.ref q5, .ref q16, .ref q27, .ref q38, .ref q49, .ref q60, .ref q71, .null, .null, .null, .long 0, .long 0, .long 0, .long 0]))] ++ (ws_Whole g q71 u75 ++ (ws_Whole g q60 u64 ++ (ws_Whole g q49 u53 ++ (ws_Whole g q38 u42 ++ (ws_Whole g q27 u31 ++ (ws_Whole g q16 u20 ++ (ws_Whole g q5 u9 ++ ([] : va_W))))))))) := hD
  refine lv_aload_n hx hb d_Calc_init_81 rfl (lv_at hl 0 rfl) ?_
  refine pm_new (D := D) (ci := 11) (fs := [.null, .int 0, .int 0]) (C := "MatrixScripts$Whole") (T := T_Whole) (N := 3) hx hb hT in_Whole ty_Whole ty_Whole_ok hown (hT _ tw_400) (hT _ tw_241) (hT _ tw_158) hK hP hD hS hA rfl (by decide) (Nat.le_of_ble_eq_true rfl) (Nat.le_of_ble_eq_true rfl) d_Calc_init_82 (fun q82 H hP hD hS => ?_)
  have hP : va_P D vC ([(h0, .inr (0, [.ref q5, .ref q16, .ref q27, .ref q38, .ref q49, .ref q60, .ref q71, .null, .null, .null, .long 0, .long 0, .long 0, .long 0])), (q82, .inr (11, [.null, .int 0, .int 0]))] ++ (ws_Whole g q71 u75 ++ (ws_Whole g q60 u64 ++ (ws_Whole g q49 u53 ++ (ws_Whole g q38 u42 ++ (ws_Whole g q27 u31 ++ (ws_Whole g q16 u20 ++ (ws_Whole g q5 u9 ++ ([] : va_W))))))))) H := hP
  have hD : va_D A ([(h0, .inr (0, [.ref q5, .ref q16, .ref q27, .ref q38, .ref q49, .ref q60, .ref q71, .null, .null, .null, .long 0, .long 0, .long 0, .long 0])), (q82, .inr (11, [.null, .int 0, .int 0]))] ++ (ws_Whole g q71 u75 ++ (ws_Whole g q60 u64 ++ (ws_Whole g q49 u53 ++ (ws_Whole g q38 u42 ++ (ws_Whole g q27 u31 ++ (ws_Whole g q16 u20 ++ (ws_Whole g q5 u9 ++ ([] : va_W))))))))) := hD
  refine W.widen (k := 15) (n := 45) (by decide) (by decide) ?_
  refine lv_dup hx hb d_Calc_init_85 rfl ?_
  have hP := pm_subP (a' := [(q82, .inr (11, [.null, .int 0, .int 0])), (h0, .inr (0, [.ref q5, .ref q16, .ref q27, .ref q38, .ref q49, .ref q60, .ref q71, .null, .null, .null, .long 0, .long 0, .long 0, .long 0]))]) hP [1, 0] rfl
  have hD := pm_subD (a' := [(q82, .inr (11, [.null, .int 0, .int 0])), (h0, .inr (0, [.ref q5, .ref q16, .ref q27, .ref q38, .ref q49, .ref q60, .ref q71, .null, .null, .null, .long 0, .long 0, .long 0, .long 0]))]) hD [1, 0] (by decide) rfl
  have hP : va_P D vC ([(q82, .inr (11, [.null, .int 0, .int 0]))] ++ ([(h0, .inr (0, [.ref q5, .ref q16, .ref q27, .ref q38, .ref q49, .ref q60, .ref q71, .null, .null, .null, .long 0, .long 0, .long 0, .long 0]))] ++ (ws_Whole g q71 u75 ++ (ws_Whole g q60 u64 ++ (ws_Whole g q49 u53 ++ (ws_Whole g q38 u42 ++ (ws_Whole g q27 u31 ++ (ws_Whole g q16 u20 ++ (ws_Whole g q5 u9 ++ ([] : va_W)))))))))) H := hP
  have hD : va_D A ([(q82, .inr (11, [.null, .int 0, .int 0]))] ++ ([(h0, .inr (0, [.ref q5, .ref q16, .ref q27, .ref q38, .ref q49, .ref q60, .ref q71, .null, .null, .null, .long 0, .long 0, .long 0, .long 0]))] ++ (ws_Whole g q71 u75 ++ (ws_Whole g q60 u64 ++ (ws_Whole g q49 u53 ++ (ws_Whole g q38 u42 ++ (ws_Whole g q27 u31 ++ (ws_Whole g q16 u20 ++ (ws_Whole g q5 u9 ++ ([] : va_W)))))))))) := hD
  have hFc := pm_free hD hS hA
  refine va_callv (va_runIN (As := []) (rest := [.ref q82, .ref h0]) ⟨hx, hb, hml, hown, hT⟩ (c_Whole_init l D g q82 H.size) (⟨va_cnB 0 hT gd_Whole_init rfl rfl rfl (hN.1 _ nw_401) (hT _ tw_158) (by decide +kernel) ⟨Nat.le_of_ble_eq_true rfl, Nat.le_of_ble_eq_true rfl⟩, rfl, hT _ tw_243⟩) (cp_S hP hK hD hN) rfl rfl hl.1 rfl (lv_room (Nat.le_of_ble_eq_true rfl)) d_Calc_init_86 ⟨Nat.le_of_ble_eq_true rfl, Nat.le_of_ble_eq_true rfl⟩) hS (fun q _ h => hFc q h) hFc (fun u86 t H1 locs ht1 hvm hw hB hz1 hk1 hS => ?_)
  obtain ⟨hP1, hD1⟩ := hB
  rw [ht1] at hP1
  obtain ⟨hP, hD⟩ := pm_join hP hD hk1 hFc hP1 hD1
  generalize H1 = H at hP hS ⊢
  have hP := pm_swapP hP
  have hD := pm_swapD hD
  have hP : va_P D vC ([(h0, .inr (0, [.ref q5, .ref q16, .ref q27, .ref q38, .ref q49, .ref q60, .ref q71, .null, .null, .null, .long 0, .long 0, .long 0, .long 0]))] ++ (ws_Whole g q82 u86 ++ (ws_Whole g q71 u75 ++ (ws_Whole g q60 u64 ++ (ws_Whole g q49 u53 ++ (ws_Whole g q38 u42 ++ (ws_Whole g q27 u31 ++ (ws_Whole g q16 u20 ++ (ws_Whole g q5 u9 ++ ([] : va_W)))))))))) H := hP
  have hD : va_D A ([(h0, .inr (0, [.ref q5, .ref q16, .ref q27, .ref q38, .ref q49, .ref q60, .ref q71, .null, .null, .null, .long 0, .long 0, .long 0, .long 0]))] ++ (ws_Whole g q82 u86 ++ (ws_Whole g q71 u75 ++ (ws_Whole g q60 u64 ++ (ws_Whole g q49 u53 ++ (ws_Whole g q38 u42 ++ (ws_Whole g q27 u31 ++ (ws_Whole g q16 u20 ++ (ws_Whole g q5 u9 ++ ([] : va_W)))))))))) := hD
  refine W.widen (k := 16) (n := 48) (by decide) (by decide) ?_
  refine va_putF (D := D) (ci := 0) (v := .ref q82) (ty := .object "MatrixScripts$Whole") (C := "MatrixScripts$Calc") (T := T_Calc) (N := 14) hx hb hT in_Calc ty_Calc ty_Calc_ok nm_Calc hown hK hP hD hS 0 rfl rfl 7 (by decide) (hT _ tw_411) (fun _ h9 => h9) rfl hin rfl (by decide +kernel) rfl rfl (Nat.le_of_ble_eq_true rfl) d_Calc_init_89 (fun H locs hP hD hS => ?_)
  have hP : va_P D vC ([(h0, .inr (0, [.ref q5, .ref q16, .ref q27, .ref q38, .ref q49, .ref q60, .ref q71, .ref q82, .null, .null, .long 0, .long 0, .long 0, .long 0]))] ++ (ws_Whole g q82 u86 ++ (ws_Whole g q71 u75 ++ (ws_Whole g q60 u64 ++ (ws_Whole g q49 u53 ++ (ws_Whole g q38 u42 ++ (ws_Whole g q27 u31 ++ (ws_Whole g q16 u20 ++ (ws_Whole g q5 u9 ++ ([] : va_W)))))))))) H := hP
  have hD : va_D A ([(h0, .inr (0, [.ref q5, .ref q16, .ref q27, .ref q38, .ref q49, .ref q60, .ref q71, .ref q82, .null, .null, .long 0, .long 0, .long 0, .long 0]))] ++ (ws_Whole g q82 u86 ++ (ws_Whole g q71 u75 ++ (ws_Whole g q60 u64 ++ (ws_Whole g q49 u53 ++ (ws_Whole g q38 u42 ++ (ws_Whole g q27 u31 ++ (ws_Whole g q16 u20 ++ (ws_Whole g q5 u9 ++ ([] : va_W)))))))))) := hD
  refine lv_aload_n hx hb d_Calc_init_92 rfl (lv_at hl 0 rfl) ?_
  refine pm_new (D := D) (ci := 11) (fs := [.null, .int 0, .int 0]) (C := "MatrixScripts$Whole") (T := T_Whole) (N := 3) hx hb hT in_Whole ty_Whole ty_Whole_ok hown (hT _ tw_400) (hT _ tw_241) (hT _ tw_158) hK hP hD hS hA rfl (by decide) (Nat.le_of_ble_eq_true rfl) (Nat.le_of_ble_eq_true rfl) d_Calc_init_93 (fun q93 H hP hD hS => ?_)
  have hP : va_P D vC ([(h0, .inr (0, [.ref q5, .ref q16, .ref q27, .ref q38, .ref q49, .ref q60, .ref q71, .ref q82, .null, .null, .long 0, .long 0, .long 0, .long 0])), (q93, .inr (11, [.null, .int 0, .int 0]))] ++ (ws_Whole g q82 u86 ++ (ws_Whole g q71 u75 ++ (ws_Whole g q60 u64 ++ (ws_Whole g q49 u53 ++ (ws_Whole g q38 u42 ++ (ws_Whole g q27 u31 ++ (ws_Whole g q16 u20 ++ (ws_Whole g q5 u9 ++ ([] : va_W)))))))))) H := hP
  have hD : va_D A ([(h0, .inr (0, [.ref q5, .ref q16, .ref q27, .ref q38, .ref q49, .ref q60, .ref q71, .ref q82, .null, .null, .long 0, .long 0, .long 0, .long 0])), (q93, .inr (11, [.null, .int 0, .int 0]))] ++ (ws_Whole g q82 u86 ++ (ws_Whole g q71 u75 ++ (ws_Whole g q60 u64 ++ (ws_Whole g q49 u53 ++ (ws_Whole g q38 u42 ++ (ws_Whole g q27 u31 ++ (ws_Whole g q16 u20 ++ (ws_Whole g q5 u9 ++ ([] : va_W)))))))))) := hD
  refine W.widen (k := 17) (n := 51) (by decide) (by decide) ?_
  refine lv_dup hx hb d_Calc_init_96 rfl ?_
  have hP := pm_subP (a' := [(q93, .inr (11, [.null, .int 0, .int 0])), (h0, .inr (0, [.ref q5, .ref q16, .ref q27, .ref q38, .ref q49, .ref q60, .ref q71, .ref q82, .null, .null, .long 0, .long 0, .long 0, .long 0]))]) hP [1, 0] rfl
  have hD := pm_subD (a' := [(q93, .inr (11, [.null, .int 0, .int 0])), (h0, .inr (0, [.ref q5, .ref q16, .ref q27, .ref q38, .ref q49, .ref q60, .ref q71, .ref q82, .null, .null, .long 0, .long 0, .long 0, .long 0]))]) hD [1, 0] (by decide) rfl
  have hP : va_P D vC ([(q93, .inr (11, [.null, .int 0, .int 0]))] ++ ([(h0, .inr (0, [.ref q5, .ref q16, .ref q27, .ref q38, .ref q49, .ref q60, .ref q71, .ref q82, .null, .null, .long 0, .long 0, .long 0, .long 0]))] ++ (ws_Whole g q82 u86 ++ (ws_Whole g q71 u75 ++ (ws_Whole g q60 u64 ++ (ws_Whole g q49 u53 ++ (ws_Whole g q38 u42 ++ (ws_Whole g q27 u31 ++ (ws_Whole g q16 u20 ++ (ws_Whole g q5 u9 ++ ([] : va_W))))))))))) H := hP
  have hD : va_D A ([(q93, .inr (11, [.null, .int 0, .int 0]))] ++ ([(h0, .inr (0, [.ref q5, .ref q16, .ref q27, .ref q38, .ref q49, .ref q60, .ref q71, .ref q82, .null, .null, .long 0, .long 0, .long 0, .long 0]))] ++ (ws_Whole g q82 u86 ++ (ws_Whole g q71 u75 ++ (ws_Whole g q60 u64 ++ (ws_Whole g q49 u53 ++ (ws_Whole g q38 u42 ++ (ws_Whole g q27 u31 ++ (ws_Whole g q16 u20 ++ (ws_Whole g q5 u9 ++ ([] : va_W))))))))))) := hD
  have hFc := pm_free hD hS hA
  refine va_callv (va_runIN (As := []) (rest := [.ref q93, .ref h0]) ⟨hx, hb, hml, hown, hT⟩ (c_Whole_init l D g q93 H.size) (⟨va_cnB 0 hT gd_Whole_init rfl rfl rfl (hN.1 _ nw_401) (hT _ tw_158) (by decide +kernel) ⟨Nat.le_of_ble_eq_true rfl, Nat.le_of_ble_eq_true rfl⟩, rfl, hT _ tw_243⟩) (cp_S hP hK hD hN) rfl rfl hl.1 rfl (lv_room (Nat.le_of_ble_eq_true rfl)) d_Calc_init_97 ⟨Nat.le_of_ble_eq_true rfl, Nat.le_of_ble_eq_true rfl⟩) hS (fun q _ h => hFc q h) hFc (fun u97 t H1 locs ht1 hvm hw hB hz1 hk1 hS => ?_)
  obtain ⟨hP1, hD1⟩ := hB
  rw [ht1] at hP1
  obtain ⟨hP, hD⟩ := pm_join hP hD hk1 hFc hP1 hD1
  generalize H1 = H at hP hS ⊢
  have hP := pm_swapP hP
  have hD := pm_swapD hD
  have hP : va_P D vC ([(h0, .inr (0, [.ref q5, .ref q16, .ref q27, .ref q38, .ref q49, .ref q60, .ref q71, .ref q82, .null, .null, .long 0, .long 0, .long 0, .long 0]))] ++ (ws_Whole g q93 u97 ++ (ws_Whole g q82 u86 ++ (ws_Whole g q71 u75 ++ (ws_Whole g q60 u64 ++ (ws_Whole g q49 u53 ++ (ws_Whole g q38 u42 ++ (ws_Whole g q27 u31 ++ (ws_Whole g q16 u20 ++ (ws_Whole g q5 u9 ++ ([] : va_W))))))))))) H := hP
  have hD : va_D A ([(h0, .inr (0, [.ref q5, .ref q16, .ref q27, .ref q38, .ref q49, .ref q60, .ref q71, .ref q82, .null, .null, .long 0, .long 0, .long 0, .long 0]))] ++ (ws_Whole g q93 u97 ++ (ws_Whole g q82 u86 ++ (ws_Whole g q71 u75 ++ (ws_Whole g q60 u64 ++ (ws_Whole g q49 u53 ++ (ws_Whole g q38 u42 ++ (ws_Whole g q27 u31 ++ (ws_Whole g q16 u20 ++ (ws_Whole g q5 u9 ++ ([] : va_W))))))))))) := hD
  refine W.widen (k := 18) (n := 54) (by decide) (by decide) ?_
  refine va_put (D := D) (ci := 0) (v := .ref q93) (ty := .object "MatrixScripts$Whole") (C := "MatrixScripts$Calc") (T := T_Calc) (N := 14) hx hb hT in_Calc ty_Calc ty_Calc_ok nm_Calc hown hK hP hD hS 0 rfl rfl 8 (by decide) (hT _ tw_412) (fun _ h9 => h9) rfl (by decide +kernel) rfl rfl (Nat.le_of_ble_eq_true rfl) d_Calc_init_100 (fun H locs hP hD hS => ?_)
  have hP : va_P D vC ([(h0, .inr (0, [.ref q5, .ref q16, .ref q27, .ref q38, .ref q49, .ref q60, .ref q71, .ref q82, .ref q93, .null, .long 0, .long 0, .long 0, .long 0]))] ++ (ws_Whole g q93 u97 ++ (ws_Whole g q82 u86 ++ (ws_Whole g q71 u75 ++ (ws_Whole g q60 u64 ++ (ws_Whole g q49 u53 ++ (ws_Whole g q38 u42 ++ (ws_Whole g q27 u31 ++ (ws_Whole g q16 u20 ++ (ws_Whole g q5 u9 ++ ([] : va_W))))))))))) H := hP
  have hD : va_D A ([(h0, .inr (0, [.ref q5, .ref q16, .ref q27, .ref q38, .ref q49, .ref q60, .ref q71, .ref q82, .ref q93, .null, .long 0, .long 0, .long 0, .long 0]))] ++ (ws_Whole g q93 u97 ++ (ws_Whole g q82 u86 ++ (ws_Whole g q71 u75 ++ (ws_Whole g q60 u64 ++ (ws_Whole g q49 u53 ++ (ws_Whole g q38 u42 ++ (ws_Whole g q27 u31 ++ (ws_Whole g q16 u20 ++ (ws_Whole g q5 u9 ++ ([] : va_W))))))))))) := hD
  refine lv_aload_n hx hb d_Calc_init_103 rfl (lv_at hl 0 rfl) ?_
  refine pm_new (D := D) (ci := 11) (fs := [.null, .int 0, .int 0]) (C := "MatrixScripts$Whole") (T := T_Whole) (N := 3) hx hb hT in_Whole ty_Whole ty_Whole_ok hown (hT _ tw_400) (hT _ tw_241) (hT _ tw_158) hK hP hD hS hA rfl (by decide) (Nat.le_of_ble_eq_true rfl) (Nat.le_of_ble_eq_true rfl) d_Calc_init_104 (fun q104 H hP hD hS => ?_)
  have hP : va_P D vC ([(h0, .inr (0, [.ref q5, .ref q16, .ref q27, .ref q38, .ref q49, .ref q60, .ref q71, .ref q82, .ref q93, .null, .long 0, .long 0, .long 0, .long 0])), (q104, .inr (11, [.null, .int 0, .int 0]))] ++ (ws_Whole g q93 u97 ++ (ws_Whole g q82 u86 ++ (ws_Whole g q71 u75 ++ (ws_Whole g q60 u64 ++ (ws_Whole g q49 u53 ++ (ws_Whole g q38 u42 ++ (ws_Whole g q27 u31 ++ (ws_Whole g q16 u20 ++ (ws_Whole g q5 u9 ++ ([] : va_W))))))))))) H := hP
  have hD : va_D A ([(h0, .inr (0, [.ref q5, .ref q16, .ref q27, .ref q38, .ref q49, .ref q60, .ref q71, .ref q82, .ref q93, .null, .long 0, .long 0, .long 0, .long 0])), (q104, .inr (11, [.null, .int 0, .int 0]))] ++ (ws_Whole g q93 u97 ++ (ws_Whole g q82 u86 ++ (ws_Whole g q71 u75 ++ (ws_Whole g q60 u64 ++ (ws_Whole g q49 u53 ++ (ws_Whole g q38 u42 ++ (ws_Whole g q27 u31 ++ (ws_Whole g q16 u20 ++ (ws_Whole g q5 u9 ++ ([] : va_W))))))))))) := hD
  refine W.widen (k := 19) (n := 57) (by decide) (by decide) ?_
  refine lv_dup hx hb d_Calc_init_107 rfl ?_
  have hP := pm_subP (a' := [(q104, .inr (11, [.null, .int 0, .int 0])), (h0, .inr (0, [.ref q5, .ref q16, .ref q27, .ref q38, .ref q49, .ref q60, .ref q71, .ref q82, .ref q93, .null, .long 0, .long 0, .long 0, .long 0]))]) hP [1, 0] rfl
  have hD := pm_subD (a' := [(q104, .inr (11, [.null, .int 0, .int 0])), (h0, .inr (0, [.ref q5, .ref q16, .ref q27, .ref q38, .ref q49, .ref q60, .ref q71, .ref q82, .ref q93, .null, .long 0, .long 0, .long 0, .long 0]))]) hD [1, 0] (by decide) rfl
  have hP : va_P D vC ([(q104, .inr (11, [.null, .int 0, .int 0]))] ++ ([(h0, .inr (0, [.ref q5, .ref q16, .ref q27, .ref q38, .ref q49, .ref q60, .ref q71, .ref q82, .ref q93, .null, .long 0, .long 0, .long 0, .long 0]))] ++ (ws_Whole g q93 u97 ++ (ws_Whole g q82 u86 ++ (ws_Whole g q71 u75 ++ (ws_Whole g q60 u64 ++ (ws_Whole g q49 u53 ++ (ws_Whole g q38 u42 ++ (ws_Whole g q27 u31 ++ (ws_Whole g q16 u20 ++ (ws_Whole g q5 u9 ++ ([] : va_W)))))))))))) H := hP
  have hD : va_D A ([(q104, .inr (11, [.null, .int 0, .int 0]))] ++ ([(h0, .inr (0, [.ref q5, .ref q16, .ref q27, .ref q38, .ref q49, .ref q60, .ref q71, .ref q82, .ref q93, .null, .long 0, .long 0, .long 0, .long 0]))] ++ (ws_Whole g q93 u97 ++ (ws_Whole g q82 u86 ++ (ws_Whole g q71 u75 ++ (ws_Whole g q60 u64 ++ (ws_Whole g q49 u53 ++ (ws_Whole g q38 u42 ++ (ws_Whole g q27 u31 ++ (ws_Whole g q16 u20 ++ (ws_Whole g q5 u9 ++ ([] : va_W)))))))))))) := hD
  have hFc := pm_free hD hS hA
  refine va_callv (va_runIN (As := []) (rest := [.ref q104, .ref h0]) ⟨hx, hb, hml, hown, hT⟩ (c_Whole_init l D g q104 H.size) (⟨va_cnB 0 hT gd_Whole_init rfl rfl rfl (hN.1 _ nw_401) (hT _ tw_158) (by decide +kernel) ⟨Nat.le_of_ble_eq_true rfl, Nat.le_of_ble_eq_true rfl⟩, rfl, hT _ tw_243⟩) (cp_S hP hK hD hN) rfl rfl hl.1 rfl (lv_room (Nat.le_of_ble_eq_true rfl)) d_Calc_init_108 ⟨Nat.le_of_ble_eq_true rfl, Nat.le_of_ble_eq_true rfl⟩) hS (fun q _ h => hFc q h) hFc (fun u108 t H1 locs ht1 hvm hw hB hz1 hk1 hS => ?_)
  obtain ⟨hP1, hD1⟩ := hB
  rw [ht1] at hP1
  obtain ⟨hP, hD⟩ := pm_join hP hD hk1 hFc hP1 hD1
  generalize H1 = H at hP hS ⊢
  have hP := pm_swapP hP
  have hD := pm_swapD hD
  have hP : va_P D vC ([(h0, .inr (0, [.ref q5, .ref q16, .ref q27, .ref q38, .ref q49, .ref q60, .ref q71, .ref q82, .ref q93, .null, .long 0, .long 0, .long 0, .long 0]))] ++ (ws_Whole g q104 u108 ++ (ws_Whole g q93 u97 ++ (ws_Whole g q82 u86 ++ (ws_Whole g q71 u75 ++ (ws_Whole g q60 u64 ++ (ws_Whole g q49 u53 ++ (ws_Whole g q38 u42 ++ (ws_Whole g q27 u31 ++ (ws_Whole g q16 u20 ++ (ws_Whole g q5 u9 ++ ([] : va_W)))))))))))) H := hP
  have hD : va_D A ([(h0, .inr (0, [.ref q5, .ref q16, .ref q27, .ref q38, .ref q49, .ref q60, .ref q71, .ref q82, .ref q93, .null, .long 0, .long 0, .long 0, .long 0]))] ++ (ws_Whole g q104 u108 ++ (ws_Whole g q93 u97 ++ (ws_Whole g q82 u86 ++ (ws_Whole g q71 u75 ++ (ws_Whole g q60 u64 ++ (ws_Whole g q49 u53 ++ (ws_Whole g q38 u42 ++ (ws_Whole g q27 u31 ++ (ws_Whole g q16 u20 ++ (ws_Whole g q5 u9 ++ ([] : va_W)))))))))))) := hD
  refine W.widen (k := 20) (n := 60) (by decide) (by decide) ?_
  refine va_putF (D := D) (ci := 0) (v := .ref q104) (ty := .object "MatrixScripts$Whole") (C := "MatrixScripts$Calc") (T := T_Calc) (N := 14) hx hb hT in_Calc ty_Calc ty_Calc_ok nm_Calc hown hK hP hD hS 0 rfl rfl 9 (by decide) (hT _ tw_413) (fun _ h9 => h9) rfl hin rfl (by decide +kernel) rfl rfl (Nat.le_of_ble_eq_true rfl) d_Calc_init_111 (fun H locs hP hD hS => ?_)
  have hP : va_P D vC ([(h0, .inr (0, [.ref q5, .ref q16, .ref q27, .ref q38, .ref q49, .ref q60, .ref q71, .ref q82, .ref q93, .ref q104, .long 0, .long 0, .long 0, .long 0]))] ++ (ws_Whole g q104 u108 ++ (ws_Whole g q93 u97 ++ (ws_Whole g q82 u86 ++ (ws_Whole g q71 u75 ++ (ws_Whole g q60 u64 ++ (ws_Whole g q49 u53 ++ (ws_Whole g q38 u42 ++ (ws_Whole g q27 u31 ++ (ws_Whole g q16 u20 ++ (ws_Whole g q5 u9 ++ ([] : va_W)))))))))))) H := hP
  have hD : va_D A ([(h0, .inr (0, [.ref q5, .ref q16, .ref q27, .ref q38, .ref q49, .ref q60, .ref q71, .ref q82, .ref q93, .ref q104, .long 0, .long 0, .long 0, .long 0]))] ++ (ws_Whole g q104 u108 ++ (ws_Whole g q93 u97 ++ (ws_Whole g q82 u86 ++ (ws_Whole g q71 u75 ++ (ws_Whole g q60 u64 ++ (ws_Whole g q49 u53 ++ (ws_Whole g q38 u42 ++ (ws_Whole g q27 u31 ++ (ws_Whole g q16 u20 ++ (ws_Whole g q5 u9 ++ ([] : va_W)))))))))))) := hD
  exact W.vret hx hb hr (fun t ht1 hW => ⟨⟨((q5, u9), (q16, u20), (q27, u31), (q38, u42), (q49, u53), (q60, u64), (q71, u75), (q82, u86), (q93, u97), (q104, u108)), rfl, trivial, by rw [ht1]; exact hP, hD⟩, hS.F ht1⟩) hS.2.2 d_Calc_init_114
abbrev S_Elim : Type := Nat × (Nat × S_Whole) × (Nat × S_Matrix) × (Nat × S_Calc) × (Nat × S_Matrix) × (Nat × S_Whole) × (Nat × S_Whole) × (Nat × S_Whole) × (Nat × S_Whole) × (Nat × S_Whole) × (Nat × S_Whole) × Nat
def ws_Elim (g : Nat → ClassId) (h0 : Nat) (u : S_Elim) : va_W := [(h0, .inr (1, [.ref u.1, .int 0, .ref u.2.1.1, .ref u.2.2.1.1, .ref u.2.2.2.1.1, .ref u.2.2.2.2.1.1, .ref u.2.2.2.2.2.1.1, .ref u.2.2.2.2.2.2.1.1, .ref u.2.2.2.2.2.2.2.1.1, .ref u.2.2.2.2.2.2.2.2.1.1, .ref u.2.2.2.2.2.2.2.2.2.1.1, .ref u.2.2.2.2.2.2.2.2.2.2.1.1, .int 0, .ref u.2.2.2.2.2.2.2.2.2.2.2, .long 0])), (u.1, .inl (g 0, 64, .inl (fun _ => 0))), (u.2.2.2.2.2.2.2.2.2.2.2, .inl (g 0, 16, .inl (fun _ => 0)))] ++ (ws_Whole g u.2.2.2.2.2.2.2.2.2.2.1.1 u.2.2.2.2.2.2.2.2.2.2.1.2 ++ (ws_Whole g u.2.2.2.2.2.2.2.2.2.1.1 u.2.2.2.2.2.2.2.2.2.1.2 ++ (ws_Whole g u.2.2.2.2.2.2.2.2.1.1 u.2.2.2.2.2.2.2.2.1.2 ++ (ws_Whole g u.2.2.2.2.2.2.2.1.1 u.2.2.2.2.2.2.2.1.2 ++ (ws_Whole g u.2.2.2.2.2.2.1.1 u.2.2.2.2.2.2.1.2 ++ (ws_Whole g u.2.2.2.2.2.1.1 u.2.2.2.2.2.1.2 ++ (ws_Matrix g u.2.2.2.2.1.1 u.2.2.2.2.1.2 ++ (ws_Calc g u.2.2.2.1.1 u.2.2.2.1.2 ++ (ws_Matrix g u.2.2.1.1 u.2.2.1.2 ++ (ws_Whole g u.2.1.1 u.2.1.2 ++ ([] : va_W)))))))))))
def w_Elim_init : List Cond := .code ⟨"MatrixScripts$Elimination", "<init>", "()V"⟩ prog_5_method_1_code 1 none :: wd_all
theorem gd_Elim_init : GoodIn wd_all w_Elim_init := gd_of tw_341
set_option maxHeartbeats 4000000 in
set_option maxRecDepth 100000 in
theorem c_Elim_init (l : Launch) (D : va_G) (g : Nat → ClassId) (h0 : Nat) (sz : Nat) : Met l ⟨"MatrixScripts$Elimination", "<init>", "()V"⟩ w_Elim_init { frames := 3, cells := 45, slots := 252, locals := 52 } (cp D g [.ref h0] [(h0, .inr (1, [.null, .int 0, .null, .null, .null, .null, .null, .null, .null, .null, .null, .null, .int 0, .null, .long 0]))] sz) (cv D (va_A [(h0, .inr (1, [.null, .int 0, .null, .null, .null, .null, .null, .null, .null, .null, .null, .null, .int 0, .null, .long 0]))] sz) (fun u : S_Elim => ws_Elim g h0 u)) 45 252 (va_A [(h0, .inr (1, [.null, .int 0, .null, .null, .null, .null, .null, .null, .null, .null, .null, .null, .int 0, .null, .long 0]))] sz) := by
  refine Met.ofW (cc := prog_5_method_1_code) (maxL := 1) (ret := none) (by decide) rfl ?_
  intro p e s m args below meth c s₁ B0 hml hv
  obtain ⟨rfl, hsz, hP, hK, hD0, hN⟩ := hv
  have hx := B0.exec
  have hb := B0.bytes
  have hr := B0.returns
  have hts := atoms_spec (ws := w_Elim_init) B0.pre
  have hT := fun (w : Cond) (h : w ∈ wd_all) => hts w (List.mem_cons_of_mem _ h)
  have hown : s.vm.findClass "MatrixScripts$Elimination" = some m.cls := findClass_of_methodNamed B0.named
  have hlocks := B0.notSynchronized
  have hin : meth.name = "<init>" := (name_of_methodNamed B0.named B0.method).1
  subst hsz
  have hD := hD0.self (sz := s.heap.size)
  generalize hAe : va_A [(h0, .inr (1, [.null, .int 0, .null, .null, .null, .null, .null, .null, .null, .null, .null, .null, .int 0, .null, .long 0]))] s.heap.size = A at hD ⊢
  have hA : ∀ q : Nat, s.heap.size ≤ q → A q := fun q h => by rw [← hAe]; exact Or.inr h
  have hS : va_S A s.heap s.heap [] := va_S.rf
  have hP : va_P D vC ([(h0, .inr (1, [.null, .int 0, .null, .null, .null, .null, .null, .null, .null, .null, .null, .null, .int 0, .null, .long 0]))] ++ ([] : va_W)) s.heap := hP
  have hD : va_D A ([(h0, .inr (1, [.null, .int 0, .null, .null, .null, .null, .null, .null, .null, .null, .null, .null, .int 0, .null, .long 0]))] ++ ([] : va_W)) := hD
  have hl := lv_entry ([.ref h0]) (n := 1) (Nat.le_of_ble_eq_true rfl)
  rw [lg_entry_eq]
  generalize (lg_sl ([.ref h0]) ++ List.replicate (1 - (lg_sl ([.ref h0])).length) Slot.unset).toArray = ls at hl ⊢
  have hl : lv_has ls 1 [(0, .ref h0)] := hl
  refine lv_aload_n hx hb d_Elim_init_0 rfl (lv_at hl 0 rfl) ?_
  refine W.objInit hx hb hown (hT _ tw_342) (hT _ tw_199) (hT _ tw_200) rfl (by rw [hml]; exact hl.1) rfl d_Elim_init_1 (Nat.le_of_ble_eq_true rfl) (Nat.le_of_ble_eq_true rfl) ?_
  refine W.eq (g2 := F0 m 4 ls []) rfl ?_
  refine lv_aload_n hx hb d_Elim_init_4 rfl (lv_at hl 0 rfl) ?_
  refine lv_bipush (v := 64) hx hb d_Elim_init_5 (by decide) ?_
  refine pm_newi (N := 64) hx hb (hT _ tw_233) hK 0 rfl hP hD hS hA (by decide) (by decide) (by decide) (Nat.le_of_ble_eq_true rfl) (Nat.le_of_ble_eq_true rfl) d_Elim_init_7 (fun q7 H hP hD hS => ?_)
  have hP : va_P D vC ([(h0, .inr (1, [.null, .int 0, .null, .null, .null, .null, .null, .null, .null, .null, .null, .null, .int 0, .null, .long 0])), (q7, .inl (g 0, 64, .inl (fun _ => 0)))] ++ ([] : va_W)) H := hP
  have hD : va_D A ([(h0, .inr (1, [.null, .int 0, .null, .null, .null, .null, .null, .null, .null, .null, .null, .null, .int 0, .null, .long 0])), (q7, .inl (g 0, 64, .inl (fun _ => 0)))] ++ ([] : va_W)) := hD
  refine W.widen (k := 1) (n := 64) (by decide) (by decide) ?_
  refine va_putF (D := D) (ci := 1) (v := .ref q7) (ty := .array (.int)) (C := "MatrixScripts$Elimination") (T := T_Elim) (N := 15) hx hb hT in_Elim ty_Elim ty_Elim_ok nm_Elim hown hK hP hD hS 0 rfl rfl 0 (by decide) (hT _ tw_447) (fun _ h9 => h9) rfl hin rfl (by decide +kernel) rfl rfl (Nat.le_of_ble_eq_true rfl) d_Elim_init_9 (fun H locs hP hD hS => ?_)
  have hP : va_P D vC ([(h0, .inr (1, [.ref q7, .int 0, .null, .null, .null, .null, .null, .null, .null, .null, .null, .null, .int 0, .null, .long 0])), (q7, .inl (g 0, 64, .inl (fun _ => 0)))] ++ ([] : va_W)) H := hP
  have hD : va_D A ([(h0, .inr (1, [.ref q7, .int 0, .null, .null, .null, .null, .null, .null, .null, .null, .null, .null, .int 0, .null, .long 0])), (q7, .inl (g 0, 64, .inl (fun _ => 0)))] ++ ([] : va_W)) := hD
  refine lv_aload_n hx hb d_Elim_init_12 rfl (lv_at hl 0 rfl) ?_
  refine pm_new (D := D) (ci := 11) (fs := [.null, .int 0, .int 0]) (C := "MatrixScripts$Whole") (T := T_Whole) (N := 3) hx hb hT in_Whole ty_Whole ty_Whole_ok hown (hT _ tw_343) (hT _ tw_241) (hT _ tw_158) hK hP hD hS hA rfl (by decide) (Nat.le_of_ble_eq_true rfl) (Nat.le_of_ble_eq_true rfl) d_Elim_init_13 (fun q13 H hP hD hS => ?_)
  have hP : va_P D vC ([(h0, .inr (1, [.ref q7, .int 0, .null, .null, .null, .null, .null, .null, .null, .null, .null, .null, .int 0, .null, .long 0])), (q7, .inl (g 0, 64, .inl (fun _ => 0))), (q13, .inr (11, [.null, .int 0, .int 0]))] ++ ([] : va_W)) H := hP
  have hD : va_D A ([(h0, .inr (1, [.ref q7, .int 0, .null, .null, .null, .null, .null, .null, .null, .null, .null, .null, .int 0, .null, .long 0])), (q7, .inl (g 0, 64, .inl (fun _ => 0))), (q13, .inr (11, [.null, .int 0, .int 0]))] ++ ([] : va_W)) := hD
  refine W.widen (k := 2) (n := 67) (by decide) (by decide) ?_
  refine lv_dup hx hb d_Elim_init_16 rfl ?_
  have hP := pm_subP (a' := [(q13, .inr (11, [.null, .int 0, .int 0])), (h0, .inr (1, [.ref q7, .int 0, .null, .null, .null, .null, .null, .null, .null, .null, .null, .null, .int 0, .null, .long 0])), (q7, .inl (g 0, 64, .inl (fun _ => 0)))]) hP [2, 0, 1] rfl
  have hD := pm_subD (a' := [(q13, .inr (11, [.null, .int 0, .int 0])), (h0, .inr (1, [.ref q7, .int 0, .null, .null, .null, .null, .null, .null, .null, .null, .null, .null, .int 0, .null, .long 0])), (q7, .inl (g 0, 64, .inl (fun _ => 0)))]) hD [2, 0, 1] (by decide) rfl
  have hP : va_P D vC ([(q13, .inr (11, [.null, .int 0, .int 0]))] ++ ([(h0, .inr (1, [.ref q7, .int 0, .null, .null, .null, .null, .null, .null, .null, .null, .null, .null, .int 0, .null, .long 0])), (q7, .inl (g 0, 64, .inl (fun _ => 0)))] ++ ([] : va_W))) H := hP
  have hD : va_D A ([(q13, .inr (11, [.null, .int 0, .int 0]))] ++ ([(h0, .inr (1, [.ref q7, .int 0, .null, .null, .null, .null, .null, .null, .null, .null, .null, .null, .int 0, .null, .long 0])), (q7, .inl (g 0, 64, .inl (fun _ => 0)))] ++ ([] : va_W))) := hD
  have hFc := pm_free hD hS hA
  refine va_callv (va_runIN (As := []) (rest := [.ref q13, .ref h0]) ⟨hx, hb, hml, hown, hT⟩ (c_Whole_init l D g q13 H.size) (⟨va_cnB 0 hT gd_Whole_init rfl rfl rfl (hN.1 _ nw_344) (hT _ tw_158) (by decide +kernel) ⟨Nat.le_of_ble_eq_true rfl, Nat.le_of_ble_eq_true rfl⟩, rfl, hT _ tw_243⟩) (cp_S hP hK hD hN) rfl rfl hl.1 rfl (lv_room (Nat.le_of_ble_eq_true rfl)) d_Elim_init_17 ⟨Nat.le_of_ble_eq_true rfl, Nat.le_of_ble_eq_true rfl⟩) hS (fun q _ h => hFc q h) hFc (fun u17 t H1 locs ht1 hvm hw hB hz1 hk1 hS => ?_)
  obtain ⟨hP1, hD1⟩ := hB
  rw [ht1] at hP1
  obtain ⟨hP, hD⟩ := pm_join hP hD hk1 hFc hP1 hD1
  generalize H1 = H at hP hS ⊢
  have hP := pm_swapP hP
  have hD := pm_swapD hD
  have hP : va_P D vC ([(h0, .inr (1, [.ref q7, .int 0, .null, .null, .null, .null, .null, .null, .null, .null, .null, .null, .int 0, .null, .long 0])), (q7, .inl (g 0, 64, .inl (fun _ => 0)))] ++ (ws_Whole g q13 u17 ++ ([] : va_W))) H := hP
  have hD : va_D A ([(h0, .inr (1, [.ref q7, .int 0, .null, .null, .null, .null, .null, .null, .null, .null, .null, .null, .int 0, .null, .long 0])), (q7, .inl (g 0, 64, .inl (fun _ => 0)))] ++ (ws_Whole g q13 u17 ++ ([] : va_W))) := hD
  refine W.widen (k := 3) (n := 70) (by decide) (by decide) ?_
  refine va_putF (D := D) (ci := 1) (v := .ref q13) (ty := .object "MatrixScripts$Whole") (C := "MatrixScripts$Elimination") (T := T_Elim) (N := 15) hx hb hT in_Elim ty_Elim ty_Elim_ok nm_Elim hown hK hP hD hS 0 rfl rfl 2 (by decide) (hT _ tw_451) (fun _ h9 => h9) rfl hin rfl (by decide +kernel) rfl rfl (Nat.le_of_ble_eq_true rfl) d_Elim_init_20 (fun H locs hP hD hS => ?_)
  have hP : va_P D vC ([(h0, .inr (1, [.ref q7, .int 0, .ref q13, .null, .null, .null, .null, .null, .null, .null, .null, .null, .int 0, .null, .long 0])), (q7, .inl (g 0, 64, .inl (fun _ => 0)))] ++ (ws_Whole g q13 u17 ++ ([] : va_W))) H := hP
  have hD : va_D A ([(h0, .inr (1, [.ref q7, .int 0, .ref q13, .null, .null, .null, .null, .null, .null, .null, .null, .null, .int 0, .null, .long 0])), (q7, .inl (g 0, 64, .inl (fun _ => 0)))] ++ (ws_Whole g q13 u17 ++ ([] : va_W))) := hD
  refine lv_aload_n hx hb d_Elim_init_23 rfl (lv_at hl 0 rfl) ?_
  refine pm_new (D := D) (ci := 4) (fs := [.int 0, .int 0, .int 0, .null, .null, .int 0]) (C := "MatrixScripts$Matrix") (T := T_Matrix) (N := 6) hx hb hT in_Matrix ty_Matrix ty_Matrix_ok hown (hT _ tw_345) (hT _ tw_346) (hT _ tw_163) hK hP hD hS hA rfl (by decide) (Nat.le_of_ble_eq_true rfl) (Nat.le_of_ble_eq_true rfl) d_Elim_init_24 (fun q24 H hP hD hS => ?_)
  have hP : va_P D vC ([(h0, .inr (1, [.ref q7, .int 0, .ref q13, .null, .null, .null, .null, .null, .null, .null, .null, .null, .int 0, .null, .long 0])), (q7, .inl (g 0, 64, .inl (fun _ => 0))), (q24, .inr (4, [.int 0, .int 0, .int 0, .null, .null, .int 0]))] ++ (ws_Whole g q13 u17 ++ ([] : va_W))) H := hP
  have hD : va_D A ([(h0, .inr (1, [.ref q7, .int 0, .ref q13, .null, .null, .null, .null, .null, .null, .null, .null, .null, .int 0, .null, .long 0])), (q7, .inl (g 0, 64, .inl (fun _ => 0))), (q24, .inr (4, [.int 0, .int 0, .int 0, .null, .null, .int 0]))] ++ (ws_Whole g q13 u17 ++ ([] : va_W))) := hD
  refine W.widen (k := 4) (n := 76) (by decide) (by decide) ?_
  refine lv_dup hx hb d_Elim_init_27 rfl ?_
  have hP := pm_subP (a' := [(q24, .inr (4, [.int 0, .int 0, .int 0, .null, .null, .int 0])), (h0, .inr (1, [.ref q7, .int 0, .ref q13, .null, .null, .null, .null, .null, .null, .null, .null, .null, .int 0, .null, .long 0])), (q7, .inl (g 0, 64, .inl (fun _ => 0)))]) hP [2, 0, 1] rfl
  have hD := pm_subD (a' := [(q24, .inr (4, [.int 0, .int 0, .int 0, .null, .null, .int 0])), (h0, .inr (1, [.ref q7, .int 0, .ref q13, .null, .null, .null, .null, .null, .null, .null, .null, .null, .int 0, .null, .long 0])), (q7, .inl (g 0, 64, .inl (fun _ => 0)))]) hD [2, 0, 1] (by decide) rfl
  have hP : va_P D vC ([(q24, .inr (4, [.int 0, .int 0, .int 0, .null, .null, .int 0]))] ++ ([(h0, .inr (1, [.ref q7, .int 0, .ref q13, .null, .null, .null, .null, .null, .null, .null, .null, .null, .int 0, .null, .long 0])), (q7, .inl (g 0, 64, .inl (fun _ => 0)))] ++ (ws_Whole g q13 u17 ++ ([] : va_W)))) H := hP
  have hD : va_D A ([(q24, .inr (4, [.int 0, .int 0, .int 0, .null, .null, .int 0]))] ++ ([(h0, .inr (1, [.ref q7, .int 0, .ref q13, .null, .null, .null, .null, .null, .null, .null, .null, .null, .int 0, .null, .long 0])), (q7, .inl (g 0, 64, .inl (fun _ => 0)))] ++ (ws_Whole g q13 u17 ++ ([] : va_W)))) := hD
  have hFc := pm_free hD hS hA
  refine va_callv (va_runIN (As := []) (rest := [.ref q24, .ref h0]) ⟨hx, hb, hml, hown, hT⟩ (c_Matrix_init l D g q24 H.size) (⟨va_cnB 0 hT gd_Matrix_init rfl rfl rfl (hN.1 _ nw_347) (hT _ tw_163) (by decide +kernel) ⟨Nat.le_of_ble_eq_true rfl, Nat.le_of_ble_eq_true rfl⟩, rfl, hT _ tw_348⟩) (cp_S hP hK hD hN) rfl rfl hl.1 rfl (lv_room (Nat.le_of_ble_eq_true rfl)) d_Elim_init_28 ⟨Nat.le_of_ble_eq_true rfl, Nat.le_of_ble_eq_true rfl⟩) hS (fun q _ h => hFc q h) hFc (fun u28 t H1 locs ht1 hvm hw hB hz1 hk1 hS => ?_)
  obtain ⟨hP1, hD1⟩ := hB
  rw [ht1] at hP1
  obtain ⟨hP, hD⟩ := pm_join hP hD hk1 hFc hP1 hD1
  generalize H1 = H at hP hS ⊢
  have hP := pm_swapP hP
  have hD := pm_swapD hD
  have hP : va_P D vC ([(h0, .inr (1, [.ref q7, .int 0, .ref q13, .null, .null, .null, .null, .null, .null, .null, .null, .null, .int 0, .null, .long 0])), (q7, .inl (g 0, 64, .inl (fun _ => 0)))] ++ (ws_Matrix g q24 u28 ++ (ws_Whole g q13 u17 ++ ([] : va_W)))) H := hP
  have hD : va_D A ([(h0, .inr (1, [.ref q7, .int 0, .ref q13, .null, .null, .null, .null, .null, .null, .null, .null, .null, .int 0, .null, .long 0])), (q7, .inl (g 0, 64, .inl (fun _ => 0)))] ++ (ws_Matrix g q24 u28 ++ (ws_Whole g q13 u17 ++ ([] : va_W)))) := hD
  refine W.widen (k := 7) (n := 98) (by decide) (by decide) ?_
  refine va_putF (D := D) (ci := 1) (v := .ref q24) (ty := .object "MatrixScripts$Matrix") (C := "MatrixScripts$Elimination") (T := T_Elim) (N := 15) hx hb hT in_Elim ty_Elim ty_Elim_ok nm_Elim hown hK hP hD hS 0 rfl rfl 3 (by decide) (hT _ tw_453) (fun _ h9 => h9) rfl hin rfl (by decide +kernel) rfl rfl (Nat.le_of_ble_eq_true rfl) d_Elim_init_31 (fun H locs hP hD hS => ?_)
  have hP : va_P D vC ([(h0, .inr (1, [.ref q7, .int 0, .ref q13, .ref q24, .null, .null, .null, .null, .null, .null, .null, .null, .int 0, .null, .long 0])), (q7, .inl (g 0, 64, .inl (fun _ => 0)))] ++ (ws_Matrix g q24 u28 ++ (ws_Whole g q13 u17 ++ ([] : va_W)))) H := hP
  have hD : va_D A ([(h0, .inr (1, [.ref q7, .int 0, .ref q13, .ref q24, .null, .null, .null, .null, .null, .null, .null, .null, .int 0, .null, .long 0])), (q7, .inl (g 0, 64, .inl (fun _ => 0)))] ++ (ws_Matrix g q24 u28 ++ (ws_Whole g q13 u17 ++ ([] : va_W)))) := hD
  refine lv_aload_n hx hb d_Elim_init_34 rfl (lv_at hl 0 rfl) ?_
  refine pm_new (D := D) (ci := 0) (fs := [.null, .null, .null, .null, .null, .null, .null, .null, .null, .null, .long 0, .long 0, .long 0, .long 0]) (C := "MatrixScripts$Calc") (T := T_Calc) (N := 14) hx hb hT in_Calc ty_Calc ty_Calc_ok hown (hT _ tw_394) (hT _ tw_395) (hT _ tw_164) hK hP hD hS hA rfl (by decide) (Nat.le_of_ble_eq_true rfl) (Nat.le_of_ble_eq_true rfl) d_Elim_init_35 (fun q35 H hP hD hS => ?_)
  have hP : va_P D vC ([(h0, .inr (1, [.ref q7, .int 0, .ref q13, .ref q24, .null, .null, .null, .null, .null, .null, .null, .null, .int 0, .null, .long 0])), (q7, .inl (g 0, 64, .inl (fun _ => 0))), (q35, .inr (0, [.null, .null, .null, .null, .null, .null, .null, .null, .null, .null, .long 0, .long 0, .long 0, .long 0]))] ++ (ws_Matrix g q24 u28 ++ (ws_Whole g q13 u17 ++ ([] : va_W)))) H := hP
  have hD : va_D A ([(h0, .inr (1, [.ref q7, .int 0, .ref q13, .ref q24, .null, .null, .null, .null, .null, .null, .null, .null, .int 0, .null, .long 0])), (q7, .inl (g 0, 64, .inl (fun _ => 0))), (q35, .inr (0, [.null, .null, .null, .null, .null, .null, .null, .null, .null, .null, .long 0, .long 0, .long 0, .long 0]))] ++ (ws_Matrix g q24 u28 ++ (ws_Whole g q13 u17 ++ ([] : va_W)))) := hD
  refine W.widen (k := 8) (n := 112) (by decide) (by decide) ?_
  refine lv_dup hx hb d_Elim_init_38 rfl ?_
  have hP := pm_subP (a' := [(q35, .inr (0, [.null, .null, .null, .null, .null, .null, .null, .null, .null, .null, .long 0, .long 0, .long 0, .long 0])), (h0, .inr (1, [.ref q7, .int 0, .ref q13, .ref q24, .null, .null, .null, .null, .null, .null, .null, .null, .int 0, .null, .long 0])), (q7, .inl (g 0, 64, .inl (fun _ => 0)))]) hP [2, 0, 1] rfl
  have hD := pm_subD (a' := [(q35, .inr (0, [.null, .null, .null, .null, .null, .null, .null, .null, .null, .null, .long 0, .long 0, .long 0, .long 0])), (h0, .inr (1, [.ref q7, .int 0, .ref q13, .ref q24, .null, .null, .null, .null, .null, .null, .null, .null, .int 0, .null, .long 0])), (q7, .inl (g 0, 64, .inl (fun _ => 0)))]) hD [2, 0, 1] (by decide) rfl
  have hP : va_P D vC ([(q35, .inr (0, [.null, .null, .null, .null, .null, .null, .null, .null, .null, .null, .long 0, .long 0, .long 0, .long 0]))] ++ ([(h0, .inr (1, [.ref q7, .int 0, .ref q13, .ref q24, .null, .null, .null, .null, .null, .null, .null, .null, .int 0, .null, .long 0])), (q7, .inl (g 0, 64, .inl (fun _ => 0)))] ++ (ws_Matrix g q24 u28 ++ (ws_Whole g q13 u17 ++ ([] : va_W))))) H := hP
  have hD : va_D A ([(q35, .inr (0, [.null, .null, .null, .null, .null, .null, .null, .null, .null, .null, .long 0, .long 0, .long 0, .long 0]))] ++ ([(h0, .inr (1, [.ref q7, .int 0, .ref q13, .ref q24, .null, .null, .null, .null, .null, .null, .null, .null, .int 0, .null, .long 0])), (q7, .inl (g 0, 64, .inl (fun _ => 0)))] ++ (ws_Matrix g q24 u28 ++ (ws_Whole g q13 u17 ++ ([] : va_W))))) := hD
  have hFc := pm_free hD hS hA
  refine va_callv (va_runIN (As := []) (rest := [.ref q35, .ref h0]) ⟨hx, hb, hml, hown, hT⟩ (c_Calc_init l D g q35 H.size) (⟨va_cnB 0 hT gd_Calc_init rfl rfl rfl (hN.1 _ nw_396) (hT _ tw_164) (by decide +kernel) ⟨Nat.le_of_ble_eq_true rfl, Nat.le_of_ble_eq_true rfl⟩, rfl, hT _ tw_397⟩) (cp_S hP hK hD hN) rfl rfl hl.1 rfl (lv_room (Nat.le_of_ble_eq_true rfl)) d_Elim_init_39 ⟨Nat.le_of_ble_eq_true rfl, Nat.le_of_ble_eq_true rfl⟩) hS (fun q _ h => hFc q h) hFc (fun u39 t H1 locs ht1 hvm hw hB hz1 hk1 hS => ?_)
  obtain ⟨hP1, hD1⟩ := hB
  rw [ht1] at hP1
  obtain ⟨hP, hD⟩ := pm_join hP hD hk1 hFc hP1 hD1
  generalize H1 = H at hP hS ⊢
  have hP := pm_swapP hP
  have hD := pm_swapD hD
  have hP : va_P D vC ([(h0, .inr (1, [.ref q7, .int 0, .ref q13, .ref q24, .null, .null, .null, .null, .null, .null, .null, .null, .int 0, .null, .long 0])), (q7, .inl (g 0, 64, .inl (fun _ => 0)))] ++ (ws_Calc g q35 u39 ++ (ws_Matrix g q24 u28 ++ (ws_Whole g q13 u17 ++ ([] : va_W))))) H := hP
  have hD : va_D A ([(h0, .inr (1, [.ref q7, .int 0, .ref q13, .ref q24, .null, .null, .null, .null, .null, .null, .null, .null, .int 0, .null, .long 0])), (q7, .inl (g 0, 64, .inl (fun _ => 0)))] ++ (ws_Calc g q35 u39 ++ (ws_Matrix g q24 u28 ++ (ws_Whole g q13 u17 ++ ([] : va_W))))) := hD
  refine W.widen (k := 28) (n := 172) (by decide) (by decide) ?_
  refine va_putF (D := D) (ci := 1) (v := .ref q35) (ty := .object "MatrixScripts$Calc") (C := "MatrixScripts$Elimination") (T := T_Elim) (N := 15) hx hb hT in_Elim ty_Elim ty_Elim_ok nm_Elim hown hK hP hD hS 0 rfl rfl 4 (by decide) (hT _ tw_456) (fun _ h9 => h9) rfl hin rfl (by decide +kernel) rfl rfl (Nat.le_of_ble_eq_true rfl) d_Elim_init_42 (fun H locs hP hD hS => ?_)
  have hP : va_P D vC ([(h0, .inr (1, [.ref q7, .int 0, .ref q13, .ref q24, .ref q35, .null, .null, .null, .null, .null, .null, .null, .int 0, .null, .long 0])), (q7, .inl (g 0, 64, .inl (fun _ => 0)))] ++ (ws_Calc g q35 u39 ++ (ws_Matrix g q24 u28 ++ (ws_Whole g q13 u17 ++ ([] : va_W))))) H := hP
  have hD : va_D A ([(h0, .inr (1, [.ref q7, .int 0, .ref q13, .ref q24, .ref q35, .null, .null, .null, .null, .null, .null, .null, .int 0, .null, .long 0])), (q7, .inl (g 0, 64, .inl (fun _ => 0)))] ++ (ws_Calc g q35 u39 ++ (ws_Matrix g q24 u28 ++ (ws_Whole g q13 u17 ++ ([] : va_W))))) := hD
  refine lv_aload_n hx hb d_Elim_init_45 rfl (lv_at hl 0 rfl) ?_
  refine pm_new (D := D) (ci := 4) (fs := [.int 0, .int 0, .int 0, .null, .null, .int 0]) (C := "MatrixScripts$Matrix") (T := T_Matrix) (N := 6) hx hb hT in_Matrix ty_Matrix ty_Matrix_ok hown (hT _ tw_345) (hT _ tw_346) (hT _ tw_163) hK hP hD hS hA rfl (by decide) (Nat.le_of_ble_eq_true rfl) (Nat.le_of_ble_eq_true rfl) d_Elim_init_46 (fun q46 H hP hD hS => ?_)
  have hP : va_P D vC ([(h0, .inr (1, [.ref q7, .int 0, .ref q13, .ref q24, .ref q35, .null, .null, .null, .null, .null, .null, .null, .int 0, .null, .long 0])), (q7, .inl (g 0, 64, .inl (fun _ => 0))), (q46, .inr (4, [.int 0, .int 0, .int 0, .null, .null, .int 0]))] ++ (ws_Calc g q35 u39 ++ (ws_Matrix g q24 u28 ++ (ws_Whole g q13 u17 ++ ([] : va_W))))) H := hP
  have hD : va_D A ([(h0, .inr (1, [.ref q7, .int 0, .ref q13, .ref q24, .ref q35, .null, .null, .null, .null, .null, .null, .null, .int 0, .null, .long 0])), (q7, .inl (g 0, 64, .inl (fun _ => 0))), (q46, .inr (4, [.int 0, .int 0, .int 0, .null, .null, .int 0]))] ++ (ws_Calc g q35 u39 ++ (ws_Matrix g q24 u28 ++ (ws_Whole g q13 u17 ++ ([] : va_W))))) := hD
  refine W.widen (k := 29) (n := 178) (by decide) (by decide) ?_
  refine lv_dup hx hb d_Elim_init_49 rfl ?_
  have hP := pm_subP (a' := [(q46, .inr (4, [.int 0, .int 0, .int 0, .null, .null, .int 0])), (h0, .inr (1, [.ref q7, .int 0, .ref q13, .ref q24, .ref q35, .null, .null, .null, .null, .null, .null, .null, .int 0, .null, .long 0])), (q7, .inl (g 0, 64, .inl (fun _ => 0)))]) hP [2, 0, 1] rfl
  have hD := pm_subD (a' := [(q46, .inr (4, [.int 0, .int 0, .int 0, .null, .null, .int 0])), (h0, .inr (1, [.ref q7, .int 0, .ref q13, .ref q24, .ref q35, .null, .null, .null, .null, .null, .null, .null, .int 0, .null, .long 0])), (q7, .inl (g 0, 64, .inl (fun _ => 0)))]) hD [2, 0, 1] (by decide) rfl
  have hP : va_P D vC ([(q46, .inr (4, [.int 0, .int 0, .int 0, .null, .null, .int 0]))] ++ ([(h0, .inr (1, [.ref q7, .int 0, .ref q13, .ref q24, .ref q35, .null, .null, .null, .null, .null, .null, .null, .int 0, .null, .long 0])), (q7, .inl (g 0, 64, .inl (fun _ => 0)))] ++ (ws_Calc g q35 u39 ++ (ws_Matrix g q24 u28 ++ (ws_Whole g q13 u17 ++ ([] : va_W)))))) H := hP
  have hD : va_D A ([(q46, .inr (4, [.int 0, .int 0, .int 0, .null, .null, .int 0]))] ++ ([(h0, .inr (1, [.ref q7, .int 0, .ref q13, .ref q24, .ref q35, .null, .null, .null, .null, .null, .null, .null, .int 0, .null, .long 0])), (q7, .inl (g 0, 64, .inl (fun _ => 0)))] ++ (ws_Calc g q35 u39 ++ (ws_Matrix g q24 u28 ++ (ws_Whole g q13 u17 ++ ([] : va_W)))))) := hD
  have hFc := pm_free hD hS hA
  refine va_callv (va_runIN (As := []) (rest := [.ref q46, .ref h0]) ⟨hx, hb, hml, hown, hT⟩ (c_Matrix_init l D g q46 H.size) (⟨va_cnB 0 hT gd_Matrix_init rfl rfl rfl (hN.1 _ nw_347) (hT _ tw_163) (by decide +kernel) ⟨Nat.le_of_ble_eq_true rfl, Nat.le_of_ble_eq_true rfl⟩, rfl, hT _ tw_348⟩) (cp_S hP hK hD hN) rfl rfl hl.1 rfl (lv_room (Nat.le_of_ble_eq_true rfl)) d_Elim_init_50 ⟨Nat.le_of_ble_eq_true rfl, Nat.le_of_ble_eq_true rfl⟩) hS (fun q _ h => hFc q h) hFc (fun u50 t H1 locs ht1 hvm hw hB hz1 hk1 hS => ?_)
  obtain ⟨hP1, hD1⟩ := hB
  rw [ht1] at hP1
  obtain ⟨hP, hD⟩ := pm_join hP hD hk1 hFc hP1 hD1
  generalize H1 = H at hP hS ⊢
  have hP := pm_swapP hP
  have hD := pm_swapD hD
  have hP : va_P D vC ([(h0, .inr (1, [.ref q7, .int 0, .ref q13, .ref q24, .ref q35, .null, .null, .null, .null, .null, .null, .null, .int 0, .null, .long 0])), (q7, .inl (g 0, 64, .inl (fun _ => 0)))] ++ (ws_Matrix g q46 u50 ++ (ws_Calc g q35 u39 ++ (ws_Matrix g q24 u28 ++ (ws_Whole g q13 u17 ++ ([] : va_W)))))) H := hP
  have hD : va_D A ([(h0, .inr (1, [.ref q7, .int 0, .ref q13, .ref q24, .ref q35, .null, .null, .null, .null, .null, .null, .null, .int 0, .null, .long 0])), (q7, .inl (g 0, 64, .inl (fun _ => 0)))] ++ (ws_Matrix g q46 u50 ++ (ws_Calc g q35 u39 ++ (ws_Matrix g q24 u28 ++ (ws_Whole g q13 u17 ++ ([] : va_W)))))) := hD
  refine W.widen (k := 32) (n := 200) (by decide) (by decide) ?_
  refine va_putF (D := D) (ci := 1) (v := .ref q46) (ty := .object "MatrixScripts$Matrix") (C := "MatrixScripts$Elimination") (T := T_Elim) (N := 15) hx hb hT in_Elim ty_Elim ty_Elim_ok nm_Elim hown hK hP hD hS 0 rfl rfl 5 (by decide) (hT _ tw_458) (fun _ h9 => h9) rfl hin rfl (by decide +kernel) rfl rfl (Nat.le_of_ble_eq_true rfl) d_Elim_init_53 (fun H locs hP hD hS => ?_)
  have hP : va_P D vC ([(h0, .inr (1, [.ref q7, .int 0, .ref q13, .ref q24, .ref q35, .ref q46, .null, .null, .null, .null, .null, .null, .int 0, .null, .long 0])), (q7, .inl (g 0, 64, .inl (fun _ => 0)))] ++ (ws_Matrix g q46 u50 ++ (ws_Calc g q35 u39 ++ (ws_Matrix g q24 u28 ++ (ws_Whole g q13 u17 ++ ([] : va_W)))))) H := hP
  have hD : va_D A ([(h0, .inr (1, [.ref q7, .int 0, .ref q13, .ref q24, .ref q35, .ref q46, .null, .null, .null, .null, .null, .null, .int 0, .null, .long 0])), (q7, .inl (g 0, 64, .inl (fun _ => 0)))] ++ (ws_Matrix g q46 u50 ++ (ws_Calc g q35 u39 ++ (ws_Matrix g q24 u28 ++ (ws_Whole g q13 u17 ++ ([] : va_W)))))) := hD
  refine lv_aload_n hx hb d_Elim_init_56 rfl (lv_at hl 0 rfl) ?_
  refine pm_new (D := D) (ci := 11) (fs := [.null, .int 0, .int 0]) (C := "MatrixScripts$Whole") (T := T_Whole) (N := 3) hx hb hT in_Whole ty_Whole ty_Whole_ok hown (hT _ tw_343) (hT _ tw_241) (hT _ tw_158) hK hP hD hS hA rfl (by decide) (Nat.le_of_ble_eq_true rfl) (Nat.le_of_ble_eq_true rfl) d_Elim_init_57 (fun q57 H hP hD hS => ?_)
  have hP : va_P D vC ([(h0, .inr (1, [.ref q7, .int 0, .ref q13, .ref q24, .ref q35, .ref q46, .null, .null, .null, .null, .null, .null, .int 0, .null, .long 0])), (q7, .inl (g 0, 64, .inl (fun _ => 0))), (q57, .inr (11, [.null, .int 0, .int 0]))] ++ (ws_Matrix g q46 u50 ++ (ws_Calc g q35 u39 ++ (ws_Matrix g q24 u28 ++ (ws_Whole g q13 u17 ++ ([] : va_W)))))) H := hP
  have hD : va_D A ([(h0, .inr (1, [.ref q7, .int 0, .ref q13, .ref q24, .ref q35, .ref q46, .null, .null, .null, .null, .null, .null, .int 0, .null, .long 0])), (q7, .inl (g 0, 64, .inl (fun _ => 0))), (q57, .inr (11, [.null, .int 0, .int 0]))] ++ (ws_Matrix g q46 u50 ++ (ws_Calc g q35 u39 ++ (ws_Matrix g q24 u28 ++ (ws_Whole g q13 u17 ++ ([] : va_W)))))) := hD
  refine W.widen (k := 33) (n := 203) (by decide) (by decide) ?_
  refine lv_dup hx hb d_Elim_init_60 rfl ?_
  have hP := pm_subP (a' := [(q57, .inr (11, [.null, .int 0, .int 0])), (h0, .inr (1, [.ref q7, .int 0, .ref q13, .ref q24, .ref q35, .ref q46, .null, .null, .null, .null, .null, .null, .int 0, .null, .long 0])), (q7, .inl (g 0, 64, .inl (fun _ => 0)))]) hP [2, 0, 1] rfl
  have hD := pm_subD (a' := [(q57, .inr (11, [.null, .int 0, .int 0])), (h0, .inr (1, [.ref q7, .int 0, .ref q13, .ref q24, .ref q35, .ref q46, .null, .null, .null, .null, .null, .null, .int 0, .null, .long 0])), (q7, .inl (g 0, 64, .inl (fun _ => 0)))]) hD [2, 0, 1] (by decide) rfl
  have hP : va_P D vC ([(q57, .inr (11, [.null, .int 0, .int 0]))] ++ ([(h0, .inr (1, [.ref q7, .int 0, .ref q13, .ref q24, .ref q35, .ref q46, .null, .null, .null, .null, .null, .null, .int 0, .null, .long 0])), (q7, .inl (g 0, 64, .inl (fun _ => 0)))] ++ (ws_Matrix g q46 u50 ++ (ws_Calc g q35 u39 ++ (ws_Matrix g q24 u28 ++ (ws_Whole g q13 u17 ++ ([] : va_W))))))) H := hP
  have hD : va_D A ([(q57, .inr (11, [.null, .int 0, .int 0]))] ++ ([(h0, .inr (1, [.ref q7, .int 0, .ref q13, .ref q24, .ref q35, .ref q46, .null, .null, .null, .null, .null, .null, .int 0, .null, .long 0])), (q7, .inl (g 0, 64, .inl (fun _ => 0)))] ++ (ws_Matrix g q46 u50 ++ (ws_Calc g q35 u39 ++ (ws_Matrix g q24 u28 ++ (ws_Whole g q13 u17 ++ ([] : va_W))))))) := hD
  have hFc := pm_free hD hS hA
  refine va_callv (va_runIN (As := []) (rest := [.ref q57, .ref h0]) ⟨hx, hb, hml, hown, hT⟩ (c_Whole_init l D g q57 H.size) (⟨va_cnB 0 hT gd_Whole_init rfl rfl rfl (hN.1 _ nw_344) (hT _ tw_158) (by decide +kernel) ⟨Nat.le_of_ble_eq_true rfl, Nat.le_of_ble_eq_true rfl⟩, rfl, hT _ tw_243⟩) (cp_S hP hK hD hN) rfl rfl hl.1 rfl (lv_room (Nat.le_of_ble_eq_true rfl)) d_Elim_init_61 ⟨Nat.le_of_ble_eq_true rfl, Nat.le_of_ble_eq_true rfl⟩) hS (fun q _ h => hFc q h) hFc (fun u61 t H1 locs ht1 hvm hw hB hz1 hk1 hS => ?_)
  obtain ⟨hP1, hD1⟩ := hB
  rw [ht1] at hP1
  obtain ⟨hP, hD⟩ := pm_join hP hD hk1 hFc hP1 hD1
  generalize H1 = H at hP hS ⊢
  have hP := pm_swapP hP
  have hD := pm_swapD hD
  have hP : va_P D vC ([(h0, .inr (1, [.ref q7, .int 0, .ref q13, .ref q24, .ref q35, .ref q46, .null, .null, .null, .null, .null, .null, .int 0, .null, .long 0])), (q7, .inl (g 0, 64, .inl (fun _ => 0)))] ++ (ws_Whole g q57 u61 ++ (ws_Matrix g q46 u50 ++ (ws_Calc g q35 u39 ++ (ws_Matrix g q24 u28 ++ (ws_Whole g q13 u17 ++ ([] : va_W))))))) H := hP
  have hD : va_D A ([(h0, .inr (1, [.ref q7, .int 0, .ref q13, .ref q24, .ref q35, .ref q46, .null, .null, .null, .null, .null, .null, .int 0, .null, .long 0])), (q7, .inl (g 0, 64, .inl (fun _ => 0)))] ++ (ws_Whole g q57 u61 ++ (ws_Matrix g q46 u50 ++ (ws_Calc g q35 u39 ++ (ws_Matrix g q24 u28 ++ (ws_Whole g q13 u17 ++ ([] : va_W))))))) := hD
  refine W.widen (k := 34) (n := 206) (by decide) (by decide) ?_
  refine va_putF (D := D) (ci := 1) (v := .ref q57) (ty := .object "MatrixScripts$Whole") (C := "MatrixScripts$Elimination") (T := T_Elim) (N := 15) hx hb hT in_Elim ty_Elim ty_Elim_ok nm_Elim hown hK hP hD hS 0 rfl rfl 6 (by decide) (hT _ tw_459) (fun _ h9 => h9) rfl hin rfl (by decide +kernel) rfl rfl (Nat.le_of_ble_eq_true rfl) d_Elim_init_64 (fun H locs hP hD hS => ?_)
  have hP : va_P D vC ([(h0, .inr (1, [.ref q7, .int 0, .ref q13, .ref q24, .ref q35, .ref q46, .ref q57, .null, .null, .null, .null, .null, .int 0, .null, .long 0])), (q7, .inl (g 0, 64, .inl (fun _ => 0)))] ++ (ws_Whole g q57 u61 ++ (ws_Matrix g q46 u50 ++ (ws_Calc g q35 u39 ++ (ws_Matrix g q24 u28 ++ (ws_Whole g q13 u17 ++ ([] : va_W))))))) H := hP
  have hD : va_D A ([(h0, .inr (1, [.ref q7, .int 0, .ref q13, .ref q24, .ref q35, .ref q46, .ref q57, .null, .null, .null, .null, .null, .int 0, .null, .long 0])), (q7, .inl (g 0, 64, .inl (fun _ => 0)))] ++ (ws_Whole g q57 u61 ++ (ws_Matrix g q46 u50 ++ (ws_Calc g q35 u39 ++ (ws_Matrix g q24 u28 ++ (ws_Whole g q13 u17 ++ ([] : va_W))))))) := hD
  refine lv_aload_n hx hb d_Elim_init_67 rfl (lv_at hl 0 rfl) ?_
  refine pm_new (D := D) (ci := 11) (fs := [.null, .int 0, .int 0]) (C := "MatrixScripts$Whole") (T := T_Whole) (N := 3) hx hb hT in_Whole ty_Whole ty_Whole_ok hown (hT _ tw_343) (hT _ tw_241) (hT _ tw_158) hK hP hD hS hA rfl (by decide) (Nat.le_of_ble_eq_true rfl) (Nat.le_of_ble_eq_true rfl) d_Elim_init_68 (fun q68 H hP hD hS => ?_)
  have hP : va_P D vC ([(h0, .inr (1, [.ref q7, .int 0, .ref q13, .ref q24, .ref q35, .ref q46, .ref q57, .null, .null, .null, .null, .null, .int 0, .null, .long 0])), (q7, .inl (g 0, 64, .inl (fun _ => 0))), (q68, .inr (11, [.null, .int 0, .int 0]))] ++ (ws_Whole g q57 u61 ++ (ws_Matrix g q46 u50 ++ (ws_Calc g q35 u39 ++ (ws_Matrix g q24 u28 ++ (ws_Whole g q13 u17 ++ ([] : va_W))))))) H := hP
  have hD : va_D A ([(h0, .inr (1, [.ref q7, .int 0, .ref q13, .ref q24, .ref q35, .ref q46, .ref q57, .null, .null, .null, .null, .null, .int 0, .null, .long 0])), (q7, .inl (g 0, 64, .inl (fun _ => 0))), (q68, .inr (11, [.null, .int 0, .int 0]))] ++ (ws_Whole g q57 u61 ++ (ws_Matrix g q46 u50 ++ (ws_Calc g q35 u39 ++ (ws_Matrix g q24 u28 ++ (ws_Whole g q13 u17 ++ ([] : va_W))))))) := hD
  refine W.widen (k := 35) (n := 209) (by decide) (by decide) ?_
  refine lv_dup hx hb d_Elim_init_71 rfl ?_
  have hP := pm_subP (a' := [(q68, .inr (11, [.null, .int 0, .int 0])), (h0, .inr (1, [.ref q7, .int 0, .ref q13, .ref q24, .ref q35, .ref q46, .ref q57, .null, .null, .null, .null, .null, .int 0, .null, .long 0])), (q7, .inl (g 0, 64, .inl (fun _ => 0)))]) hP [2, 0, 1] rfl
  have hD := pm_subD (a' := [(q68, .inr (11, [.null, .int 0, .int 0])), (h0, .inr (1, [.ref q7, .int 0, .ref q13, .ref q24, .ref q35, .ref q46, .ref q57, .null, .null, .null, .null, .null, .int 0, .null, .long 0])), (q7, .inl (g 0, 64, .inl (fun _ => 0)))]) hD [2, 0, 1] (by decide) rfl
  have hP : va_P D vC ([(q68, .inr (11, [.null, .int 0, .int 0]))] ++ ([(h0, .inr (1, [.ref q7, .int 0, .ref q13, .ref q24, .ref q35, .ref q46, .ref q57, .null, .null, .null, .null, .null, .int 0, .null, .long 0])), (q7, .inl (g 0, 64, .inl (fun _ => 0)))] ++ (ws_Whole g q57 u61 ++ (ws_Matrix g q46 u50 ++ (ws_Calc g q35 u39 ++ (ws_Matrix g q24 u28 ++ (ws_Whole g q13 u17 ++ ([] : va_W)))))))) H := hP
  have hD : va_D A ([(q68, .inr (11, [.null, .int 0, .int 0]))] ++ ([(h0, .inr (1, [.ref q7, .int 0, .ref q13, .ref q24, .ref q35, .ref q46, .ref q57, .null, .null, .null, .null, .null, .int 0, .null, .long 0])), (q7, .inl (g 0, 64, .inl (fun _ => 0)))] ++ (ws_Whole g q57 u61 ++ (ws_Matrix g q46 u50 ++ (ws_Calc g q35 u39 ++ (ws_Matrix g q24 u28 ++ (ws_Whole g q13 u17 ++ ([] : va_W)))))))) := hD
  have hFc := pm_free hD hS hA
  refine va_callv (va_runIN (As := []) (rest := [.ref q68, .ref h0]) ⟨hx, hb, hml, hown, hT⟩ (c_Whole_init l D g q68 H.size) (⟨va_cnB 0 hT gd_Whole_init rfl rfl rfl (hN.1 _ nw_344) (hT _ tw_158) (by decide +kernel) ⟨Nat.le_of_ble_eq_true rfl, Nat.le_of_ble_eq_true rfl⟩, rfl, hT _ tw_243⟩) (cp_S hP hK hD hN) rfl rfl hl.1 rfl (lv_room (Nat.le_of_ble_eq_true rfl)) d_Elim_init_72 ⟨Nat.le_of_ble_eq_true rfl, Nat.le_of_ble_eq_true rfl⟩) hS (fun q _ h => hFc q h) hFc (fun u72 t H1 locs ht1 hvm hw hB hz1 hk1 hS => ?_)
  obtain ⟨hP1, hD1⟩ := hB
  rw [ht1] at hP1
  obtain ⟨hP, hD⟩ := pm_join hP hD hk1 hFc hP1 hD1
  generalize H1 = H at hP hS ⊢
  have hP := pm_swapP hP
  have hD := pm_swapD hD
  have hP : va_P D vC ([(h0, .inr (1, [.ref q7, .int 0, .ref q13, .ref q24, .ref q35, .ref q46, .ref q57, .null, .null, .null, .null, .null, .int 0, .null, .long 0])), (q7, .inl (g 0, 64, .inl (fun _ => 0)))] ++ (ws_Whole g q68 u72 ++ (ws_Whole g q57 u61 ++ (ws_Matrix g q46 u50 ++ (ws_Calc g q35 u39 ++ (ws_Matrix g q24 u28 ++ (ws_Whole g q13 u17 ++ ([] : va_W)))))))) H := hP
  have hD : va_D A ([(h0, .inr (1, [.ref q7, .int 0, .ref q13, .ref q24, .ref q35, .ref q46, .ref q57, .null, .null, .null, .null, .null, .int 0, .null, .long 0])), (q7, .inl (g 0, 64, .inl (fun _ => 0)))] ++ (ws_Whole g q68 u72 ++ (ws_Whole g q57 u61 ++ (ws_Matrix g q46 u50 ++ (ws_Calc g q35 u39 ++ (ws_Matrix g q24 u28 ++ (ws_Whole g q13 u17 ++ ([] : va_W)))))))) := hD
  refine W.widen (k := 36) (n := 212) (by decide) (by decide) ?_
  refine va_putF (D := D) (ci := 1) (v := .ref q68) (ty := .object "MatrixScripts$Whole") (C := "MatrixScripts$Elimination") (T := T_Elim) (N := 15) hx hb hT in_Elim ty_Elim ty_Elim_ok nm_Elim hown hK hP hD hS 0 rfl rfl 7 (by decide) (hT _ tw_460) (fun _ h9 => h9) rfl hin rfl (by decide +kernel) rfl rfl (Nat.le_of_ble_eq_true rfl) d_Elim_init_75 (fun H locs hP hD hS => ?_)
  have hP : va_P D vC ([(h0, .inr (1, [.ref q7, .int 0, .ref q13, .ref q24, .ref q35, .ref q46, .ref q57, .ref q68, .null, .null, .null, .null, .int 0, .null, .long 0])), (q7, .inl (g 0, 64, .inl (fun _ => 0)))] ++ (ws_Whole g q68 u72 ++ (ws_Whole g q57 u61 ++ (ws_Matrix g q46 u50 ++ (ws_Calc g q35 u39 ++ (ws_Matrix g q24 u28 ++ (ws_Whole g q13 u17 ++ ([] : va_W)))))))) H := hP
  have hD : va_D A ([(h0, .inr (1, [.ref q7, .int 0, .ref q13, .ref q24, .ref q35, .ref q46, .ref q57, .ref q68, .null, .null, .null, .null, .int 0, .null, .long 0])), (q7, .inl (g 0, 64, .inl (fun _ => 0)))] ++ (ws_Whole g q68 u72 ++ (ws_Whole g q57 u61 ++ (ws_Matrix g q46 u50 ++ (ws_Calc g q35 u39 ++ (ws_Matrix g q24 u28 ++ (ws_Whole g q13 u17 ++ ([] : va_W)))))))) := hD
  refine lv_aload_n hx hb d_Elim_init_78 rfl (lv_at hl 0 rfl) ?_
  refine pm_new (D := D) (ci := 11) (fs := [.null, .int 0, .int 0]) (C := "MatrixScripts$Whole") (T := T_Whole) (N := 3) hx hb hT in_Whole ty_Whole ty_Whole_ok hown (hT _ tw_343) (hT _ tw_241) (hT _ tw_158) hK hP hD hS hA rfl (by decide) (Nat.le_of_ble_eq_true rfl) (Nat.le_of_ble_eq_true rfl) d_Elim_init_79 (fun q79 H hP hD hS => ?_)
  have hP : va_P D vC ([(h0, .inr (1, [.ref q7, .int 0, .ref q13, .ref q24, .ref q35, .ref q46, .ref q57, .ref q68, .null, .null, .null, .null, .int 0, .null, .long 0])), (q7, .inl (g 0, 64, .inl (fun _ => 0))), (q79, .inr (11, [.null, .int 0, .int 0]))] ++ (ws_Whole g q68 u72 ++ (ws_Whole g q57 u61 ++ (ws_Matrix g q46 u50 ++ (ws_Calc g q35 u39 ++ (ws_Matrix g q24 u28 ++ (ws_Whole g q13 u17 ++ ([] : va_W)))))))) H := hP
  have hD : va_D A ([(h0, .inr (1, [.ref q7, .int 0, .ref q13, .ref q24, .ref q35, .ref q46, .ref q57, .ref q68, .null, .null, .null, .null, .int 0, .null, .long 0])), (q7, .inl (g 0, 64, .inl (fun _ => 0))), (q79, .inr (11, [.null, .int 0, .int 0]))] ++ (ws_Whole g q68 u72 ++ (ws_Whole g q57 u61 ++ (ws_Matrix g q46 u50 ++ (ws_Calc g q35 u39 ++ (ws_Matrix g q24 u28 ++ (ws_Whole g q13 u17 ++ ([] : va_W)))))))) := hD
  refine W.widen (k := 37) (n := 215) (by decide) (by decide) ?_
  refine lv_dup hx hb d_Elim_init_82 rfl ?_
  have hP := pm_subP (a' := [(q79, .inr (11, [.null, .int 0, .int 0])), (h0, .inr (1, [.ref q7, .int 0, .ref q13, .ref q24, .ref q35, .ref q46, .ref q57, .ref q68, .null, .null, .null, .null, .int 0, .null, .long 0])), (q7, .inl (g 0, 64, .inl (fun _ => 0)))]) hP [2, 0, 1] rfl
  have hD := pm_subD (a' := [(q79, .inr (11, [.null, .int 0, .int 0])), (h0, .inr (1, [.ref q7, .int 0, .ref q13, .ref q24, .ref q35, .ref q46, .ref q57, .ref q68, .null, .null, .null, .null, .int 0, .null, .long 0])), (q7, .inl (g 0, 64, .inl (fun _ => 0)))]) hD [2, 0, 1] (by decide) rfl
  have hP : va_P D vC ([(q79, .inr (11, [.null, .int 0, .int 0]))] ++ ([(h0, .inr (1, [.ref q7, .int 0, .ref q13, .ref q24, .ref q35, .ref q46, .ref q57, .ref q68, .null, .null, .null, .null, .int 0, .null, .long 0])), (q7, .inl (g 0, 64, .inl (fun _ => 0)))] ++ (ws_Whole g q68 u72 ++ (ws_Whole g q57 u61 ++ (ws_Matrix g q46 u50 ++ (ws_Calc g q35 u39 ++ (ws_Matrix g q24 u28 ++ (ws_Whole g q13 u17 ++ ([] : va_W))))))))) H := hP
  have hD : va_D A ([(q79, .inr (11, [.null, .int 0, .int 0]))] ++ ([(h0, .inr (1, [.ref q7, .int 0, .ref q13, .ref q24, .ref q35, .ref q46, .ref q57, .ref q68, .null, .null, .null, .null, .int 0, .null, .long 0])), (q7, .inl (g 0, 64, .inl (fun _ => 0)))] ++ (ws_Whole g q68 u72 ++ (ws_Whole g q57 u61 ++ (ws_Matrix g q46 u50 ++ (ws_Calc g q35 u39 ++ (ws_Matrix g q24 u28 ++ (ws_Whole g q13 u17 ++ ([] : va_W))))))))) := hD
  have hFc := pm_free hD hS hA
  refine va_callv (va_runIN (As := []) (rest := [.ref q79, .ref h0]) ⟨hx, hb, hml, hown, hT⟩ (c_Whole_init l D g q79 H.size) (⟨va_cnB 0 hT gd_Whole_init rfl rfl rfl (hN.1 _ nw_344) (hT _ tw_158) (by decide +kernel) ⟨Nat.le_of_ble_eq_true rfl, Nat.le_of_ble_eq_true rfl⟩, rfl, hT _ tw_243⟩) (cp_S hP hK hD hN) rfl rfl hl.1 rfl (lv_room (Nat.le_of_ble_eq_true rfl)) d_Elim_init_83 ⟨Nat.le_of_ble_eq_true rfl, Nat.le_of_ble_eq_true rfl⟩) hS (fun q _ h => hFc q h) hFc (fun u83 t H1 locs ht1 hvm hw hB hz1 hk1 hS => ?_)
  obtain ⟨hP1, hD1⟩ := hB
  rw [ht1] at hP1
  obtain ⟨hP, hD⟩ := pm_join hP hD hk1 hFc hP1 hD1
  generalize H1 = H at hP hS ⊢
  have hP := pm_swapP hP
  have hD := pm_swapD hD
  have hP : va_P D vC ([(h0, .inr (1, [.ref q7, .int 0, .ref q13, .ref q24, .ref q35, .ref q46, .ref q57, .ref q68, .null, .null, .null, .null, .int 0, .null, .long 0])), (q7, .inl (g 0, 64, .inl (fun _ => 0)))] ++ (ws_Whole g q79 u83 ++ (ws_Whole g q68 u72 ++ (ws_Whole g q57 u61 ++ (ws_Matrix g q46 u50 ++ (ws_Calc g q35 u39 ++ (ws_Matrix g q24 u28 ++ (ws_Whole g q13 u17 ++ ([] : va_W))))))))) H := hP
  have hD : va_D A ([(h0, .inr (1, [.ref q7, .int 0, .ref q13, .ref q24, .ref q35, .ref q46, .ref q57, .ref q68, .null, .null, .null, .null, .int 0, .null, .long 0])), (q7, .inl (g 0, 64, .inl (fun _ => 0)))] ++ (ws_Whole g q79 u83 ++ (ws_Whole g q68 u72 ++ (ws_Whole g q57 u61 ++ (ws_Matrix g q46 u50 ++ (ws_Calc g q35 u39 ++ (ws_Matrix g q24 u28 ++ (ws_Whole g q13 u17 ++ ([] : va_W))))))))) := hD
  refine W.widen (k := 38) (n := 218) (by decide) (by decide) ?_
  refine va_putF (D := D) (ci := 1) (v := .ref q79) (ty := .object "MatrixScripts$Whole") (C := "MatrixScripts$Elimination") (T := T_Elim) (N := 15) hx hb hT in_Elim ty_Elim ty_Elim_ok nm_Elim hown hK hP hD hS 0 rfl rfl 8 (by decide) (hT _ tw_461) (fun _ h9 => h9) rfl hin rfl (by decide +kernel) rfl rfl (Nat.le_of_ble_eq_true rfl) d_Elim_init_86 (fun H locs hP hD hS => ?_)
  have hP : va_P D vC ([(h0, .inr (1, [.ref q7, .int 0, .ref q13, .ref q24, .ref q35, .ref q46, .ref q57, .ref q68, .ref q79, .null, .null, .null, .int 0, .null, .long 0])), (q7, .inl (g 0, 64, .inl (fun _ => 0)))] ++ (ws_Whole g q79 u83 ++ (ws_Whole g q68 u72 ++ (ws_Whole g q57 u61 ++ (ws_Matrix g q46 u50 ++ (ws_Calc g q35 u39 ++ (ws_Matrix g q24 u28 ++ (ws_Whole g q13 u17 ++ ([] : va_W))))))))) H := hP
  have hD : va_D A ([(h0, .inr (1, [.ref q7, .int 0, .ref q13, .ref q24, .ref q35, .ref q46, .ref q57, .ref q68, .ref q79, .null, .null, .null, .int 0, .null, .long 0])), (q7, .inl (g 0, 64, .inl (fun _ => 0)))] ++ (ws_Whole g q79 u83 ++ (ws_Whole g q68 u72 ++ (ws_Whole g q57 u61 ++ (ws_Matrix g q46 u50 ++ (ws_Calc g q35 u39 ++ (ws_Matrix g q24 u28 ++ (ws_Whole g q13 u17 ++ ([] : va_W))))))))) := hD
  refine lv_aload_n hx hb d_Elim_init_89 rfl (lv_at hl 0 rfl) ?_
  refine pm_new (D := D) (ci := 11) (fs := [.null, .int 0, .int 0]) (C := "MatrixScripts$Whole") (T := T_Whole) (N := 3) hx hb hT in_Whole ty_Whole ty_Whole_ok hown (hT _ tw_343) (hT _ tw_241) (hT _ tw_158) hK hP hD hS hA rfl (by decide) (Nat.le_of_ble_eq_true rfl) (Nat.le_of_ble_eq_true rfl) d_Elim_init_90 (fun q90 H hP hD hS => ?_)
  have hP : va_P D vC ([(h0, .inr (1, [.ref q7, .int 0, .ref q13, .ref q24, .ref q35, .ref q46, .ref q57, .ref q68, .ref q79, .null, .null, .null, .int 0, .null, .long 0])), (q7, .inl (g 0, 64, .inl (fun _ => 0))), (q90, .inr (11, [.null, .int 0, .int 0]))] ++ (ws_Whole g q79 u83 ++ (ws_Whole g q68 u72 ++ (ws_Whole g q57 u61 ++ (ws_Matrix g q46 u50 ++ (ws_Calc g q35 u39 ++ (ws_Matrix g q24 u28 ++ (ws_Whole g q13 u17 ++ ([] : va_W))))))))) H := hP
  have hD : va_D A ([(h0, .inr (1, [.ref q7, .int 0, .ref q13, .ref q24, .ref q35, .ref q46, .ref q57, .ref q68, .ref q79, .null, .null, .null, .int 0, .null, .long 0])), (q7, .inl (g 0, 64, .inl (fun _ => 0))), (q90, .inr (11, [.null, .int 0, .int 0]))] ++ (ws_Whole g q79 u83 ++ (ws_Whole g q68 u72 ++ (ws_Whole g q57 u61 ++ (ws_Matrix g q46 u50 ++ (ws_Calc g q35 u39 ++ (ws_Matrix g q24 u28 ++ (ws_Whole g q13 u17 ++ ([] : va_W))))))))) := hD
  refine W.widen (k := 39) (n := 221) (by decide) (by decide) ?_
  refine lv_dup hx hb d_Elim_init_93 rfl ?_
  have hP := pm_subP (a' := [(q90, .inr (11, [.null, .int 0, .int 0])), (h0, .inr (1, [.ref q7, .int 0, .ref q13, .ref q24, .ref q35, .ref q46, .ref q57, .ref q68, .ref q79, .null, .null, .null, .int 0, .null, .long 0])), (q7, .inl (g 0, 64, .inl (fun _ => 0)))]) hP [2, 0, 1] rfl
  have hD := pm_subD (a' := [(q90, .inr (11, [.null, .int 0, .int 0])), (h0, .inr (1, [.ref q7, .int 0, .ref q13, .ref q24, .ref q35, .ref q46, .ref q57, .ref q68, .ref q79, .null, .null, .null, .int 0, .null, .long 0])), (q7, .inl (g 0, 64, .inl (fun _ => 0)))]) hD [2, 0, 1] (by decide) rfl
  have hP : va_P D vC ([(q90, .inr (11, [.null, .int 0, .int 0]))] ++ ([(h0, .inr (1, [.ref q7, .int 0, .ref q13, .ref q24, .ref q35, .ref q46, .ref q57, .ref q68, .ref q79, .null, .null, .null, .int 0, .null, .long 0])), (q7, .inl (g 0, 64, .inl (fun _ => 0)))] ++ (ws_Whole g q79 u83 ++ (ws_Whole g q68 u72 ++ (ws_Whole g q57 u61 ++ (ws_Matrix g q46 u50 ++ (ws_Calc g q35 u39 ++ (ws_Matrix g q24 u28 ++ (ws_Whole g q13 u17 ++ ([] : va_W)))))))))) H := hP
  have hD : va_D A ([(q90, .inr (11, [.null, .int 0, .int 0]))] ++ ([(h0, .inr (1, [.ref q7, .int 0, .ref q13, .ref q24, .ref q35, .ref q46, .ref q57, .ref q68, .ref q79, .null, .null, .null, .int 0, .null, .long 0])), (q7, .inl (g 0, 64, .inl (fun _ => 0)))] ++ (ws_Whole g q79 u83 ++ (ws_Whole g q68 u72 ++ (ws_Whole g q57 u61 ++ (ws_Matrix g q46 u50 ++ (ws_Calc g q35 u39 ++ (ws_Matrix g q24 u28 ++ (ws_Whole g q13 u17 ++ ([] : va_W)))))))))) := hD
  have hFc := pm_free hD hS hA
  refine va_callv (va_runIN (As := []) (rest := [.ref q90, .ref h0]) ⟨hx, hb, hml, hown, hT⟩ (c_Whole_init l D g q90 H.size) (⟨va_cnB 0 hT gd_Whole_init rfl rfl rfl (hN.1 _ nw_344) (hT _ tw_158) (by decide +kernel) ⟨Nat.le_of_ble_eq_true rfl, Nat.le_of_ble_eq_true rfl⟩, rfl, hT _ tw_243⟩) (cp_S hP hK hD hN) rfl rfl hl.1 rfl (lv_room (Nat.le_of_ble_eq_true rfl)) d_Elim_init_94 ⟨Nat.le_of_ble_eq_true rfl, Nat.le_of_ble_eq_true rfl⟩) hS (fun q _ h => hFc q h) hFc (fun u94 t H1 locs ht1 hvm hw hB hz1 hk1 hS => ?_)
  obtain ⟨hP1, hD1⟩ := hB
  rw [ht1] at hP1
  obtain ⟨hP, hD⟩ := pm_join hP hD hk1 hFc hP1 hD1
  generalize H1 = H at hP hS ⊢
  have hP := pm_swapP hP
  have hD := pm_swapD hD
  have hP : va_P D vC ([(h0, .inr (1, [.ref q7, .int 0, .ref q13, .ref q24, .ref q35, .ref q46, .ref q57, .ref q68, .ref q79, .null, .null, .null, .int 0, .null, .long 0])), (q7, .inl (g 0, 64, .inl (fun _ => 0)))] ++ (ws_Whole g q90 u94 ++ (ws_Whole g q79 u83 ++ (ws_Whole g q68 u72 ++ (ws_Whole g q57 u61 ++ (ws_Matrix g q46 u50 ++ (ws_Calc g q35 u39 ++ (ws_Matrix g q24 u28 ++ (ws_Whole g q13 u17 ++ ([] : va_W)))))))))) H := hP
  have hD : va_D A ([(h0, .inr (1, [.ref q7, .int 0, .ref q13, .ref q24, .ref q35, .ref q46, .ref q57, .ref q68, .ref q79, .null, .null, .null, .int 0, .null, .long 0])), (q7, .inl (g 0, 64, .inl (fun _ => 0)))] ++ (ws_Whole g q90 u94 ++ (ws_Whole g q79 u83 ++ (ws_Whole g q68 u72 ++ (ws_Whole g q57 u61 ++ (ws_Matrix g q46 u50 ++ (ws_Calc g q35 u39 ++ (ws_Matrix g q24 u28 ++ (ws_Whole g q13 u17 ++ ([] : va_W)))))))))) := hD
  refine W.widen (k := 40) (n := 224) (by decide) (by decide) ?_
  refine va_putF (D := D) (ci := 1) (v := .ref q90) (ty := .object "MatrixScripts$Whole") (C := "MatrixScripts$Elimination") (T := T_Elim) (N := 15) hx hb hT in_Elim ty_Elim ty_Elim_ok nm_Elim hown hK hP hD hS 0 rfl rfl 9 (by decide) (hT _ tw_462) (fun _ h9 => h9) rfl hin rfl (by decide +kernel) rfl rfl (Nat.le_of_ble_eq_true rfl) d_Elim_init_97 (fun H locs hP hD hS => ?_)
  have hP : va_P D vC ([(h0, .inr (1, [.ref q7, .int 0, .ref q13, .ref q24, .ref q35, .ref q46, .ref q57, .ref q68, .ref q79, .ref q90, .null, .null, .int 0, .null, .long 0])), (q7, .inl (g 0, 64, .inl (fun _ => 0)))] ++ (ws_Whole g q90 u94 ++ (ws_Whole g q79 u83 ++ (ws_Whole g q68 u72 ++ (ws_Whole g q57 u61 ++ (ws_Matrix g q46 u50 ++ (ws_Calc g q35 u39 ++ (ws_Matrix g q24 u28 ++ (ws_Whole g q13 u17 ++ ([] : va_W)))))))))) H := hP
  have hD : va_D A ([(h0, .inr (1, [.ref q7, .int 0, .ref q13, .ref q24, .ref q35, .ref q46, .ref q57, .ref q68, .ref q79, .ref q90, .null, .null, .int 0, .null, .long 0])), (q7, .inl (g 0, 64, .inl (fun _ => 0)))] ++ (ws_Whole g q90 u94 ++ (ws_Whole g q79 u83 ++ (ws_Whole g q68 u72 ++ (ws_Whole g q57 u61 ++ (ws_Matrix g q46 u50 ++ (ws_Calc g q35 u39 ++ (ws_Matrix g q24 u28 ++ (ws_Whole g q13 u17 ++ ([] : va_W)))))))))) := hD
  refine lv_aload_n hx hb d_Elim_init_100 rfl (lv_at hl 0 rfl) ?_
  refine pm_new (D := D) (ci := 11) (fs := [.null, .int 0, .int 0]) (C := "MatrixScripts$Whole") (T := T_Whole) (N := 3) hx hb hT in_Whole ty_Whole ty_Whole_ok hown (hT _ tw_343) (hT _ tw_241) (hT _ tw_158) hK hP hD hS hA rfl (by decide) (Nat.le_of_ble_eq_true rfl) (Nat.le_of_ble_eq_true rfl) d_Elim_init_101 (fun q101 H hP hD hS => ?_)
  have hP : va_P D vC ([(h0, .inr (1, [.ref q7, .int 0, .ref q13, .ref q24, .ref q35, .ref q46, .ref q57, .ref q68, .ref q79, .ref q90, .null, .null, .int 0, .null, .long 0])), (q7, .inl (g 0, 64, .inl (fun _ => 0))), (q101, .inr (11, [.null, .int 0, .int 0]))] ++ (ws_Whole g q90 u94 ++ (ws_Whole g q79 u83 ++ (ws_Whole g q68 u72 ++ (ws_Whole g q57 u61 ++ (ws_Matrix g q46 u50 ++ (ws_Calc g q35 u39 ++ (ws_Matrix g q24 u28 ++ (ws_Whole g q13 u17 ++ ([] : va_W)))))))))) H := hP
  have hD : va_D A ([(h0, .inr (1, [.ref q7, .int 0, .ref q13, .ref q24, .ref q35, .ref q46, .ref q57, .ref q68, .ref q79, .ref q90, .null, .null, .int 0, .null, .long 0])), (q7, .inl (g 0, 64, .inl (fun _ => 0))), (q101, .inr (11, [.null, .int 0, .int 0]))] ++ (ws_Whole g q90 u94 ++ (ws_Whole g q79 u83 ++ (ws_Whole g q68 u72 ++ (ws_Whole g q57 u61 ++ (ws_Matrix g q46 u50 ++ (ws_Calc g q35 u39 ++ (ws_Matrix g q24 u28 ++ (ws_Whole g q13 u17 ++ ([] : va_W)))))))))) := hD
  refine W.widen (k := 41) (n := 227) (by decide) (by decide) ?_
  refine lv_dup hx hb d_Elim_init_104 rfl ?_
  have hP := pm_subP (a' := [(q101, .inr (11, [.null, .int 0, .int 0])), (h0, .inr (1, [.ref q7, .int 0, .ref q13, .ref q24, .ref q35, .ref q46, .ref q57, .ref q68, .ref q79, .ref q90, .null, .null, .int 0, .null, .long 0])), (q7, .inl (g 0, 64, .inl (fun _ => 0)))]) hP [2, 0, 1] rfl
  have hD := pm_subD (a' := [(q101, .inr (11, [.null, .int 0, .int 0])), (h0, .inr (1, [.ref q7, .int 0, .ref q13, .ref q24, .ref q35, .ref q46, .ref q57, .ref q68, .ref q79, .ref q90, .null, .null, .int 0, .null, .long 0])), (q7, .inl (g 0, 64, .inl (fun _ => 0)))]) hD [2, 0, 1] (by decide) rfl
  have hP : va_P D vC ([(q101, .inr (11, [.null, .int 0, .int 0]))] ++ ([(h0, .inr (1, [.ref q7, .int 0, .ref q13, .ref q24, .ref q35, .ref q46, .ref q57, .ref q68, .ref q79, .ref q90, .null, .null, .int 0, .null, .long 0])), (q7, .inl (g 0, 64, .inl (fun _ => 0)))] ++ (ws_Whole g q90 u94 ++ (ws_Whole g q79 u83 ++ (ws_Whole g q68 u72 ++ (ws_Whole g q57 u61 ++ (ws_Matrix g q46 u50 ++ (ws_Calc g q35 u39 ++ (ws_Matrix g q24 u28 ++ (ws_Whole g q13 u17 ++ ([] : va_W))))))))))) H := hP
  have hD : va_D A ([(q101, .inr (11, [.null, .int 0, .int 0]))] ++ ([(h0, .inr (1, [.ref q7, .int 0, .ref q13, .ref q24, .ref q35, .ref q46, .ref q57, .ref q68, .ref q79, .ref q90, .null, .null, .int 0, .null, .long 0])), (q7, .inl (g 0, 64, .inl (fun _ => 0)))] ++ (ws_Whole g q90 u94 ++ (ws_Whole g q79 u83 ++ (ws_Whole g q68 u72 ++ (ws_Whole g q57 u61 ++ (ws_Matrix g q46 u50 ++ (ws_Calc g q35 u39 ++ (ws_Matrix g q24 u28 ++ (ws_Whole g q13 u17 ++ ([] : va_W))))))))))) := hD
  have hFc := pm_free hD hS hA
  refine va_callv (va_runIN (As := []) (rest := [.ref q101, .ref h0]) ⟨hx, hb, hml, hown, hT⟩ (c_Whole_init l D g q101 H.size) (⟨va_cnB 0 hT gd_Whole_init rfl rfl rfl (hN.1 _ nw_344) (hT _ tw_158) (by decide +kernel) ⟨Nat.le_of_ble_eq_true rfl, Nat.le_of_ble_eq_true rfl⟩, rfl, hT _ tw_243⟩) (cp_S hP hK hD hN) rfl rfl hl.1 rfl (lv_room (Nat.le_of_ble_eq_true rfl)) d_Elim_init_105 ⟨Nat.le_of_ble_eq_true rfl, Nat.le_of_ble_eq_true rfl⟩) hS (fun q _ h => hFc q h) hFc (fun u105 t H1 locs ht1 hvm hw hB hz1 hk1 hS => ?_)
  obtain ⟨hP1, hD1⟩ := hB
  rw [ht1] at hP1
  obtain ⟨hP, hD⟩ := pm_join hP hD hk1 hFc hP1 hD1
  generalize H1 = H at hP hS ⊢
  have hP := pm_swapP hP
  have hD := pm_swapD hD
  have hP : va_P D vC ([(h0, .inr (1, [.ref q7, .int 0, .ref q13, .ref q24, .ref q35, .ref q46, .ref q57, .ref q68, .ref q79, .ref q90, .null, .null, .int 0, .null, .long 0])), (q7, .inl (g 0, 64, .inl (fun _ => 0)))] ++ (ws_Whole g q101 u105 ++ (ws_Whole g q90 u94 ++ (ws_Whole g q79 u83 ++ (ws_Whole g q68 u72 ++ (ws_Whole g q57 u61 ++ (ws_Matrix g q46 u50 ++ (ws_Calc g q35 u39 ++ (ws_Matrix g q24 u28 ++ (ws_Whole g q13 u17 ++ ([] : va_W))))))))))) H := hP
  have hD : va_D A ([(h0, .inr (1, [.ref q7, .int 0, .ref q13, .ref q24, .ref q35, .ref q46, .ref q57, .ref q68, .ref q79, .ref q90, .null, .null, .int 0, .null, .long 0])), (q7, .inl (g 0, 64, .inl (fun _ => 0)))] ++ (ws_Whole g q101 u105 ++ (ws_Whole g q90 u94 ++ (ws_Whole g q79 u83 ++ (ws_Whole g q68 u72 ++ (ws_Whole g q57 u61 ++ (ws_Matrix g q46 u50 ++ (ws_Calc g q35 u39 ++ (ws_Matrix g q24 u28 ++ (ws_Whole g q13 u17 ++ ([] : va_W))))))))))) := hD
  refine W.widen (k := 42) (n := 230) (by decide) (by decide) ?_
  refine va_putF (D := D) (ci := 1) (v := .ref q101) (ty := .object "MatrixScripts$Whole") (C := "MatrixScripts$Elimination") (T := T_Elim) (N := 15) hx hb hT in_Elim ty_Elim ty_Elim_ok nm_Elim hown hK hP hD hS 0 rfl rfl 10 (by decide) (hT _ tw_463) (fun _ h9 => h9) rfl hin rfl (by decide +kernel) rfl rfl (Nat.le_of_ble_eq_true rfl) d_Elim_init_108 (fun H locs hP hD hS => ?_)
  have hP : va_P D vC ([(h0, .inr (1, [.ref q7, .int 0, .ref q13, .ref q24, .ref q35, .ref q46, .ref q57, .ref q68, .ref q79, .ref q90, .ref q101, .null, .int 0, .null, .long 0])), (q7, .inl (g 0, 64, .inl (fun _ => 0)))] ++ (ws_Whole g q101 u105 ++ (ws_Whole g q90 u94 ++ (ws_Whole g q79 u83 ++ (ws_Whole g q68 u72 ++ (ws_Whole g q57 u61 ++ (ws_Matrix g q46 u50 ++ (ws_Calc g q35 u39 ++ (ws_Matrix g q24 u28 ++ (ws_Whole g q13 u17 ++ ([] : va_W))))))))))) H := hP
  have hD : va_D A ([(h0, .inr (1, [.ref q7, .int 0, .ref q13, .ref q24, .ref q35, .ref q46, .ref q57, .ref q68, .ref q79, .ref q90, .ref q101, .null, .int 0, .null, .long 0])), (q7, .inl (g 0, 64, .inl (fun _ => 0)))] ++ (ws_Whole g q101 u105 ++ (ws_Whole g q90 u94 ++ (ws_Whole g q79 u83 ++ (ws_Whole g q68 u72 ++ (ws_Whole g q57 u61 ++ (ws_Matrix g q46 u50 ++ (ws_Calc g q35 u39 ++ (ws_Matrix g q24 u28 ++ (ws_Whole g q13 u17 ++ ([] : va_W))))))))))) := hD
  refine lv_aload_n hx hb d_Elim_init_111 rfl (lv_at hl 0 rfl) ?_
  refine pm_new (D := D) (ci := 11) (fs := [.null, .int 0, .int 0]) (C := "MatrixScripts$Whole") (T := T_Whole) (N := 3) hx hb hT in_Whole ty_Whole ty_Whole_ok hown (hT _ tw_343) (hT _ tw_241) (hT _ tw_158) hK hP hD hS hA rfl (by decide) (Nat.le_of_ble_eq_true rfl) (Nat.le_of_ble_eq_true rfl) d_Elim_init_112 (fun q112 H hP hD hS => ?_)
  have hP : va_P D vC ([(h0, .inr (1, [.ref q7, .int 0, .ref q13, .ref q24, .ref q35, .ref q46, .ref q57, .ref q68, .ref q79, .ref q90, .ref q101, .null, .int 0, .null, .long 0])), (q7, .inl (g 0, 64, .inl (fun _ => 0))), (q112, .inr (11, [.null, .int 0, .int 0]))] ++ (ws_Whole g q101 u105 ++ (ws_Whole g q90 u94 ++ (ws_Whole g q79 u83 ++ (ws_Whole g q68 u72 ++ (ws_Whole g q57 u61 ++ (ws_Matrix g q46 u50 ++ (ws_Calc g q35 u39 ++ (ws_Matrix g q24 u28 ++ (ws_Whole g q13 u17 ++ ([] : va_W))))))))))) H := hP
  have hD : va_D A ([(h0, .inr (1, [.ref q7, .int 0, .ref q13, .ref q24, .ref q35, .ref q46, .ref q57, .ref q68, .ref q79, .ref q90, .ref q101, .null, .int 0, .null, .long 0])), (q7, .inl (g 0, 64, .inl (fun _ => 0))), (q112, .inr (11, [.null, .int 0, .int 0]))] ++ (ws_Whole g q101 u105 ++ (ws_Whole g q90 u94 ++ (ws_Whole g q79 u83 ++ (ws_Whole g q68 u72 ++ (ws_Whole g q57 u61 ++ (ws_Matrix g q46 u50 ++ (ws_Calc g q35 u39 ++ (ws_Matrix g q24 u28 ++ (ws_Whole g q13 u17 ++ ([] : va_W))))))))))) := hD
  refine W.widen (k := 43) (n := 233) (by decide) (by decide) ?_
  refine lv_dup hx hb d_Elim_init_115 rfl ?_
  have hP := pm_subP (a' := [(q112, .inr (11, [.null, .int 0, .int 0])), (h0, .inr (1, [.ref q7, .int 0, .ref q13, .ref q24, .ref q35, .ref q46, .ref q57, .ref q68, .ref q79, .ref q90, .ref q101, .null, .int 0, .null, .long 0])), (q7, .inl (g 0, 64, .inl (fun _ => 0)))]) hP [2, 0, 1] rfl
  have hD := pm_subD (a' := [(q112, .inr (11, [.null, .int 0, .int 0])), (h0, .inr (1, [.ref q7, .int 0, .ref q13, .ref q24, .ref q35, .ref q46, .ref q57, .ref q68, .ref q79, .ref q90, .ref q101, .null, .int 0, .null, .long 0])), (q7, .inl (g 0, 64, .inl (fun _ => 0)))]) hD [2, 0, 1] (by decide) rfl
  have hP : va_P D vC ([(q112, .inr (11, [.null, .int 0, .int 0]))] ++ ([(h0, .inr (1, [.ref q7, .int 0, .ref q13, .ref q24, .ref q35, .ref q46, .ref q57, .ref q68, .ref q79, .ref q90, .ref q101, .null, .int 0, .null, .long 0])), (q7, .inl (g 0, 64, .inl (fun _ => 0)))] ++ (ws_Whole g q101 u105 ++ (ws_Whole g q90 u94 ++ (ws_Whole g q79 u83 ++ (ws_Whole g q68 u72 ++ (ws_Whole g q57 u61 ++ (ws_Matrix g q46 u50 ++ (ws_Calc g q35 u39 ++ (ws_Matrix g q24 u28 ++ (ws_Whole g q13 u17 ++ ([] : va_W)))))))))))) H := hP
  have hD : va_D A ([(q112, .inr (11, [.null, .int 0, .int 0]))] ++ ([(h0, .inr (1, [.ref q7, .int 0, .ref q13, .ref q24, .ref q35, .ref q46, .ref q57, .ref q68, .ref q79, .ref q90, .ref q101, .null, .int 0, .null, .long 0])), (q7, .inl (g 0, 64, .inl (fun _ => 0)))] ++ (ws_Whole g q101 u105 ++ (ws_Whole g q90 u94 ++ (ws_Whole g q79 u83 ++ (ws_Whole g q68 u72 ++ (ws_Whole g q57 u61 ++ (ws_Matrix g q46 u50 ++ (ws_Calc g q35 u39 ++ (ws_Matrix g q24 u28 ++ (ws_Whole g q13 u17 ++ ([] : va_W)))))))))))) := hD
  have hFc := pm_free hD hS hA
  refine va_callv (va_runIN (As := []) (rest := [.ref q112, .ref h0]) ⟨hx, hb, hml, hown, hT⟩ (c_Whole_init l D g q112 H.size) (⟨va_cnB 0 hT gd_Whole_init rfl rfl rfl (hN.1 _ nw_344) (hT _ tw_158) (by decide +kernel) ⟨Nat.le_of_ble_eq_true rfl, Nat.le_of_ble_eq_true rfl⟩, rfl, hT _ tw_243⟩) (cp_S hP hK hD hN) rfl rfl hl.1 rfl (lv_room (Nat.le_of_ble_eq_true rfl)) d_Elim_init_116 ⟨Nat.le_of_ble_eq_true rfl, Nat.le_of_ble_eq_true rfl⟩) hS (fun q _ h => hFc q h) hFc (fun u116 t H1 locs ht1 hvm hw hB hz1 hk1 hS => ?_)
  obtain ⟨hP1, hD1⟩ := hB
  rw [ht1] at hP1
  obtain ⟨hP, hD⟩ := pm_join hP hD hk1 hFc hP1 hD1
  generalize H1 = H at hP hS ⊢
  have hP := pm_swapP hP
  have hD := pm_swapD hD
  have hP : va_P D vC ([(h0, .inr (1, [.ref q7, .int 0, .ref q13, .ref q24, .ref q35, .ref q46, .ref q57, .ref q68, .ref q79, .ref q90, .ref q101, .null, .int 0, .null, .long 0])), (q7, .inl (g 0, 64, .inl (fun _ => 0)))] ++ (ws_Whole g q112 u116 ++ (ws_Whole g q101 u105 ++ (ws_Whole g q90 u94 ++ (ws_Whole g q79 u83 ++ (ws_Whole g q68 u72 ++ (ws_Whole g q57 u61 ++ (ws_Matrix g q46 u50 ++ (ws_Calc g q35 u39 ++ (ws_Matrix g q24 u28 ++ (ws_Whole g q13 u17 ++ ([] : va_W)))))))))))) H := hP
  have hD : va_D A ([(h0, .inr (1, [.ref q7, .int 0, .ref q13, .ref q24, .ref q35, .ref q46, .ref q57, .ref q68, .ref q79, .ref q90, .ref q101, .null, .int 0, .null, .long 0])), (q7, .inl (g 0, 64, .inl (fun _ => 0)))] ++ (ws_Whole g q112 u116 ++ (ws_Whole g q101 u105 ++ (ws_Whole g q90 u94 ++ (ws_Whole g q79 u83 ++ (ws_Whole g q68 u72 ++ (ws_Whole g q57 u61 ++ (ws_Matrix g q46 u50 ++ (ws_Calc g q35 u39 ++ (ws_Matrix g q24 u28 ++ (ws_Whole g q13 u17 ++ ([] : va_W)))))))))))) := hD
  refine W.widen (k := 44) (n := 236) (by decide) (by decide) ?_
  refine va_putF (D := D) (ci := 1) (v := .ref q112) (ty := .object "MatrixScripts$Whole") (C := "MatrixScripts$Elimination") (T := T_Elim) (N := 15) hx hb hT in_Elim ty_Elim ty_Elim_ok nm_Elim hown hK hP hD hS 0 rfl rfl 11 (by decide) (hT _ tw_464) (fun _ h9 => h9) rfl hin rfl (by decide +kernel) rfl rfl (Nat.le_of_ble_eq_true rfl) d_Elim_init_119 (fun H locs hP hD hS => ?_)
  have hP : va_P D vC ([(h0, .inr (1, [.ref q7, .int 0, .ref q13, .ref q24, .ref q35, .ref q46, .ref q57, .ref q68, .ref q79, .ref q90, .ref q101, .ref q112, .int 0, .null, .long 0])), (q7, .inl (g 0, 64, .inl (fun _ => 0)))] ++ (ws_Whole g q112 u116 ++ (ws_Whole g q101 u105 ++ (ws_Whole g q90 u94 ++ (ws_Whole g q79 u83 ++ (ws_Whole g q68 u72 ++ (ws_Whole g q57 u61 ++ (ws_Matrix g q46 u50 ++ (ws_Calc g q35 u39 ++ (ws_Matrix g q24 u28 ++ (ws_Whole g q13 u17 ++ ([] : va_W)))))))))))) H := hP
  have hD : va_D A ([(h0, .inr (1, [.ref q7, .int 0, .ref q13, .ref q24, .ref q35, .ref q46, .ref q57, .ref q68, .ref q79, .ref q90, .ref q101, .ref q112, .int 0, .null, .long 0])), (q7, .inl (g 0, 64, .inl (fun _ => 0)))] ++ (ws_Whole g q112 u116 ++ (ws_Whole g q101 u105 ++ (ws_Whole g q90 u94 ++ (ws_Whole g q79 u83 ++ (ws_Whole g q68 u72 ++ (ws_Whole g q57 u61 ++ (ws_Matrix g q46 u50 ++ (ws_Calc g q35 u39 ++ (ws_Matrix g q24 u28 ++ (ws_Whole g q13 u17 ++ ([] : va_W)))))))))))) := hD
  refine lv_aload_n hx hb d_Elim_init_122 rfl (lv_at hl 0 rfl) ?_
  refine lv_bipush (v := 16) hx hb d_Elim_init_123 (by decide) ?_
  refine pm_newi (N := 16) hx hb (hT _ tw_233) hK 0 rfl hP hD hS hA (by decide) (by decide) (by decide) (Nat.le_of_ble_eq_true rfl) (Nat.le_of_ble_eq_true rfl) d_Elim_init_125 (fun q125 H hP hD hS => ?_)
  have hP : va_P D vC ([(h0, .inr (1, [.ref q7, .int 0, .ref q13, .ref q24, .ref q35, .ref q46, .ref q57, .ref q68, .ref q79, .ref q90, .ref q101, .ref q112, .int 0, .null, .long 0])), (q7, .inl (g 0, 64, .inl (fun _ => 0))), (q125, .inl (g 0, 16, .inl (fun _ => 0)))] ++ (ws_Whole g q112 u116 ++ (ws_Whole g q101 u105 ++ (ws_Whole g q90 u94 ++ (ws_Whole g q79 u83 ++ (ws_Whole g q68 u72 ++ (ws_Whole g q57 u61 ++ (ws_Matrix g q46 u50 ++ (ws_Calc g q35 u39 ++ (ws_Matrix g q24 u28 ++ (ws_Whole g q13 u17 ++ ([] : va_W)))))))))))) H := hP
  have hD : va_D A ([(h0, .inr (1, [.ref q7, .int 0, .ref q13, .ref q24, .ref q35, .ref q46, .ref q57, .ref q68, .ref q79, .ref q90, .ref q101, .ref q112, .int 0, .null, .long 0])), (q7, .inl (g 0, 64, .inl (fun _ => 0))), (q125, .inl (g 0, 16, .inl (fun _ => 0)))] ++ (ws_Whole g q112 u116 ++ (ws_Whole g q101 u105 ++ (ws_Whole g q90 u94 ++ (ws_Whole g q79 u83 ++ (ws_Whole g q68 u72 ++ (ws_Whole g q57 u61 ++ (ws_Matrix g q46 u50 ++ (ws_Calc g q35 u39 ++ (ws_Matrix g q24 u28 ++ (ws_Whole g q13 u17 ++ ([] : va_W)))))))))))) := hD
  refine W.widen (k := 45) (n := 252) (by decide) (by decide) ?_
  refine va_put (D := D) (ci := 1) (v := .ref q125) (ty := .array (.int)) (C := "MatrixScripts$Elimination") (T := T_Elim) (N := 15) hx hb hT in_Elim ty_Elim ty_Elim_ok nm_Elim hown hK hP hD hS 0 rfl rfl 13 (by decide) (hT _ tw_466) (fun _ h9 => h9) rfl (by decide +kernel) rfl rfl (Nat.le_of_ble_eq_true rfl) d_Elim_init_127 (fun H locs hP hD hS => ?_)
  have hP : va_P D vC ([(h0, .inr (1, [.ref q7, .int 0, .ref q13, .ref q24, .ref q35, .ref q46, .ref q57, .ref q68, .ref q79, .ref q90, .ref q101, .ref q112, .int 0, .ref q125, .long 0])), (q7, .inl (g 0, 64, .inl (fun _ => 0))), (q125, .inl (g 0, 16, .inl (fun _ => 0)))] ++ (ws_Whole g q112 u116 ++ (ws_Whole g q101 u105 ++ (ws_Whole g q90 u94 ++ (ws_Whole g q79 u83 ++ (ws_Whole g q68 u72 ++ (ws_Whole g q57 u61 ++ (ws_Matrix g q46 u50 ++ (ws_Calc g q35 u39 ++ (ws_Matrix g q24 u28 ++ (ws_Whole g q13 u17 ++ ([] : va_W)))))))))))) H := hP
  have hD : va_D A ([(h0, .inr (1, [.ref q7, .int 0, .ref q13, .ref q24, .ref q35, .ref q46, .ref q57, .ref q68, .ref q79, .ref q90, .ref q101, .ref q112, .int 0, .ref q125, .long 0])), (q7, .inl (g 0, 64, .inl (fun _ => 0))), (q125, .inl (g 0, 16, .inl (fun _ => 0)))] ++ (ws_Whole g q112 u116 ++ (ws_Whole g q101 u105 ++ (ws_Whole g q90 u94 ++ (ws_Whole g q79 u83 ++ (ws_Whole g q68 u72 ++ (ws_Whole g q57 u61 ++ (ws_Matrix g q46 u50 ++ (ws_Calc g q35 u39 ++ (ws_Matrix g q24 u28 ++ (ws_Whole g q13 u17 ++ ([] : va_W)))))))))))) := hD
  exact W.vret hx hb hr (fun t ht1 hW => ⟨⟨(q7, (q13, u17), (q24, u28), (q35, u39), (q46, u50), (q57, u61), (q68, u72), (q79, u83), (q90, u94), (q101, u105), (q112, u116), q125), rfl, trivial, by rw [ht1]; exact hP, hD⟩, hS.F ht1⟩) hS.2.2 d_Elim_init_130
abbrev S_Latt : Type := (Nat × S_Elim) × (Nat × S_Whole) × (Nat × S_Whole) × (Nat × S_Whole) × (Nat × S_Whole) × (Nat × S_Whole) × (Nat × S_Whole) × (Nat × S_Whole) × (Nat × S_Whole)
def ws_Latt (g : Nat → ClassId) (h0 : Nat) (u : S_Latt) : va_W := [(h0, .inr (2, [.ref u.1.1, .ref u.1.2.2.2.2.1.1, .ref u.1.2.2.2.1.1, .ref u.2.1.1, .ref u.2.2.1.1, .ref u.2.2.2.1.1, .ref u.2.2.2.2.1.1, .ref u.2.2.2.2.2.1.1, .ref u.2.2.2.2.2.2.1.1, .ref u.2.2.2.2.2.2.2.1.1, .ref u.2.2.2.2.2.2.2.2.1, .int 0])), (u.1.1, .inr (1, [.ref u.1.2.1, .int 0, .ref u.1.2.2.1.1, .ref u.1.2.2.2.1.1, .ref u.1.2.2.2.2.1.1, .ref u.1.2.2.2.2.2.1.1, .ref u.1.2.2.2.2.2.2.1.1, .ref u.1.2.2.2.2.2.2.2.1.1, .ref u.1.2.2.2.2.2.2.2.2.1.1, .ref u.1.2.2.2.2.2.2.2.2.2.1.1, .ref u.1.2.2.2.2.2.2.2.2.2.2.1.1, .ref u.1.2.2.2.2.2.2.2.2.2.2.2.1.1, .int 0, .ref u.1.2.2.2.2.2.2.2.2.2.2.2.2, .long 0])), (u.1.2.1, .inl (g 0, 64, .inl (fun _ => 0))), (u.1.2.2.2.2.2.2.2.2.2.2.2.2, .inl (g 0, 16, .inl (fun _ => 0)))] ++ (ws_Whole g u.2.2.2.2.2.2.2.2.1 u.2.2.2.2.2.2.2.2.2 ++ (ws_Whole g u.2.2.2.2.2.2.2.1.1 u.2.2.2.2.2.2.2.1.2 ++ (ws_Whole g u.2.2.2.2.2.2.1.1 u.2.2.2.2.2.2.1.2 ++ (ws_Whole g u.2.2.2.2.2.1.1 u.2.2.2.2.2.1.2 ++ (ws_Whole g u.2.2.2.2.1.1 u.2.2.2.2.1.2 ++ (ws_Whole g u.2.2.2.1.1 u.2.2.2.1.2 ++ (ws_Whole g u.2.2.1.1 u.2.2.1.2 ++ (ws_Whole g u.2.1.1 u.2.1.2 ++ ((ws_Whole g u.1.2.2.2.2.2.2.2.2.2.2.2.1.1 u.1.2.2.2.2.2.2.2.2.2.2.2.1.2 ++ (ws_Whole g u.1.2.2.2.2.2.2.2.2.2.2.1.1 u.1.2.2.2.2.2.2.2.2.2.2.1.2 ++ (ws_Whole g u.1.2.2.2.2.2.2.2.2.2.1.1 u.1.2.2.2.2.2.2.2.2.2.1.2 ++ (ws_Whole g u.1.2.2.2.2.2.2.2.2.1.1 u.1.2.2.2.2.2.2.2.2.1.2 ++ (ws_Whole g u.1.2.2.2.2.2.2.2.1.1 u.1.2.2.2.2.2.2.2.1.2 ++ (ws_Whole g u.1.2.2.2.2.2.2.1.1 u.1.2.2.2.2.2.2.1.2 ++ (ws_Matrix g u.1.2.2.2.2.2.1.1 u.1.2.2.2.2.2.1.2 ++ (ws_Calc g u.1.2.2.2.2.1.1 u.1.2.2.2.2.1.2 ++ (ws_Matrix g u.1.2.2.2.1.1 u.1.2.2.2.1.2 ++ (ws_Whole g u.1.2.2.1.1 u.1.2.2.1.2 ++ ([] : va_W))))))))))) ++ ([] : va_W))))))))))
def w_Latt_init : List Cond := .code ⟨"MatrixScripts$Lattices", "<init>", "()V"⟩ prog_6_method_1_code 1 none :: wd_all
theorem gd_Latt_init : GoodIn wd_all w_Latt_init := gd_of tw_335
set_option maxHeartbeats 4000000 in
set_option maxRecDepth 100000 in
theorem c_Latt_init (l : Launch) (D : va_G) (g : Nat → ClassId) (h0 : Nat) (sz : Nat) : Met l ⟨"MatrixScripts$Lattices", "<init>", "()V"⟩ w_Latt_init { frames := 4, cells := 62, slots := 315, locals := 72 } (cp D g [.ref h0] [(h0, .inr (2, [.null, .null, .null, .null, .null, .null, .null, .null, .null, .null, .null, .int 0]))] sz) (cv D (va_A [(h0, .inr (2, [.null, .null, .null, .null, .null, .null, .null, .null, .null, .null, .null, .int 0]))] sz) (fun u : S_Latt => ws_Latt g h0 u)) 62 315 (va_A [(h0, .inr (2, [.null, .null, .null, .null, .null, .null, .null, .null, .null, .null, .null, .int 0]))] sz) := by
  refine Met.ofW (cc := prog_6_method_1_code) (maxL := 1) (ret := none) (by decide) rfl ?_
  intro p e s m args below meth c s₁ B0 hml hv
  obtain ⟨rfl, hsz, hP, hK, hD0, hN⟩ := hv
  have hx := B0.exec
  have hb := B0.bytes
  have hr := B0.returns
  have hts := atoms_spec (ws := w_Latt_init) B0.pre
  have hT := fun (w : Cond) (h : w ∈ wd_all) => hts w (List.mem_cons_of_mem _ h)
  have hown : s.vm.findClass "MatrixScripts$Lattices" = some m.cls := findClass_of_methodNamed B0.named
  have hlocks := B0.notSynchronized
  have hin : meth.name = "<init>" := (name_of_methodNamed B0.named B0.method).1
  subst hsz
  have hD := hD0.self (sz := s.heap.size)
  generalize hAe : va_A [(h0, .inr (2, [.null, .null, .null, .null, .null, .null, .null, .null, .null, .null, .null, .int 0]))] s.heap.size = A at hD ⊢
  have hA : ∀ q : Nat, s.heap.size ≤ q → A q := fun q h => by rw [← hAe]; exact Or.inr h
  have hS : va_S A s.heap s.heap [] := va_S.rf
  have hP : va_P D vC ([(h0, .inr (2, [.null, .null, .null, .null, .null, .null, .null, .null, .null, .null, .null, .int 0]))] ++ ([] : va_W)) s.heap := hP
  have hD : va_D A ([(h0, .inr (2, [.null, .null, .null, .null, .null, .null, .null, .null, .null, .null, .null, .int 0]))] ++ ([] : va_W)) := hD
  have hl := lv_entry ([.ref h0]) (n := 1) (Nat.le_of_ble_eq_true rfl)
  rw [lg_entry_eq]
  generalize (lg_sl ([.ref h0]) ++ List.replicate (1 - (lg_sl ([.ref h0])).length) Slot.unset).toArray = ls at hl ⊢
  have hl : lv_has ls 1 [(0, .ref h0)] := hl
  refine lv_aload_n hx hb d_Latt_init_0 rfl (lv_at hl 0 rfl) ?_
  refine W.objInit hx hb hown (hT _ tw_336) (hT _ tw_199) (hT _ tw_200) rfl (by rw [hml]; exact hl.1) rfl d_Latt_init_1 (Nat.le_of_ble_eq_true rfl) (Nat.le_of_ble_eq_true rfl) ?_
  refine W.eq (g2 := F0 m 4 ls []) rfl ?_
  refine lv_aload_n hx hb d_Latt_init_4 rfl (lv_at hl 0 rfl) ?_
  refine pm_new (D := D) (ci := 1) (fs := [.null, .int 0, .null, .null, .null, .null, .null, .null, .null, .null, .null, .null, .int 0, .null, .long 0]) (C := "MatrixScripts$Elimination") (T := T_Elim) (N := 15) hx hb hT in_Elim ty_Elim ty_Elim_ok hown (hT _ tw_337) (hT _ tw_338) (hT _ tw_162) hK hP hD hS hA rfl (by decide) (Nat.le_of_ble_eq_true rfl) (Nat.le_of_ble_eq_true rfl) d_Latt_init_5 (fun q5 H hP hD hS => ?_)
  have hP : va_P D vC ([(h0, .inr (2, [.null, .null, .null, .null, .null, .null, .null, .null, .null, .null, .null, .int 0])), (q5, .inr (1, [.null, .int 0, .null, .null, .null, .null, .null, .null, .null, .null, .null, .null, .int 0, .null, .long 0]))] ++ ([] : va_W)) H := hP
  have hD : va_D A ([(h0, .inr (2, [.null, .null, .null, .null, .null, .null, .null, .null, .null, .null, .null, .int 0])), (q5, .inr (1, [.null, .int 0, .null, .null, .null, .null, .null, .null, .null, .null, .null, .null, .int 0, .null, .long 0]))] ++ ([] : va_W)) := hD
  refine W.widen (k := 1) (n := 15) (by decide) (by decide) ?_
  refine lv_dup hx hb d_Latt_init_8 rfl ?_
  have hP := pm_subP (a' := [(q5, .inr (1, [.null, .int 0, .null, .null, .null, .null, .null, .null, .null, .null, .null, .null, .int 0, .null, .long 0])), (h0, .inr (2, [.null, .null, .null, .null, .null, .null, .null, .null, .null, .null, .null, .int 0]))]) hP [1, 0] rfl
  have hD := pm_subD (a' := [(q5, .inr (1, [.null, .int 0, .null, .null, .null, .null, .null, .null, .null, .null, .null, .null, .int 0, .null, .long 0])), (h0, .inr (2, [.null, .null, .null, .null, .null, .null, .null, .null, .null, .null, .null, .int 0]))]) hD [1, 0] (by decide) rfl
  have hP : va_P D vC ([(q5, .inr (1, [.null, .int 0, .null, .null, .null, .null, .null, .null, .null, .null, .null, .null, .int 0, .null, .long 0]))] ++ ([(h0, .inr (2, [.null, .null, .null, .null, .null, .null, .null, .null, .null, .null, .null, .int 0]))] ++ ([] : va_W))) H := hP
  have hD : va_D A ([(q5, .inr (1, [.null, .int 0, .null, .null, .null, .null, .null, .null, .null, .null, .null, .null, .int 0, .null, .long 0]))] ++ ([(h0, .inr (2, [.null, .null, .null, .null, .null, .null, .null, .null, .null, .null, .null, .int 0]))] ++ ([] : va_W))) := hD
  have hFc := pm_free hD hS hA
  refine va_callv (va_runIN (As := []) (rest := [.ref q5, .ref h0]) ⟨hx, hb, hml, hown, hT⟩ (c_Elim_init l D g q5 H.size) (⟨va_cnB 0 hT gd_Elim_init rfl rfl rfl (hN.1 _ nw_339) (hT _ tw_162) (by decide +kernel) ⟨Nat.le_of_ble_eq_true rfl, Nat.le_of_ble_eq_true rfl⟩, rfl, hT _ tw_340⟩) (cp_S hP hK hD hN) rfl rfl hl.1 rfl (lv_room (Nat.le_of_ble_eq_true rfl)) d_Latt_init_9 ⟨Nat.le_of_ble_eq_true rfl, Nat.le_of_ble_eq_true rfl⟩) hS (fun q _ h => hFc q h) hFc (fun u9 t H1 locs ht1 hvm hw hB hz1 hk1 hS => ?_)
  obtain ⟨hP1, hD1⟩ := hB
  rw [ht1] at hP1
  obtain ⟨hP, hD⟩ := pm_join hP hD hk1 hFc hP1 hD1
  generalize H1 = H at hP hS ⊢
  have hP := pm_swapP hP
  have hD := pm_swapD hD
  have hP : va_P D vC ([(h0, .inr (2, [.null, .null, .null, .null, .null, .null, .null, .null, .null, .null, .null, .int 0]))] ++ (([(q5, .inr (1, [.ref u9.1, .int 0, .ref u9.2.1.1, .ref u9.2.2.1.1, .ref u9.2.2.2.1.1, .ref u9.2.2.2.2.1.1, .ref u9.2.2.2.2.2.1.1, .ref u9.2.2.2.2.2.2.1.1, .ref u9.2.2.2.2.2.2.2.1.1, .ref u9.2.2.2.2.2.2.2.2.1.1, .ref u9.2.2.2.2.2.2.2.2.2.1.1, .ref u9.2.2.2.2.2.2.2.2.2.2.1.1, .int 0, .ref u9.2.2.2.2.2.2.2.2.2.2.2, .long 0])), (u9.1, .inl (g 0, 64, .inl (fun _ => 0))), (u9.2.2.2.2.2.2.2.2.2.2.2, .inl (g 0, 16, .inl (fun _ => 0)))] ++ (ws_Whole g u9.2.2.2.2.2.2.2.2.2.2.1.1 u9.2.2.2.2.2.2.2.2.2.2.1.2 ++ (ws_Whole g u9.2.2.2.2.2.2.2.2.2.1.1 u9.2.2.2.2.2.2.2.2.2.1.2 ++ (ws_Whole g u9.2.2.2.2.2.2.2.2.1.1 u9.2.2.2.2.2.2.2.2.1.2 ++ (ws_Whole g u9.2.2.2.2.2.2.2.1.1 u9.2.2.2.2.2.2.2.1.2 ++ (ws_Whole g u9.2.2.2.2.2.2.1.1 u9.2.2.2.2.2.2.1.2 ++ (ws_Whole g u9.2.2.2.2.2.1.1 u9.2.2.2.2.2.1.2 ++ (ws_Matrix g u9.2.2.2.2.1.1 u9.2.2.2.2.1.2 ++ (ws_Calc g u9.2.2.2.1.1 u9.2.2.2.1.2 ++ (ws_Matrix g u9.2.2.1.1 u9.2.2.1.2 ++ (ws_Whole g u9.2.1.1 u9.2.1.2 ++ ([] : va_W)))))))))))) ++ ([] : va_W))) H := hP
  have hD : va_D A ([(h0, .inr (2, [.null, .null, .null, .null, .null, .null, .null, .null, .null, .null, .null, .int 0]))] ++ (([(q5, .inr (1, [.ref u9.1, .int 0, .ref u9.2.1.1, .ref u9.2.2.1.1, .ref u9.2.2.2.1.1, .ref u9.2.2.2.2.1.1, .ref u9.2.2.2.2.2.1.1, .ref u9.2.2.2.2.2.2.1.1, .ref u9.2.2.2.2.2.2.2.1.1, .ref u9.2.2.2.2.2.2.2.2.1.1, .ref u9.2.2.2.2.2.2.2.2.2.1.1, .ref u9.2.2.2.2.2.2.2.2.2.2.1.1, .int 0, .ref u9.2.2.2.2.2.2.2.2.2.2.2, .long 0])), (u9.1, .inl (g 0, 64, .inl (fun _ => 0))), (u9.2.2.2.2.2.2.2.2.2.2.2, .inl (g 0, 16, .inl (fun _ => 0)))] ++ (ws_Whole g u9.2.2.2.2.2.2.2.2.2.2.1.1 u9.2.2.2.2.2.2.2.2.2.2.1.2 ++ (ws_Whole g u9.2.2.2.2.2.2.2.2.2.1.1 u9.2.2.2.2.2.2.2.2.2.1.2 ++ (ws_Whole g u9.2.2.2.2.2.2.2.2.1.1 u9.2.2.2.2.2.2.2.2.1.2 ++ (ws_Whole g u9.2.2.2.2.2.2.2.1.1 u9.2.2.2.2.2.2.2.1.2 ++ (ws_Whole g u9.2.2.2.2.2.2.1.1 u9.2.2.2.2.2.2.1.2 ++ (ws_Whole g u9.2.2.2.2.2.1.1 u9.2.2.2.2.2.1.2 ++ (ws_Matrix g u9.2.2.2.2.1.1 u9.2.2.2.2.1.2 ++ (ws_Calc g u9.2.2.2.1.1 u9.2.2.2.1.2 ++ (ws_Matrix g u9.2.2.1.1 u9.2.2.1.2 ++ (ws_Whole g u9.2.1.1 u9.2.1.2 ++ ([] : va_W)))))))))))) ++ ([] : va_W))) := hD
  have hP := pm_expP hP
  have hD := pm_expD hD
  have hP : va_P D vC ([(h0, .inr (2, [.null, .null, .null, .null, .null, .null, .null, .null, .null, .null, .null, .int 0])), (q5, .inr (1, [.ref u9.1, .int 0, .ref u9.2.1.1, .ref u9.2.2.1.1, .ref u9.2.2.2.1.1, .ref u9.2.2.2.2.1.1, .ref u9.2.2.2.2.2.1.1, .ref u9.2.2.2.2.2.2.1.1, .ref u9.2.2.2.2.2.2.2.1.1, .ref u9.2.2.2.2.2.2.2.2.1.1, .ref u9.2.2.2.2.2.2.2.2.2.1.1, .ref u9.2.2.2.2.2.2.2.2.2.2.1.1, .int 0, .ref u9.2.2.2.2.2.2.2.2.2.2.2, .long 0])), (u9.1, .inl (g 0, 64, .inl (fun _ => 0))), (u9.2.2.2.2.2.2.2.2.2.2.2, .inl (g 0, 16, .inl (fun _ => 0)))] ++ ((ws_Whole g u9.2.2.2.2.2.2.2.2.2.2.1.1 u9.2.2.2.2.2.2.2.2.2.2.1.2 ++ (ws_Whole g u9.2.2.2.2.2.2.2.2.2.1.1 u9.2.2.2.2.2.2.2.2.2.1.2 ++ (ws_Whole g u9.2.2.2.2.2.2.2.2.1.1 u9.2.2.2.2.2.2.2.2.1.2 ++ (ws_Whole g u9.2.2.2.2.2.2.2.1.1 u9.2.2.2.2.2.2.2.1.2 ++ (ws_Whole g u9.2.2.2.2.2.2.1.1 u9.2.2.2.2.2.2.1.2 ++ (ws_Whole g u9.2.2.2.2.2.1.1 u9.2.2.2.2.2.1.2 ++ (ws_Matrix g u9.2.2.2.2.1.1 u9.2.2.2.2.1.2 ++ (ws_Calc g u9.2.2.2.1.1 u9.2.2.2.1.2 ++ (ws_Matrix g u9.2.2.1.1 u9.2.2.1.2 ++ (ws_Whole g u9.2.1.1 u9.2.1.2 ++ ([] : va_W))))))))))) ++ ([] : va_W))) H := hP
  have hD : va_D A ([(h0, .inr (2, [.null, .null, .null, .null, .null, .null, .null, .null, .null, .null, .null, .int 0])), (q5, .inr (1, [.ref u9.1, .int 0, .ref u9.2.1.1, .ref u9.2.2.1.1, .ref u9.2.2.2.1.1, .ref u9.2.2.2.2.1.1, .ref u9.2.2.2.2.2.1.1, .ref u9.2.2.2.2.2.2.1.1, .ref u9.2.2.2.2.2.2.2.1.1, .ref u9.2.2.2.2.2.2.2.2.1.1, .ref u9.2.2.2.2.2.2.2.2.2.1.1, .ref u9.2.2.2.2.2.2.2.2.2.2.1.1, .int 0, .ref u9.2.2.2.2.2.2.2.2.2.2.2, .long 0])), (u9.1, .inl (g 0, 64, .inl (fun _ => 0))), (u9.2.2.2.2.2.2.2.2.2.2.2, .inl (g 0, 16, .inl (fun _ => 0)))] ++ ((ws_Whole g u9.2.2.2.2.2.2.2.2.2.2.1.1 u9.2.2.2.2.2.2.2.2.2.2.1.2 ++ (ws_Whole g u9.2.2.2.2.2.2.2.2.2.1.1 u9.2.2.2.2.2.2.2.2.2.1.2 ++ (ws_Whole g u9.2.2.2.2.2.2.2.2.1.1 u9.2.2.2.2.2.2.2.2.1.2 ++ (ws_Whole g u9.2.2.2.2.2.2.2.1.1 u9.2.2.2.2.2.2.2.1.2 ++ (ws_Whole g u9.2.2.2.2.2.2.1.1 u9.2.2.2.2.2.2.1.2 ++ (ws_Whole g u9.2.2.2.2.2.1.1 u9.2.2.2.2.2.1.2 ++ (ws_Matrix g u9.2.2.2.2.1.1 u9.2.2.2.2.1.2 ++ (ws_Calc g u9.2.2.2.1.1 u9.2.2.2.1.2 ++ (ws_Matrix g u9.2.2.1.1 u9.2.2.1.2 ++ (ws_Whole g u9.2.1.1 u9.2.1.2 ++ ([] : va_W))))))))))) ++ ([] : va_W))) := hD
  refine W.widen (k := 46) (n := 267) (by decide) (by decide) ?_
  refine va_putF (D := D) (ci := 2) (v := .ref q5) (ty := .object "MatrixScripts$Elimination") (C := "MatrixScripts$Lattices") (T := T_Latt) (N := 12) hx hb hT in_Latt ty_Latt ty_Latt_ok nm_Latt hown hK hP hD hS 0 rfl rfl 0 (by decide) (hT _ tw_501) (fun _ h9 => h9) rfl hin rfl (by decide +kernel) rfl rfl (Nat.le_of_ble_eq_true rfl) d_Latt_init_12 (fun H locs hP hD hS => ?_)
  have hP : va_P D vC ([(h0, .inr (2, [.ref q5, .null, .null, .null, .null, .null, .null, .null, .null, .null, .null, .int 0])), (q5, .inr (1, [.ref u9.1, .int 0, .ref u9.2.1.1, .ref u9.2.2.1.1, .ref u9.2.2.2.1.1, .ref u9.2.2.2.2.1.1, .ref u9.2.2.2.2.2.1.1, .ref u9.2.2.2.2.2.2.1.1, .ref u9.2.2.2.2.2.2.2.1.1, .ref u9.2.2.2.2.2.2.2.2.1.1, .ref u9.2.2.2.2.2.2.2.2.2.1.1, .ref u9.2.2.2.2.2.2.2.2.2.2.1.1, .int 0, .ref u9.2.2.2.2.2.2.2.2.2.2.2, .long 0])), (u9.1, .inl (g 0, 64, .inl (fun _ => 0))), (u9.2.2.2.2.2.2.2.2.2.2.2, .inl (g 0, 16, .inl (fun _ => 0)))] ++ ((ws_Whole g u9.2.2.2.2.2.2.2.2.2.2.1.1 u9.2.2.2.2.2.2.2.2.2.2.1.2 ++ (ws_Whole g u9.2.2.2.2.2.2.2.2.2.1.1 u9.2.2.2.2.2.2.2.2.2.1.2 ++ (ws_Whole g u9.2.2.2.2.2.2.2.2.1.1 u9.2.2.2.2.2.2.2.2.1.2 ++ (ws_Whole g u9.2.2.2.2.2.2.2.1.1 u9.2.2.2.2.2.2.2.1.2 ++ (ws_Whole g u9.2.2.2.2.2.2.1.1 u9.2.2.2.2.2.2.1.2 ++ (ws_Whole g u9.2.2.2.2.2.1.1 u9.2.2.2.2.2.1.2 ++ (ws_Matrix g u9.2.2.2.2.1.1 u9.2.2.2.2.1.2 ++ (ws_Calc g u9.2.2.2.1.1 u9.2.2.2.1.2 ++ (ws_Matrix g u9.2.2.1.1 u9.2.2.1.2 ++ (ws_Whole g u9.2.1.1 u9.2.1.2 ++ ([] : va_W))))))))))) ++ ([] : va_W))) H := hP
  have hD : va_D A ([(h0, .inr (2, [.ref q5, .null, .null, .null, .null, .null, .null, .null, .null, .null, .null, .int 0])), (q5, .inr (1, [.ref u9.1, .int 0, .ref u9.2.1.1, .ref u9.2.2.1.1, .ref u9.2.2.2.1.1, .ref u9.2.2.2.2.1.1, .ref u9.2.2.2.2.2.1.1, .ref u9.2.2.2.2.2.2.1.1, .ref u9.2.2.2.2.2.2.2.1.1, .ref u9.2.2.2.2.2.2.2.2.1.1, .ref u9.2.2.2.2.2.2.2.2.2.1.1, .ref u9.2.2.2.2.2.2.2.2.2.2.1.1, .int 0, .ref u9.2.2.2.2.2.2.2.2.2.2.2, .long 0])), (u9.1, .inl (g 0, 64, .inl (fun _ => 0))), (u9.2.2.2.2.2.2.2.2.2.2.2, .inl (g 0, 16, .inl (fun _ => 0)))] ++ ((ws_Whole g u9.2.2.2.2.2.2.2.2.2.2.1.1 u9.2.2.2.2.2.2.2.2.2.2.1.2 ++ (ws_Whole g u9.2.2.2.2.2.2.2.2.2.1.1 u9.2.2.2.2.2.2.2.2.2.1.2 ++ (ws_Whole g u9.2.2.2.2.2.2.2.2.1.1 u9.2.2.2.2.2.2.2.2.1.2 ++ (ws_Whole g u9.2.2.2.2.2.2.2.1.1 u9.2.2.2.2.2.2.2.1.2 ++ (ws_Whole g u9.2.2.2.2.2.2.1.1 u9.2.2.2.2.2.2.1.2 ++ (ws_Whole g u9.2.2.2.2.2.1.1 u9.2.2.2.2.2.1.2 ++ (ws_Matrix g u9.2.2.2.2.1.1 u9.2.2.2.2.1.2 ++ (ws_Calc g u9.2.2.2.1.1 u9.2.2.2.1.2 ++ (ws_Matrix g u9.2.2.1.1 u9.2.2.1.2 ++ (ws_Whole g u9.2.1.1 u9.2.1.2 ++ ([] : va_W))))))))))) ++ ([] : va_W))) := hD
  refine lv_aload_n hx hb d_Latt_init_15 rfl (lv_at hl 0 rfl) ?_
  refine lv_aload_n hx hb d_Latt_init_16 rfl (lv_at hl 0 rfl) ?_
  refine va_get (D := D) (ci := 2) (v := .ref q5) (C := "MatrixScripts$Lattices") (T := T_Latt) (N := 12) hx hb hT in_Latt hown hK hP 0 rfl rfl 0 (by decide) (hT _ tw_501) (fun _ h9 => h9) rfl d_Latt_init_17 ?_
  refine va_get (D := D) (ci := 1) (v := .ref u9.2.2.2.1.1) (C := "MatrixScripts$Elimination") (T := T_Elim) (N := 15) hx hb hT in_Elim hown hK hP 1 rfl rfl 4 (by decide) (hT _ tw_455) (fun _ h9 => h9) rfl d_Latt_init_20 ?_
  refine va_putF (D := D) (ci := 2) (v := .ref u9.2.2.2.1.1) (ty := .object "MatrixScripts$Calc") (C := "MatrixScripts$Lattices") (T := T_Latt) (N := 12) hx hb hT in_Latt ty_Latt ty_Latt_ok nm_Latt hown hK hP hD hS 0 rfl rfl 1 (by decide) (hT _ tw_503) (fun _ h9 => h9) rfl hin rfl (by decide +kernel) rfl rfl (Nat.le_of_ble_eq_true rfl) d_Latt_init_23 (fun H locs hP hD hS => ?_)
  have hP : va_P D vC ([(h0, .inr (2, [.ref q5, .ref u9.2.2.2.1.1, .null, .null, .null, .null, .null, .null, .null, .null, .null, .int 0])), (q5, .inr (1, [.ref u9.1, .int 0, .ref u9.2.1.1, .ref u9.2.2.1.1, .ref u9.2.2.2.1.1, .ref u9.2.2.2.2.1.1, .ref u9.2.2.2.2.2.1.1, .ref u9.2.2.2.2.2.2.1.1, .ref u9.2.2.2.2.2.2.2.1.1, .ref u9.2.2.2.2.2.2.2.2.1.1, .ref u9.2.2.2.2.2.2.2.2.2.1.1, .ref u9.2.2.2.2.2.2.2.2.2.2.1.1, .int 0, .ref u9.2.2.2.2.2.2.2.2.2.2.2, .long 0])), (u9.1, .inl (g 0, 64, .inl (fun _ => 0))), (u9.2.2.2.2.2.2.2.2.2.2.2, .inl (g 0, 16, .inl (fun _ => 0)))] ++ ((ws_Whole g u9.2.2.2.2.2.2.2.2.2.2.1.1 u9.2.2.2.2.2.2.2.2.2.2.1.2 ++ (ws_Whole g u9.2.2.2.2.2.2.2.2.2.1.1 u9.2.2.2.2.2.2.2.2.2.1.2 ++ (ws_Whole g u9.2.2.2.2.2.2.2.2.1.1 u9.2.2.2.2.2.2.2.2.1.2 ++ (ws_Whole g u9.2.2.2.2.2.2.2.1.1 u9.2.2.2.2.2.2.2.1.2 ++ (ws_Whole g u9.2.2.2.2.2.2.1.1 u9.2.2.2.2.2.2.1.2 ++ (ws_Whole g u9.2.2.2.2.2.1.1 u9.2.2.2.2.2.1.2 ++ (ws_Matrix g u9.2.2.2.2.1.1 u9.2.2.2.2.1.2 ++ (ws_Calc g u9.2.2.2.1.1 u9.2.2.2.1.2 ++ (ws_Matrix g u9.2.2.1.1 u9.2.2.1.2 ++ (ws_Whole g u9.2.1.1 u9.2.1.2 ++ ([] : va_W))))))))))) ++ ([] : va_W))) H := hP
  have hD : va_D A ([(h0, .inr (2, [.ref q5, .ref u9.2.2.2.1.1, .null, .null, .null, .null, .null, .null, .null, .null, .null, .int 0])), (q5, .inr (1, [.ref u9.1, .int 0, .ref u9.2.1.1, .ref u9.2.2.1.1, .ref u9.2.2.2.1.1, .ref u9.2.2.2.2.1.1, .ref u9.2.2.2.2.2.1.1, .ref u9.2.2.2.2.2.2.1.1, .ref u9.2.2.2.2.2.2.2.1.1, .ref u9.2.2.2.2.2.2.2.2.1.1, .ref u9.2.2.2.2.2.2.2.2.2.1.1, .ref u9.2.2.2.2.2.2.2.2.2.2.1.1, .int 0, .ref u9.2.2.2.2.2.2.2.2.2.2.2, .long 0])), (u9.1, .inl (g 0, 64, .inl (fun _ => 0))), (u9.2.2.2.2.2.2.2.2.2.2.2, .inl (g 0, 16, .inl (fun _ => 0)))] ++ ((ws_Whole g u9.2.2.2.2.2.2.2.2.2.2.1.1 u9.2.2.2.2.2.2.2.2.2.2.1.2 ++ (ws_Whole g u9.2.2.2.2.2.2.2.2.2.1.1 u9.2.2.2.2.2.2.2.2.2.1.2 ++ (ws_Whole g u9.2.2.2.2.2.2.2.2.1.1 u9.2.2.2.2.2.2.2.2.1.2 ++ (ws_Whole g u9.2.2.2.2.2.2.2.1.1 u9.2.2.2.2.2.2.2.1.2 ++ (ws_Whole g u9.2.2.2.2.2.2.1.1 u9.2.2.2.2.2.2.1.2 ++ (ws_Whole g u9.2.2.2.2.2.1.1 u9.2.2.2.2.2.1.2 ++ (ws_Matrix g u9.2.2.2.2.1.1 u9.2.2.2.2.1.2 ++ (ws_Calc g u9.2.2.2.1.1 u9.2.2.2.1.2 ++ (ws_Matrix g u9.2.2.1.1 u9.2.2.1.2 ++ (ws_Whole g u9.2.1.1 u9.2.1.2 ++ ([] : va_W))))))))))) ++ ([] : va_W))) := hD
  refine lv_aload_n hx hb d_Latt_init_26 rfl (lv_at hl 0 rfl) ?_
  refine lv_aload_n hx hb d_Latt_init_27 rfl (lv_at hl 0 rfl) ?_
  refine va_get (D := D) (ci := 2) (v := .ref q5) (C := "MatrixScripts$Lattices") (T := T_Latt) (N := 12) hx hb hT in_Latt hown hK hP 0 rfl rfl 0 (by decide) (hT _ tw_501) (fun _ h9 => h9) rfl d_Latt_init_28 ?_
  refine va_get (D := D) (ci := 1) (v := .ref u9.2.2.1.1) (C := "MatrixScripts$Elimination") (T := T_Elim) (N := 15) hx hb hT in_Elim hown hK hP 1 rfl rfl 3 (by decide) (hT _ tw_454) (fun _ h9 => h9) rfl d_Latt_init_31 ?_
  refine va_putF (D := D) (ci := 2) (v := .ref u9.2.2.1.1) (ty := .object "MatrixScripts$Matrix") (C := "MatrixScripts$Lattices") (T := T_Latt) (N := 12) hx hb hT in_Latt ty_Latt ty_Latt_ok nm_Latt hown hK hP hD hS 0 rfl rfl 2 (by decide) (hT _ tw_504) (fun _ h9 => h9) rfl hin rfl (by decide +kernel) rfl rfl (Nat.le_of_ble_eq_true rfl) d_Latt_init_34 (fun H locs hP hD hS => ?_)
  have hP : va_P D vC ([(h0, .inr (2, [.ref q5, .ref u9.2.2.2.1.1, .ref u9.2.2.1.1, .null, .null, .null, .null, .null, .null, .null, .null, .int 0])), (q5, .inr (1, [.ref u9.1, .int 0, .ref u9.2.1.1, .ref u9.2.2.1.1, .ref u9.2.2.2.1.1, .ref u9.2.2.2.2.1.1, .ref u9.2.2.2.2.2.1.1, .ref u9.2.2.2.2.2.2.1.1, .ref u9.2.2.2.2.2.2.2.1.1, .ref u9.2.2.2.2.2.2.2.2.1.1, .ref u9.2.2.2.2.2.2.2.2.2.1.1, .ref u9.2.2.2.2.2.2.2.2.2.2.1.1, .int 0, .ref u9.2.2.2.2.2.2.2.2.2.2.2, .long 0])), (u9.1, .inl (g 0, 64, .inl (fun _ => 0))), (u9.2.2.2.2.2.2.2.2.2.2.2, .inl (g 0, 16, .inl (fun _ => 0)))] ++ ((ws_Whole g u9.2.2.2.2.2.2.2.2.2.2.1.1 u9.2.2.2.2.2.2.2.2.2.2.1.2 ++ (ws_Whole g u9.2.2.2.2.2.2.2.2.2.1.1 u9.2.2.2.2.2.2.2.2.2.1.2 ++ (ws_Whole g u9.2.2.2.2.2.2.2.2.1.1 u9.2.2.2.2.2.2.2.2.1.2 ++ (ws_Whole g u9.2.2.2.2.2.2.2.1.1 u9.2.2.2.2.2.2.2.1.2 ++ (ws_Whole g u9.2.2.2.2.2.2.1.1 u9.2.2.2.2.2.2.1.2 ++ (ws_Whole g u9.2.2.2.2.2.1.1 u9.2.2.2.2.2.1.2 ++ (ws_Matrix g u9.2.2.2.2.1.1 u9.2.2.2.2.1.2 ++ (ws_Calc g u9.2.2.2.1.1 u9.2.2.2.1.2 ++ (ws_Matrix g u9.2.2.1.1 u9.2.2.1.2 ++ (ws_Whole g u9.2.1.1 u9.2.1.2 ++ ([] : va_W))))))))))) ++ ([] : va_W))) H := hP
  have hD : va_D A ([(h0, .inr (2, [.ref q5, .ref u9.2.2.2.1.1, .ref u9.2.2.1.1, .null, .null, .null, .null, .null, .null, .null, .null, .int 0])), (q5, .inr (1, [.ref u9.1, .int 0, .ref u9.2.1.1, .ref u9.2.2.1.1, .ref u9.2.2.2.1.1, .ref u9.2.2.2.2.1.1, .ref u9.2.2.2.2.2.1.1, .ref u9.2.2.2.2.2.2.1.1, .ref u9.2.2.2.2.2.2.2.1.1, .ref u9.2.2.2.2.2.2.2.2.1.1, .ref u9.2.2.2.2.2.2.2.2.2.1.1, .ref u9.2.2.2.2.2.2.2.2.2.2.1.1, .int 0, .ref u9.2.2.2.2.2.2.2.2.2.2.2, .long 0])), (u9.1, .inl (g 0, 64, .inl (fun _ => 0))), (u9.2.2.2.2.2.2.2.2.2.2.2, .inl (g 0, 16, .inl (fun _ => 0)))] ++ ((ws_Whole g u9.2.2.2.2.2.2.2.2.2.2.1.1 u9.2.2.2.2.2.2.2.2.2.2.1.2 ++ (ws_Whole g u9.2.2.2.2.2.2.2.2.2.1.1 u9.2.2.2.2.2.2.2.2.2.1.2 ++ (ws_Whole g u9.2.2.2.2.2.2.2.2.1.1 u9.2.2.2.2.2.2.2.2.1.2 ++ (ws_Whole g u9.2.2.2.2.2.2.2.1.1 u9.2.2.2.2.2.2.2.1.2 ++ (ws_Whole g u9.2.2.2.2.2.2.1.1 u9.2.2.2.2.2.2.1.2 ++ (ws_Whole g u9.2.2.2.2.2.1.1 u9.2.2.2.2.2.1.2 ++ (ws_Matrix g u9.2.2.2.2.1.1 u9.2.2.2.2.1.2 ++ (ws_Calc g u9.2.2.2.1.1 u9.2.2.2.1.2 ++ (ws_Matrix g u9.2.2.1.1 u9.2.2.1.2 ++ (ws_Whole g u9.2.1.1 u9.2.1.2 ++ ([] : va_W))))))))))) ++ ([] : va_W))) := hD
  refine lv_aload_n hx hb d_Latt_init_37 rfl (lv_at hl 0 rfl) ?_
  refine pm_new (D := D) (ci := 11) (fs := [.null, .int 0, .int 0]) (C := "MatrixScripts$Whole") (T := T_Whole) (N := 3) hx hb hT in_Whole ty_Whole ty_Whole_ok hown (hT _ tw_499) (hT _ tw_241) (hT _ tw_158) hK hP hD hS hA rfl (by decide) (Nat.le_of_ble_eq_true rfl) (Nat.le_of_ble_eq_true rfl) d_Latt_init_38 (fun q38 H hP hD hS => ?_)
  have hP : va_P D vC ([(h0, .inr (2, [.ref q5, .ref u9.2.2.2.1.1, .ref u9.2.2.1.1, .null, .null, .null, .null, .null, .null, .null, .null, .int 0])), (q5, .inr (1, [.ref u9.1, .int 0, .ref u9.2.1.1, .ref u9.2.2.1.1, .ref u9.2.2.2.1.1, .ref u9.2.2.2.2.1.1, .ref u9.2.2.2.2.2.1.1, .ref u9.2.2.2.2.2.2.1.1, .ref u9.2.2.2.2.2.2.2.1.1, .ref u9.2.2.2.2.2.2.2.2.1.1, .ref u9.2.2.2.2.2.2.2.2.2.1.1, .ref u9.2.2.2.2.2.2.2.2.2.2.1.1, .int 0, .ref u9.2.2.2.2.2.2.2.2.2.2.2, .long 0])), (u9.1, .inl (g 0, 64, .inl (fun _ => 0))), (u9.2.2.2.2.2.2.2.2.2.2.2, .inl (g 0, 16, .inl (fun _ => 0))), (q38, .inr (11, [.null, .int 0, .int 0]))] ++ ((ws_Whole g u9.2.2.2.2.2.2.2.2.2.2.1.1 u9.2.2.2.2.2.2.2.2.2.2.1.2 ++ (ws_Whole g u9.2.2.2.2.2.2.2.2.2.1.1 u9.2.2.2.2.2.2.2.2.2.1.2 ++ (ws_Whole g u9.2.2.2.2.2.2.2.2.1.1 u9.2.2.2.2.2.2.2.2.1.2 ++ (ws_Whole g u9.2.2.2.2.2.2.2.1.1 u9.2.2.2.2.2.2.2.1.2 ++ (ws_Whole g u9.2.2.2.2.2.2.1.1 u9.2.2.2.2.2.2.1.2 ++ (ws_Whole g u9.2.2.2.2.2.1.1 u9.2.2.2.2.2.1.2 ++ (ws_Matrix g u9.2.2.2.2.1.1 u9.2.2.2.2.1.2 ++ (ws_Calc g u9.2.2.2.1.1 u9.2.2.2.1.2 ++ (ws_Matrix g u9.2.2.1.1 u9.2.2.1.2 ++ (ws_Whole g u9.2.1.1 u9.2.1.2 ++ ([] : va_W))))))))))) ++ ([] : va_W))) H := hP
  have hD : va_D A ([(h0, .inr (2, [.ref q5, .ref u9.2.2.2.1.1, .ref u9.2.2.1.1, .null, .null, .null, .null, .null, .null, .null, .null, .int 0])), (q5, .inr (1, [.ref u9.1, .int 0, .ref u9.2.1.1, .ref u9.2.2.1.1, .ref u9.2.2.2.1.1, .ref u9.2.2.2.2.1.1, .ref u9.2.2.2.2.2.1.1, .ref u9.2.2.2.2.2.2.1.1, .ref u9.2.2.2.2.2.2.2.1.1, .ref u9.2.2.2.2.2.2.2.2.1.1, .ref u9.2.2.2.2.2.2.2.2.2.1.1, .ref u9.2.2.2.2.2.2.2.2.2.2.1.1, .int 0, .ref u9.2.2.2.2.2.2.2.2.2.2.2, .long 0])), (u9.1, .inl (g 0, 64, .inl (fun _ => 0))), (u9.2.2.2.2.2.2.2.2.2.2.2, .inl (g 0, 16, .inl (fun _ => 0))), (q38, .inr (11, [.null, .int 0, .int 0]))] ++ ((ws_Whole g u9.2.2.2.2.2.2.2.2.2.2.1.1 u9.2.2.2.2.2.2.2.2.2.2.1.2 ++ (ws_Whole g u9.2.2.2.2.2.2.2.2.2.1.1 u9.2.2.2.2.2.2.2.2.2.1.2 ++ (ws_Whole g u9.2.2.2.2.2.2.2.2.1.1 u9.2.2.2.2.2.2.2.2.1.2 ++ (ws_Whole g u9.2.2.2.2.2.2.2.1.1 u9.2.2.2.2.2.2.2.1.2 ++ (ws_Whole g u9.2.2.2.2.2.2.1.1 u9.2.2.2.2.2.2.1.2 ++ (ws_Whole g u9.2.2.2.2.2.1.1 u9.2.2.2.2.2.1.2 ++ (ws_Matrix g u9.2.2.2.2.1.1 u9.2.2.2.2.1.2 ++ (ws_Calc g u9.2.2.2.1.1 u9.2.2.2.1.2 ++ (ws_Matrix g u9.2.2.1.1 u9.2.2.1.2 ++ (ws_Whole g u9.2.1.1 u9.2.1.2 ++ ([] : va_W))))))))))) ++ ([] : va_W))) := hD
  refine W.widen (k := 47) (n := 270) (by decide) (by decide) ?_
  refine lv_dup hx hb d_Latt_init_41 rfl ?_
  have hP := pm_subP (a' := [(q38, .inr (11, [.null, .int 0, .int 0])), (h0, .inr (2, [.ref q5, .ref u9.2.2.2.1.1, .ref u9.2.2.1.1, .null, .null, .null, .null, .null, .null, .null, .null, .int 0])), (q5, .inr (1, [.ref u9.1, .int 0, .ref u9.2.1.1, .ref u9.2.2.1.1, .ref u9.2.2.2.1.1, .ref u9.2.2.2.2.1.1, .ref u9.2.2.2.2.2.1.1, .ref u9.2.2.2.2.2.2.1.1, .ref u9.2.2.2.2.2.2.2.1.1, .ref u9.2.2.2.2.2.2.2.2.1.1, .ref u9.2.2.2.2.2.2.2.2.2.1.1, .ref u9.2.2.2.2.2.2.2.2.2.2.1.1, .int 0, .ref u9.2.2.2.2.2.2.2.2.2.2.2, .long 0])), (u9.1, .inl (g 0, 64, .inl (fun _ => 0))), (u9.2.2.2.2.2.2.2.2.2.2.2, .inl (g 0, 16, .inl (fun _ => 0)))]) hP [4, 0, 1, 2, 3] rfl
  have hD := pm_subD (a' := [(q38, .inr (11, [.null, .int 0, .int 0])), (h0, .inr (2, [.ref q5, .ref u9.2.2.2.1.1, .ref u9.2.2.1.1, .null, .null, .null, .null, .null, .null, .null, .null, .int 0])), (q5, .inr (1, [.ref u9.1, .int 0, .ref u9.2.1.1, .ref u9.2.2.1.1, .ref u9.2.2.2.1.1, .ref u9.2.2.2.2.1.1, .ref u9.2.2.2.2.2.1.1, .ref u9.2.2.2.2.2.2.1.1, .ref u9.2.2.2.2.2.2.2.1.1, .ref u9.2.2.2.2.2.2.2.2.1.1, .ref u9.2.2.2.2.2.2.2.2.2.1.1, .ref u9.2.2.2.2.2.2.2.2.2.2.1.1, .int 0, .ref u9.2.2.2.2.2.2.2.2.2.2.2, .long 0])), (u9.1, .inl (g 0, 64, .inl (fun _ => 0))), (u9.2.2.2.2.2.2.2.2.2.2.2, .inl (g 0, 16, .inl (fun _ => 0)))]) hD [4, 0, 1, 2, 3] (by decide) rfl
  have hP : va_P D vC ([(q38, .inr (11, [.null, .int 0, .int 0]))] ++ ([(h0, .inr (2, [.ref q5, .ref u9.2.2.2.1.1, .ref u9.2.2.1.1, .null, .null, .null, .null, .null, .null, .null, .null, .int 0])), (q5, .inr (1, [.ref u9.1, .int 0, .ref u9.2.1.1, .ref u9.2.2.1.1, .ref u9.2.2.2.1.1, .ref u9.2.2.2.2.1.1, .ref u9.2.2.2.2.2.1.1, .ref u9.2.2.2.2.2.2.1.1, .ref u9.2.2.2.2.2.2.2.1.1, .ref u9.2.2.2.2.2.2.2.2.1.1, .ref u9.2.2.2.2.2.2.2.2.2.1.1, .ref u9.2.2.2.2.2.2.2.2.2.2.1.1, .int 0, .ref u9.2.2.2.2.2.2.2.2.2.2.2, .long 0])), (u9.1, .inl (g 0, 64, .inl (fun _ => 0))), (u9.2.2.2.2.2.2.2.2.2.2.2, .inl (g 0, 16, .inl (fun _ => 0)))] ++ ((ws_Whole g u9.2.2.2.2.2.2.2.2.2.2.1.1 u9.2.2.2.2.2.2.2.2.2.2.1.2 ++ (ws_Whole g u9.2.2.2.2.2.2.2.2.2.1.1 u9.2.2.2.2.2.2.2.2.2.1.2 ++ (ws_Whole g u9.2.2.2.2.2.2.2.2.1.1 u9.2.2.2.2.2.2.2.2.1.2 ++ (ws_Whole g u9.2.2.2.2.2.2.2.1.1 u9.2.2.2.2.2.2.2.1.2 ++ (ws_Whole g u9.2.2.2.2.2.2.1.1 u9.2.2.2.2.2.2.1.2 ++ (ws_Whole g u9.2.2.2.2.2.1.1 u9.2.2.2.2.2.1.2 ++ (ws_Matrix g u9.2.2.2.2.1.1 u9.2.2.2.2.1.2 ++ (ws_Calc g u9.2.2.2.1.1 u9.2.2.2.1.2 ++ (ws_Matrix g u9.2.2.1.1 u9.2.2.1.2 ++ (ws_Whole g u9.2.1.1 u9.2.1.2 ++ ([] : va_W))))))))))) ++ ([] : va_W)))) H := hP
  have hD : va_D A ([(q38, .inr (11, [.null, .int 0, .int 0]))] ++ ([(h0, .inr (2, [.ref q5, .ref u9.2.2.2.1.1, .ref u9.2.2.1.1, .null, .null, .null, .null, .null, .null, .null, .null, .int 0])), (q5, .inr (1, [.ref u9.1, .int 0, .ref u9.2.1.1, .ref u9.2.2.1.1, .ref u9.2.2.2.1.1, .ref u9.2.2.2.2.1.1, .ref u9.2.2.2.2.2.1.1, .ref u9.2.2.2.2.2.2.1.1, .ref u9.2.2.2.2.2.2.2.1.1, .ref u9.2.2.2.2.2.2.2.2.1.1, .ref u9.2.2.2.2.2.2.2.2.2.1.1, .ref u9.2.2.2.2.2.2.2.2.2.2.1.1, .int 0, .ref u9.2.2.2.2.2.2.2.2.2.2.2, .long 0])), (u9.1, .inl (g 0, 64, .inl (fun _ => 0))), (u9.2.2.2.2.2.2.2.2.2.2.2, .inl (g 0, 16, .inl (fun _ => 0)))] ++ ((ws_Whole g u9.2.2.2.2.2.2.2.2.2.2.1.1 u9.2.2.2.2.2.2.2.2.2.2.1.2 ++ (ws_Whole g u9.2.2.2.2.2.2.2.2.2.1.1 u9.2.2.2.2.2.2.2.2.2.1.2 ++ (ws_Whole g u9.2.2.2.2.2.2.2.2.1.1 u9.2.2.2.2.2.2.2.2.1.2 ++ (ws_Whole g u9.2.2.2.2.2.2.2.1.1 u9.2.2.2.2.2.2.2.1.2 ++ (ws_Whole g u9.2.2.2.2.2.2.1.1 u9.2.2.2.2.2.2.1.2 ++ (ws_Whole g u9.2.2.2.2.2.1.1 u9.2.2.2.2.2.1.2 ++ (ws_Matrix g u9.2.2.2.2.1.1 u9.2.2.2.2.1.2 ++ (ws_Calc g u9.2.2.2.1.1 u9.2.2.2.1.2 ++ (ws_Matrix g u9.2.2.1.1 u9.2.2.1.2 ++ (ws_Whole g u9.2.1.1 u9.2.1.2 ++ ([] : va_W))))))))))) ++ ([] : va_W)))) := hD
  have hFc := pm_free hD hS hA
  refine va_callv (va_runIN (As := []) (rest := [.ref q38, .ref h0]) ⟨hx, hb, hml, hown, hT⟩ (c_Whole_init l D g q38 H.size) (⟨va_cnB 0 hT gd_Whole_init rfl rfl rfl (hN.1 _ nw_500) (hT _ tw_158) (by decide +kernel) ⟨Nat.le_of_ble_eq_true rfl, Nat.le_of_ble_eq_true rfl⟩, rfl, hT _ tw_243⟩) (cp_S hP hK hD hN) rfl rfl hl.1 rfl (lv_room (Nat.le_of_ble_eq_true rfl)) d_Latt_init_42 ⟨Nat.le_of_ble_eq_true rfl, Nat.le_of_ble_eq_true rfl⟩) hS (fun q _ h => hFc q h) hFc (fun u42 t H1 locs ht1 hvm hw hB hz1 hk1 hS => ?_)
  obtain ⟨hP1, hD1⟩ := hB
  rw [ht1] at hP1
  obtain ⟨hP, hD⟩ := pm_join hP hD hk1 hFc hP1 hD1
  generalize H1 = H at hP hS ⊢
  have hP := pm_swapP hP
  have hD := pm_swapD hD
  have hP : va_P D vC ([(h0, .inr (2, [.ref q5, .ref u9.2.2.2.1.1, .ref u9.2.2.1.1, .null, .null, .null, .null, .null, .null, .null, .null, .int 0])), (q5, .inr (1, [.ref u9.1, .int 0, .ref u9.2.1.1, .ref u9.2.2.1.1, .ref u9.2.2.2.1.1, .ref u9.2.2.2.2.1.1, .ref u9.2.2.2.2.2.1.1, .ref u9.2.2.2.2.2.2.1.1, .ref u9.2.2.2.2.2.2.2.1.1, .ref u9.2.2.2.2.2.2.2.2.1.1, .ref u9.2.2.2.2.2.2.2.2.2.1.1, .ref u9.2.2.2.2.2.2.2.2.2.2.1.1, .int 0, .ref u9.2.2.2.2.2.2.2.2.2.2.2, .long 0])), (u9.1, .inl (g 0, 64, .inl (fun _ => 0))), (u9.2.2.2.2.2.2.2.2.2.2.2, .inl (g 0, 16, .inl (fun _ => 0)))] ++ (ws_Whole g q38 u42 ++ ((ws_Whole g u9.2.2.2.2.2.2.2.2.2.2.1.1 u9.2.2.2.2.2.2.2.2.2.2.1.2 ++ (ws_Whole g u9.2.2.2.2.2.2.2.2.2.1.1 u9.2.2.2.2.2.2.2.2.2.1.2 ++ (ws_Whole g u9.2.2.2.2.2.2.2.2.1.1 u9.2.2.2.2.2.2.2.2.1.2 ++ (ws_Whole g u9.2.2.2.2.2.2.2.1.1 u9.2.2.2.2.2.2.2.1.2 ++ (ws_Whole g u9.2.2.2.2.2.2.1.1 u9.2.2.2.2.2.2.1.2 ++ (ws_Whole g u9.2.2.2.2.2.1.1 u9.2.2.2.2.2.1.2 ++ (ws_Matrix g u9.2.2.2.2.1.1 u9.2.2.2.2.1.2 ++ (ws_Calc g u9.2.2.2.1.1 u9.2.2.2.1.2 ++ (ws_Matrix g u9.2.2.1.1 u9.2.2.1.2 ++ (ws_Whole g u9.2.1.1 u9.2.1.2 ++ ([] : va_W))))))))))) ++ ([] : va_W)))) H := hP
  have hD : va_D A ([(h0, .inr (2, [.ref q5, .ref u9.2.2.2.1.1, .ref u9.2.2.1.1, .null, .null, .null, .null, .null, .null, .null, .null, .int 0])), (q5, .inr (1, [.ref u9.1, .int 0, .ref u9.2.1.1, .ref u9.2.2.1.1, .ref u9.2.2.2.1.1, .ref u9.2.2.2.2.1.1, .ref u9.2.2.2.2.2.1.1, .ref u9.2.2.2.2.2.2.1.1, .ref u9.2.2.2.2.2.2.2.1.1, .ref u9.2.2.2.2.2.2.2.2.1.1, .ref u9.2.2.2.2.2.2.2.2.2.1.1, .ref u9.2.2.2.2.2.2.2.2.2.2.1.1, .int 0, .ref u9.2.2.2.2.2.2.2.2.2.2.2, .long 0])), (u9.1, .inl (g 0, 64, .inl (fun _ => 0))), (u9.2.2.2.2.2.2.2.2.2.2.2, .inl (g 0, 16, .inl (fun _ => 0)))] ++ (ws_Whole g q38 u42 ++ ((ws_Whole g u9.2.2.2.2.2.2.2.2.2.2.1.1 u9.2.2.2.2.2.2.2.2.2.2.1.2 ++ (ws_Whole g u9.2.2.2.2.2.2.2.2.2.1.1 u9.2.2.2.2.2.2.2.2.2.1.2 ++ (ws_Whole g u9.2.2.2.2.2.2.2.2.1.1 u9.2.2.2.2.2.2.2.2.1.2 ++ (ws_Whole g u9.2.2.2.2.2.2.2.1.1 u9.2.2.2.2.2.2.2.1.2 ++ (ws_Whole g u9.2.2.2.2.2.2.1.1 u9.2.2.2.2.2.2.1.2 ++ (ws_Whole g u9.2.2.2.2.2.1.1 u9.2.2.2.2.2.1.2 ++ (ws_Matrix g u9.2.2.2.2.1.1 u9.2.2.2.2.1.2 ++ (ws_Calc g u9.2.2.2.1.1 u9.2.2.2.1.2 ++ (ws_Matrix g u9.2.2.1.1 u9.2.2.1.2 ++ (ws_Whole g u9.2.1.1 u9.2.1.2 ++ ([] : va_W))))))))))) ++ ([] : va_W)))) := hD
  refine W.widen (k := 48) (n := 273) (by decide) (by decide) ?_
  refine va_putF (D := D) (ci := 2) (v := .ref q38) (ty := .object "MatrixScripts$Whole") (C := "MatrixScripts$Lattices") (T := T_Latt) (N := 12) hx hb hT in_Latt ty_Latt ty_Latt_ok nm_Latt hown hK hP hD hS 0 rfl rfl 3 (by decide) (hT _ tw_505) (fun _ h9 => h9) rfl hin rfl (by decide +kernel) rfl rfl (Nat.le_of_ble_eq_true rfl) d_Latt_init_45 (fun H locs hP hD hS => ?_)
  have hP : va_P D vC ([(h0, .inr (2, [.ref q5, .ref u9.2.2.2.1.1, .ref u9.2.2.1.1, .ref q38, .null, .null, .null, .null, .null, .null, .null, .int 0])), (q5, .inr (1, [.ref u9.1, .int 0, .ref u9.2.1.1, .ref u9.2.2.1.1, .ref u9.2.2.2.1.1, .ref u9.2.2.2.2.1.1, .ref u9.2.2.2.2.2.1.1, .ref u9.2.2.2.2.2.2.1.1, .ref u9.2.2.2.2.2.2.2.1.1, .ref u9.2.2.2.2.2.2.2.2.1.1, .ref u9.2.2.2.2.2.2.2.2.2.1.1, .ref u9.2.2.2.2.2.2.2.2.2.2.1.1, .int 0, .ref u9.2.2.2.2.2.2.2.2.2.2.2, .long 0])), (u9.1, .inl (g 0, 64, .inl (fun _ => 0))), (u9.2.2.2.2.2.2.2.2.2.2.2, .inl (g 0, 16, .inl (fun _ => 0)))] ++ (ws_Whole g q38 u42 ++ ((ws_Whole g u9.2.2.2.2.2.2.2.2.2.2.1.1 u9.2.2.2.2.2.2.2.2.2.2.1.2 ++ (ws_Whole g u9.2.2.2.2.2.2.2.2.2.1.1 u9.2.2.2.2.2.2.2.2.2.1.2 ++ (ws_Whole g u9.2.2.2.2.2.2.2.2.1.1 u9.2.2.2.2.2.2.2.2.1.2 ++ (ws_Whole g u9.2.2.2.2.2.2.2.1.1 u9.2.2.2.2.2.2.2.1.2 ++ (ws_Whole g u9.2.2.2.2.2.2.1.1 u9.2.2.2.2.2.2.1.2 ++ (ws_Whole g u9.2.2.2.2.2.1.1 u9.2.2.2.2.2.1.2 ++ (ws_Matrix g u9.2.2.2.2.1.1 u9.2.2.2.2.1.2 ++ (ws_Calc g u9.2.2.2.1.1 u9.2.2.2.1.2 ++ (ws_Matrix g u9.2.2.1.1 u9.2.2.1.2 ++ (ws_Whole g u9.2.1.1 u9.2.1.2 ++ ([] : va_W))))))))))) ++ ([] : va_W)))) H := hP
  have hD : va_D A ([(h0, .inr (2, [.ref q5, .ref u9.2.2.2.1.1, .ref u9.2.2.1.1, .ref q38, .null, .null, .null, .null, .null, .null, .null, .int 0])), (q5, .inr (1, [.ref u9.1, .int 0, .ref u9.2.1.1, .ref u9.2.2.1.1, .ref u9.2.2.2.1.1, .ref u9.2.2.2.2.1.1, .ref u9.2.2.2.2.2.1.1, .ref u9.2.2.2.2.2.2.1.1, .ref u9.2.2.2.2.2.2.2.1.1, .ref u9.2.2.2.2.2.2.2.2.1.1, .ref u9.2.2.2.2.2.2.2.2.2.1.1, .ref u9.2.2.2.2.2.2.2.2.2.2.1.1, .int 0, .ref u9.2.2.2.2.2.2.2.2.2.2.2, .long 0])), (u9.1, .inl (g 0, 64, .inl (fun _ => 0))), (u9.2.2.2.2.2.2.2.2.2.2.2, .inl (g 0, 16, .inl (fun _ => 0)))] ++ (ws_Whole g q38 u42 ++ ((ws_Whole g u9.2.2.2.2.2.2.2.2.2.2.1.1 u9.2.2.2.2.2.2.2.2.2.2.1.2 ++ (ws_Whole g u9.2.2.2.2.2.2.2.2.2.1.1 u9.2.2.2.2.2.2.2.2.2.1.2 ++ (ws_Whole g u9.2.2.2.2.2.2.2.2.1.1 u9.2.2.2.2.2.2.2.2.1.2 ++ (ws_Whole g u9.2.2.2.2.2.2.2.1.1 u9.2.2.2.2.2.2.2.1.2 ++ (ws_Whole g u9.2.2.2.2.2.2.1.1 u9.2.2.2.2.2.2.1.2 ++ (ws_Whole g u9.2.2.2.2.2.1.1 u9.2.2.2.2.2.1.2 ++ (ws_Matrix g u9.2.2.2.2.1.1 u9.2.2.2.2.1.2 ++ (ws_Calc g u9.2.2.2.1.1 u9.2.2.2.1.2 ++ (ws_Matrix g u9.2.2.1.1 u9.2.2.1.2 ++ (ws_Whole g u9.2.1.1 u9.2.1.2 ++ ([] : va_W))))))))))) ++ ([] : va_W)))) := hD
  refine lv_aload_n hx hb d_Latt_init_48 rfl (lv_at hl 0 rfl) ?_
  refine pm_new (D := D) (ci := 11) (fs := [.null, .int 0, .int 0]) (C := "MatrixScripts$Whole") (T := T_Whole) (N := 3) hx hb hT in_Whole ty_Whole ty_Whole_ok hown (hT _ tw_499) (hT _ tw_241) (hT _ tw_158) hK hP hD hS hA rfl (by decide) (Nat.le_of_ble_eq_true rfl) (Nat.le_of_ble_eq_true rfl) d_Latt_init_49 (fun q49 H hP hD hS => ?_)
  have hP : va_P D vC ([(h0, .inr (2, [.ref q5, .ref u9.2.2.2.1.1, .ref u9.2.2.1.1, .ref q38, .null, .null, .null, .null, .null, .null, .null, .int 0])), (q5, .inr (1, [.ref u9.1, .int 0, .ref u9.2.1.1, .ref u9.2.2.1.1, .ref u9.2.2.2.1.1, .ref u9.2.2.2.2.1.1, .ref u9.2.2.2.2.2.1.1, .ref u9.2.2.2.2.2.2.1.1, .ref u9.2.2.2.2.2.2.2.1.1, .ref u9.2.2.2.2.2.2.2.2.1.1, .ref u9.2.2.2.2.2.2.2.2.2.1.1, .ref u9.2.2.2.2.2.2.2.2.2.2.1.1, .int 0, .ref u9.2.2.2.2.2.2.2.2.2.2.2, .long 0])), (u9.1, .inl (g 0, 64, .inl (fun _ => 0))), (u9.2.2.2.2.2.2.2.2.2.2.2, .inl (g 0, 16, .inl (fun _ => 0))), (q49, .inr (11, [.null, .int 0, .int 0]))] ++ (ws_Whole g q38 u42 ++ ((ws_Whole g u9.2.2.2.2.2.2.2.2.2.2.1.1 u9.2.2.2.2.2.2.2.2.2.2.1.2 ++ (ws_Whole g u9.2.2.2.2.2.2.2.2.2.1.1 u9.2.2.2.2.2.2.2.2.2.1.2 ++ (ws_Whole g u9.2.2.2.2.2.2.2.2.1.1 u9.2.2.2.2.2.2.2.2.1.2 ++ (ws_Whole g u9.2.2.2.2.2.2.2.1.1 u9.2.2.2.2.2.2.2.1.2 ++ (ws_Whole g u9.2.2.2.2.2.2.1.1 u9.2.2.2.2.2.2.1.2 ++ (ws_Whole g u9.2.2.2.2.2.1.1 u9.2.2.2.2.2.1.2 ++ (ws_Matrix g u9.2.2.2.2.1.1 u9.2.2.2.2.1.2 ++ (ws_Calc g u9.2.2.2.1.1 u9.2.2.2.1.2 ++ (ws_Matrix g u9.2.2.1.1 u9.2.2.1.2 ++ (ws_Whole g u9.2.1.1 u9.2.1.2 ++ ([] : va_W))))))))))) ++ ([] : va_W)))) H := hP
  have hD : va_D A ([(h0, .inr (2, [.ref q5, .ref u9.2.2.2.1.1, .ref u9.2.2.1.1, .ref q38, .null, .null, .null, .null, .null, .null, .null, .int 0])), (q5, .inr (1, [.ref u9.1, .int 0, .ref u9.2.1.1, .ref u9.2.2.1.1, .ref u9.2.2.2.1.1, .ref u9.2.2.2.2.1.1, .ref u9.2.2.2.2.2.1.1, .ref u9.2.2.2.2.2.2.1.1, .ref u9.2.2.2.2.2.2.2.1.1, .ref u9.2.2.2.2.2.2.2.2.1.1, .ref u9.2.2.2.2.2.2.2.2.2.1.1, .ref u9.2.2.2.2.2.2.2.2.2.2.1.1, .int 0, .ref u9.2.2.2.2.2.2.2.2.2.2.2, .long 0])), (u9.1, .inl (g 0, 64, .inl (fun _ => 0))), (u9.2.2.2.2.2.2.2.2.2.2.2, .inl (g 0, 16, .inl (fun _ => 0))), (q49, .inr (11, [.null, .int 0, .int 0]))] ++ (ws_Whole g q38 u42 ++ ((ws_Whole g u9.2.2.2.2.2.2.2.2.2.2.1.1 u9.2.2.2.2.2.2.2.2.2.2.1.2 ++ (ws_Whole g u9.2.2.2.2.2.2.2.2.2.1.1 u9.2.2.2.2.2.2.2.2.2.1.2 ++ (ws_Whole g u9.2.2.2.2.2.2.2.2.1.1 u9.2.2.2.2.2.2.2.2.1.2 ++ (ws_Whole g u9.2.2.2.2.2.2.2.1.1 u9.2.2.2.2.2.2.2.1.2 ++ (ws_Whole g u9.2.2.2.2.2.2.1.1 u9.2.2.2.2.2.2.1.2 ++ (ws_Whole g u9.2.2.2.2.2.1.1 u9.2.2.2.2.2.1.2 ++ (ws_Matrix g u9.2.2.2.2.1.1 u9.2.2.2.2.1.2 ++ (ws_Calc g u9.2.2.2.1.1 u9.2.2.2.1.2 ++ (ws_Matrix g u9.2.2.1.1 u9.2.2.1.2 ++ (ws_Whole g u9.2.1.1 u9.2.1.2 ++ ([] : va_W))))))))))) ++ ([] : va_W)))) := hD
  refine W.widen (k := 49) (n := 276) (by decide) (by decide) ?_
  refine lv_dup hx hb d_Latt_init_52 rfl ?_
  have hP := pm_subP (a' := [(q49, .inr (11, [.null, .int 0, .int 0])), (h0, .inr (2, [.ref q5, .ref u9.2.2.2.1.1, .ref u9.2.2.1.1, .ref q38, .null, .null, .null, .null, .null, .null, .null, .int 0])), (q5, .inr (1, [.ref u9.1, .int 0, .ref u9.2.1.1, .ref u9.2.2.1.1, .ref u9.2.2.2.1.1, .ref u9.2.2.2.2.1.1, .ref u9.2.2.2.2.2.1.1, .ref u9.2.2.2.2.2.2.1.1, .ref u9.2.2.2.2.2.2.2.1.1, .ref u9.2.2.2.2.2.2.2.2.1.1, .ref u9.2.2.2.2.2.2.2.2.2.1.1, .ref u9.2.2.2.2.2.2.2.2.2.2.1.1, .int 0, .ref u9.2.2.2.2.2.2.2.2.2.2.2, .long 0])), (u9.1, .inl (g 0, 64, .inl (fun _ => 0))), (u9.2.2.2.2.2.2.2.2.2.2.2, .inl (g 0, 16, .inl (fun _ => 0)))]) hP [4, 0, 1, 2, 3] rfl
  have hD := pm_subD (a' := [(q49, .inr (11, [.null, .int 0, .int 0])), (h0, .inr (2, [.ref q5, .ref u9.2.2.2.1.1, .ref u9.2.2.1.1, .ref q38, .null, .null, .null, .null, .null, .null, .null, .int 0])), (q5, .inr (1, [.ref u9.1, .int 0, .ref u9.2.1.1, .ref u9.2.2.1.1, .ref u9.2.2.2.1.1, .ref u9.2.2.2.2.1.1, .ref u9.2.2.2.2.2.1.1, .ref u9.2.2.2.2.2.2.1.1, .ref u9.2.2.2.2.2.2.2.1.1, .ref u9.2.2.2.2.2.2.2.2.1.1, .ref u9.2.2.2.2.2.2.2.2.2.1.1, .ref u9.2.2.2.2.2.2.2.2.2.2.1.1, .int 0, .ref u9.2.2.2.2.2.2.2.2.2.2.2, .long 0])), (u9.1, .inl (g 0, 64, .inl (fun _ => 0))), (u9.2.2.2.2.2.2.2.2.2.2.2, .inl (g 0, 16, .inl (fun _ => 0)))]) hD [4, 0, 1, 2, 3] (by decide) rfl
  have hP : va_P D vC ([(q49, .inr (11, [.null, .int 0, .int 0]))] ++ ([(h0, .inr (2, [.ref q5, .ref u9.2.2.2.1.1, .ref u9.2.2.1.1, .ref q38, .null, .null, .null, .null, .null, .null, .null, .int 0])), (q5, .inr (1, [.ref u9.1, .int 0, .ref u9.2.1.1, .ref u9.2.2.1.1, .ref u9.2.2.2.1.1, .ref u9.2.2.2.2.1.1, .ref u9.2.2.2.2.2.1.1, .ref u9.2.2.2.2.2.2.1.1, .ref u9.2.2.2.2.2.2.2.1.1, .ref u9.2.2.2.2.2.2.2.2.1.1, .ref u9.2.2.2.2.2.2.2.2.2.1.1, .ref u9.2.2.2.2.2.2.2.2.2.2.1.1, .int 0, .ref u9.2.2.2.2.2.2.2.2.2.2.2, .long 0])), (u9.1, .inl (g 0, 64, .inl (fun _ => 0))), (u9.2.2.2.2.2.2.2.2.2.2.2, .inl (g 0, 16, .inl (fun _ => 0)))] ++ (ws_Whole g q38 u42 ++ ((ws_Whole g u9.2.2.2.2.2.2.2.2.2.2.1.1 u9.2.2.2.2.2.2.2.2.2.2.1.2 ++ (ws_Whole g u9.2.2.2.2.2.2.2.2.2.1.1 u9.2.2.2.2.2.2.2.2.2.1.2 ++ (ws_Whole g u9.2.2.2.2.2.2.2.2.1.1 u9.2.2.2.2.2.2.2.2.1.2 ++ (ws_Whole g u9.2.2.2.2.2.2.2.1.1 u9.2.2.2.2.2.2.2.1.2 ++ (ws_Whole g u9.2.2.2.2.2.2.1.1 u9.2.2.2.2.2.2.1.2 ++ (ws_Whole g u9.2.2.2.2.2.1.1 u9.2.2.2.2.2.1.2 ++ (ws_Matrix g u9.2.2.2.2.1.1 u9.2.2.2.2.1.2 ++ (ws_Calc g u9.2.2.2.1.1 u9.2.2.2.1.2 ++ (ws_Matrix g u9.2.2.1.1 u9.2.2.1.2 ++ (ws_Whole g u9.2.1.1 u9.2.1.2 ++ ([] : va_W))))))))))) ++ ([] : va_W))))) H := hP
  have hD : va_D A ([(q49, .inr (11, [.null, .int 0, .int 0]))] ++ ([(h0, .inr (2, [.ref q5, .ref u9.2.2.2.1.1, .ref u9.2.2.1.1, .ref q38, .null, .null, .null, .null, .null, .null, .null, .int 0])), (q5, .inr (1, [.ref u9.1, .int 0, .ref u9.2.1.1, .ref u9.2.2.1.1, .ref u9.2.2.2.1.1, .ref u9.2.2.2.2.1.1, .ref u9.2.2.2.2.2.1.1, .ref u9.2.2.2.2.2.2.1.1, .ref u9.2.2.2.2.2.2.2.1.1, .ref u9.2.2.2.2.2.2.2.2.1.1, .ref u9.2.2.2.2.2.2.2.2.2.1.1, .ref u9.2.2.2.2.2.2.2.2.2.2.1.1, .int 0, .ref u9.2.2.2.2.2.2.2.2.2.2.2, .long 0])), (u9.1, .inl (g 0, 64, .inl (fun _ => 0))), (u9.2.2.2.2.2.2.2.2.2.2.2, .inl (g 0, 16, .inl (fun _ => 0)))] ++ (ws_Whole g q38 u42 ++ ((ws_Whole g u9.2.2.2.2.2.2.2.2.2.2.1.1 u9.2.2.2.2.2.2.2.2.2.2.1.2 ++ (ws_Whole g u9.2.2.2.2.2.2.2.2.2.1.1 u9.2.2.2.2.2.2.2.2.2.1.2 ++ (ws_Whole g u9.2.2.2.2.2.2.2.2.1.1 u9.2.2.2.2.2.2.2.2.1.2 ++ (ws_Whole g u9.2.2.2.2.2.2.2.1.1 u9.2.2.2.2.2.2.2.1.2 ++ (ws_Whole g u9.2.2.2.2.2.2.1.1 u9.2.2.2.2.2.2.1.2 ++ (ws_Whole g u9.2.2.2.2.2.1.1 u9.2.2.2.2.2.1.2 ++ (ws_Matrix g u9.2.2.2.2.1.1 u9.2.2.2.2.1.2 ++ (ws_Calc g u9.2.2.2.1.1 u9.2.2.2.1.2 ++ (ws_Matrix g u9.2.2.1.1 u9.2.2.1.2 ++ (ws_Whole g u9.2.1.1 u9.2.1.2 ++ ([] : va_W))))))))))) ++ ([] : va_W))))) := hD
  have hFc := pm_free hD hS hA
  refine va_callv (va_runIN (As := []) (rest := [.ref q49, .ref h0]) ⟨hx, hb, hml, hown, hT⟩ (c_Whole_init l D g q49 H.size) (⟨va_cnB 0 hT gd_Whole_init rfl rfl rfl (hN.1 _ nw_500) (hT _ tw_158) (by decide +kernel) ⟨Nat.le_of_ble_eq_true rfl, Nat.le_of_ble_eq_true rfl⟩, rfl, hT _ tw_243⟩) (cp_S hP hK hD hN) rfl rfl hl.1 rfl (lv_room (Nat.le_of_ble_eq_true rfl)) d_Latt_init_53 ⟨Nat.le_of_ble_eq_true rfl, Nat.le_of_ble_eq_true rfl⟩) hS (fun q _ h => hFc q h) hFc (fun u53 t H1 locs ht1 hvm hw hB hz1 hk1 hS => ?_)
  obtain ⟨hP1, hD1⟩ := hB
  rw [ht1] at hP1
  obtain ⟨hP, hD⟩ := pm_join hP hD hk1 hFc hP1 hD1
  generalize H1 = H at hP hS ⊢
  have hP := pm_swapP hP
  have hD := pm_swapD hD
  have hP : va_P D vC ([(h0, .inr (2, [.ref q5, .ref u9.2.2.2.1.1, .ref u9.2.2.1.1, .ref q38, .null, .null, .null, .null, .null, .null, .null, .int 0])), (q5, .inr (1, [.ref u9.1, .int 0, .ref u9.2.1.1, .ref u9.2.2.1.1, .ref u9.2.2.2.1.1, .ref u9.2.2.2.2.1.1, .ref u9.2.2.2.2.2.1.1, .ref u9.2.2.2.2.2.2.1.1, .ref u9.2.2.2.2.2.2.2.1.1, .ref u9.2.2.2.2.2.2.2.2.1.1, .ref u9.2.2.2.2.2.2.2.2.2.1.1, .ref u9.2.2.2.2.2.2.2.2.2.2.1.1, .int 0, .ref u9.2.2.2.2.2.2.2.2.2.2.2, .long 0])), (u9.1, .inl (g 0, 64, .inl (fun _ => 0))), (u9.2.2.2.2.2.2.2.2.2.2.2, .inl (g 0, 16, .inl (fun _ => 0)))] ++ (ws_Whole g q49 u53 ++ (ws_Whole g q38 u42 ++ ((ws_Whole g u9.2.2.2.2.2.2.2.2.2.2.1.1 u9.2.2.2.2.2.2.2.2.2.2.1.2 ++ (ws_Whole g u9.2.2.2.2.2.2.2.2.2.1.1 u9.2.2.2.2.2.2.2.2.2.1.2 ++ (ws_Whole g u9.2.2.2.2.2.2.2.2.1.1 u9.2.2.2.2.2.2.2.2.1.2 ++ (ws_Whole g u9.2.2.2.2.2.2.2.1.1 u9.2.2.2.2.2.2.2.1.2 ++ (ws_Whole g u9.2.2.2.2.2.2.1.1 u9.2.2.2.2.2.2.1.2 ++ (ws_Whole g u9.2.2.2.2.2.1.1 u9.2.2.2.2.2.1.2 ++ (ws_Matrix g u9.2.2.2.2.1.1 u9.2.2.2.2.1.2 ++ (ws_Calc g u9.2.2.2.1.1 u9.2.2.2.1.2 ++ (ws_Matrix g u9.2.2.1.1 u9.2.2.1.2 ++ (ws_Whole g u9.2.1.1 u9.2.1.2 ++ ([] : va_W))))))))))) ++ ([] : va_W))))) H := hP
  have hD : va_D A ([(h0, .inr (2, [.ref q5, .ref u9.2.2.2.1.1, .ref u9.2.2.1.1, .ref q38, .null, .null, .null, .null, .null, .null, .null, .int 0])), (q5, .inr (1, [.ref u9.1, .int 0, .ref u9.2.1.1, .ref u9.2.2.1.1, .ref u9.2.2.2.1.1, .ref u9.2.2.2.2.1.1, .ref u9.2.2.2.2.2.1.1, .ref u9.2.2.2.2.2.2.1.1, .ref u9.2.2.2.2.2.2.2.1.1, .ref u9.2.2.2.2.2.2.2.2.1.1, .ref u9.2.2.2.2.2.2.2.2.2.1.1, .ref u9.2.2.2.2.2.2.2.2.2.2.1.1, .int 0, .ref u9.2.2.2.2.2.2.2.2.2.2.2, .long 0])), (u9.1, .inl (g 0, 64, .inl (fun _ => 0))), (u9.2.2.2.2.2.2.2.2.2.2.2, .inl (g 0, 16, .inl (fun _ => 0)))] ++ (ws_Whole g q49 u53 ++ (ws_Whole g q38 u42 ++ ((ws_Whole g u9.2.2.2.2.2.2.2.2.2.2.1.1 u9.2.2.2.2.2.2.2.2.2.2.1.2 ++ (ws_Whole g u9.2.2.2.2.2.2.2.2.2.1.1 u9.2.2.2.2.2.2.2.2.2.1.2 ++ (ws_Whole g u9.2.2.2.2.2.2.2.2.1.1 u9.2.2.2.2.2.2.2.2.1.2 ++ (ws_Whole g u9.2.2.2.2.2.2.2.1.1 u9.2.2.2.2.2.2.2.1.2 ++ (ws_Whole g u9.2.2.2.2.2.2.1.1 u9.2.2.2.2.2.2.1.2 ++ (ws_Whole g u9.2.2.2.2.2.1.1 u9.2.2.2.2.2.1.2 ++ (ws_Matrix g u9.2.2.2.2.1.1 u9.2.2.2.2.1.2 ++ (ws_Calc g u9.2.2.2.1.1 u9.2.2.2.1.2 ++ (ws_Matrix g u9.2.2.1.1 u9.2.2.1.2 ++ (ws_Whole g u9.2.1.1 u9.2.1.2 ++ ([] : va_W))))))))))) ++ ([] : va_W))))) := hD
  refine W.widen (k := 50) (n := 279) (by decide) (by decide) ?_
  refine va_putF (D := D) (ci := 2) (v := .ref q49) (ty := .object "MatrixScripts$Whole") (C := "MatrixScripts$Lattices") (T := T_Latt) (N := 12) hx hb hT in_Latt ty_Latt ty_Latt_ok nm_Latt hown hK hP hD hS 0 rfl rfl 4 (by decide) (hT _ tw_506) (fun _ h9 => h9) rfl hin rfl (by decide +kernel) rfl rfl (Nat.le_of_ble_eq_true rfl) d_Latt_init_56 (fun H locs hP hD hS => ?_)
  have hP : va_P D vC ([(h0, .inr (2, [.ref q5, .ref u9.2.2.2.1.1, .ref u9.2.2.1.1, .ref q38, .ref q49, .null, .null, .null, .null, .null, .null, .int 0])), (q5, .inr (1, [.ref u9.1, .int 0, .ref u9.2.1.1, .ref u9.2.2.1.1, .ref u9.2.2.2.1.1, .ref u9.2.2.2.2.1.1, .ref u9.2.2.2.2.2.1.1, .ref u9.2.2.2.2.2.2.1.1, .ref u9.2.2.2.2.2.2.2.1.1, .ref u9.2.2.2.2.2.2.2.2.1.1, .ref u9.2.2.2.2.2.2.2.2.2.1.1, .ref u9.2.2.2.2.2.2.2.2.2.2.1.1, .int 0, .ref u9.2.2.2.2.2.2.2.2.2.2.2, .long 0])), (u9.1, .inl (g 0, 64, .inl (fun _ => 0))), (u9.2.2.2.2.2.2.2.2.2.2.2, .inl (g 0, 16, .inl (fun _ => 0)))] ++ (ws_Whole g q49 u53 ++ (ws_Whole g q38 u42 ++ ((ws_Whole g u9.2.2.2.2.2.2.2.2.2.2.1.1 u9.2.2.2.2.2.2.2.2.2.2.1.2 ++ (ws_Whole g u9.2.2.2.2.2.2.2.2.2.1.1 u9.2.2.2.2.2.2.2.2.2.1.2 ++ (ws_Whole g u9.2.2.2.2.2.2.2.2.1.1 u9.2.2.2.2.2.2.2.2.1.2 ++ (ws_Whole g u9.2.2.2.2.2.2.2.1.1 u9.2.2.2.2.2.2.2.1.2 ++ (ws_Whole g u9.2.2.2.2.2.2.1.1 u9.2.2.2.2.2.2.1.2 ++ (ws_Whole g u9.2.2.2.2.2.1.1 u9.2.2.2.2.2.1.2 ++ (ws_Matrix g u9.2.2.2.2.1.1 u9.2.2.2.2.1.2 ++ (ws_Calc g u9.2.2.2.1.1 u9.2.2.2.1.2 ++ (ws_Matrix g u9.2.2.1.1 u9.2.2.1.2 ++ (ws_Whole g u9.2.1.1 u9.2.1.2 ++ ([] : va_W))))))))))) ++ ([] : va_W))))) H := hP
  have hD : va_D A ([(h0, .inr (2, [.ref q5, .ref u9.2.2.2.1.1, .ref u9.2.2.1.1, .ref q38, .ref q49, .null, .null, .null, .null, .null, .null, .int 0])), (q5, .inr (1, [.ref u9.1, .int 0, .ref u9.2.1.1, .ref u9.2.2.1.1, .ref u9.2.2.2.1.1, .ref u9.2.2.2.2.1.1, .ref u9.2.2.2.2.2.1.1, .ref u9.2.2.2.2.2.2.1.1, .ref u9.2.2.2.2.2.2.2.1.1, .ref u9.2.2.2.2.2.2.2.2.1.1, .ref u9.2.2.2.2.2.2.2.2.2.1.1, .ref u9.2.2.2.2.2.2.2.2.2.2.1.1, .int 0, .ref u9.2.2.2.2.2.2.2.2.2.2.2, .long 0])), (u9.1, .inl (g 0, 64, .inl (fun _ => 0))), (u9.2.2.2.2.2.2.2.2.2.2.2, .inl (g 0, 16, .inl (fun _ => 0)))] ++ (ws_Whole g q49 u53 ++ (ws_Whole g q38 u42 ++ ((ws_Whole g u9.2.2.2.2.2.2.2.2.2.2.1.1 u9.2.2.2.2.2.2.2.2.2.2.1.2 ++ (ws_Whole g u9.2.2.2.2.2.2.2.2.2.1.1 u9.2.2.2.2.2.2.2.2.2.1.2 ++ (ws_Whole g u9.2.2.2.2.2.2.2.2.1.1 u9.2.2.2.2.2.2.2.2.1.2 ++ (ws_Whole g u9.2.2.2.2.2.2.2.1.1 u9.2.2.2.2.2.2.2.1.2 ++ (ws_Whole g u9.2.2.2.2.2.2.1.1 u9.2.2.2.2.2.2.1.2 ++ (ws_Whole g u9.2.2.2.2.2.1.1 u9.2.2.2.2.2.1.2 ++ (ws_Matrix g u9.2.2.2.2.1.1 u9.2.2.2.2.1.2 ++ (ws_Calc g u9.2.2.2.1.1 u9.2.2.2.1.2 ++ (ws_Matrix g u9.2.2.1.1 u9.2.2.1.2 ++ (ws_Whole g u9.2.1.1 u9.2.1.2 ++ ([] : va_W))))))))))) ++ ([] : va_W))))) := hD
  refine lv_aload_n hx hb d_Latt_init_59 rfl (lv_at hl 0 rfl) ?_
  refine pm_new (D := D) (ci := 11) (fs := [.null, .int 0, .int 0]) (C := "MatrixScripts$Whole") (T := T_Whole) (N := 3) hx hb hT in_Whole ty_Whole ty_Whole_ok hown (hT _ tw_499) (hT _ tw_241) (hT _ tw_158) hK hP hD hS hA rfl (by decide) (Nat.le_of_ble_eq_true rfl) (Nat.le_of_ble_eq_true rfl) d_Latt_init_60 (fun q60 H hP hD hS => ?_)
  have hP : va_P D vC ([(h0, .inr (2, [.ref q5, .ref u9.2.2.2.1.1, .ref u9.2.2.1.1, .ref q38, .ref q49, .null, .null, .null, .null, .null, .null, .int 0])), (q5, .inr (1, [.ref u9.1, .int 0, .ref u9.2.1.1, .ref u9.2.2.1.1, .ref u9.2.2.2.1.1, .ref u9.2.2.2.2.1.1, .ref u9.2.2.2.2.2.1.1, .ref u9.2.2.2.2.2.2.1.1, .ref u9.2.2.2.2.2.2.2.1.1, .ref u9.2.2.2.2.2.2.2.2.1.1, .ref u9.2.2.2.2.2.2.2.2.2.1.1, .ref u9.2.2.2.2.2.2.2.2.2.2.1.1, .int 0, .ref u9.2.2.2.2.2.2.2.2.2.2.2, .long 0])), (u9.1, .inl (g 0, 64, .inl (fun _ => 0))), (u9.2.2.2.2.2.2.2.2.2.2.2, .inl (g 0, 16, .inl (fun _ => 0))), (q60, .inr (11, [.null, .int 0, .int 0]))] ++ (ws_Whole g q49 u53 ++ (ws_Whole g q38 u42 ++ ((ws_Whole g u9.2.2.2.2.2.2.2.2.2.2.1.1 u9.2.2.2.2.2.2.2.2.2.2.1.2 ++ (ws_Whole g u9.2.2.2.2.2.2.2.2.2.1.1 u9.2.2.2.2.2.2.2.2.2.1.2 ++ (ws_Whole g u9.2.2.2.2.2.2.2.2.1.1 u9.2.2.2.2.2.2.2.2.1.2 ++ (ws_Whole g u9.2.2.2.2.2.2.2.1.1 u9.2.2.2.2.2.2.2.1.2 ++ (ws_Whole g u9.2.2.2.2.2.2.1.1 u9.2.2.2.2.2.2.1.2 ++ (ws_Whole g u9.2.2.2.2.2.1.1 u9.2.2.2.2.2.1.2 ++ (ws_Matrix g u9.2.2.2.2.1.1 u9.2.2.2.2.1.2 ++ (ws_Calc g u9.2.2.2.1.1 u9.2.2.2.1.2 ++ (ws_Matrix g u9.2.2.1.1 u9.2.2.1.2 ++ (ws_Whole g u9.2.1.1 u9.2.1.2 ++ ([] : va_W))))))))))) ++ ([] : va_W))))) H := hP
  have hD : va_D A ([(h0, .inr (2, [.ref q5, .ref u9.2.2.2.1.1, .ref u9.2.2.1.1, .ref q38, .ref q49, .null, .null, .null, .null, .null, .null, .int 0])), (q5, .inr (1, [.ref u9.1, .int 0, .ref u9.2.1.1, .ref u9.2.2.1.1, .ref u9.2.2.2.1.1, .ref u9.2.2.2.2.1.1, .ref u9.2.2.2.2.2.1.1, .ref u9.2.2.2.2.2.2.1.1, .ref u9.2.2.2.2.2.2.2.1.1, .ref u9.2.2.2.2.2.2.2.2.1.1, .ref u9.2.2.2.2.2.2.2.2.2.1.1, .ref u9.2.2.2.2.2.2.2.2.2.2.1.1, .int 0, .ref u9.2.2.2.2.2.2.2.2.2.2.2, .long 0])), (u9.1, .inl (g 0, 64, .inl (fun _ => 0))), (u9.2.2.2.2.2.2.2.2.2.2.2, .inl (g 0, 16, .inl (fun _ => 0))), (q60, .inr (11, [.null, .int 0, .int 0]))] ++ (ws_Whole g q49 u53 ++ (ws_Whole g q38 u42 ++ ((ws_Whole g u9.2.2.2.2.2.2.2.2.2.2.1.1 u9.2.2.2.2.2.2.2.2.2.2.1.2 ++ (ws_Whole g u9.2.2.2.2.2.2.2.2.2.1.1 u9.2.2.2.2.2.2.2.2.2.1.2 ++ (ws_Whole g u9.2.2.2.2.2.2.2.2.1.1 u9.2.2.2.2.2.2.2.2.1.2 ++ (ws_Whole g u9.2.2.2.2.2.2.2.1.1 u9.2.2.2.2.2.2.2.1.2 ++ (ws_Whole g u9.2.2.2.2.2.2.1.1 u9.2.2.2.2.2.2.1.2 ++ (ws_Whole g u9.2.2.2.2.2.1.1 u9.2.2.2.2.2.1.2 ++ (ws_Matrix g u9.2.2.2.2.1.1 u9.2.2.2.2.1.2 ++ (ws_Calc g u9.2.2.2.1.1 u9.2.2.2.1.2 ++ (ws_Matrix g u9.2.2.1.1 u9.2.2.1.2 ++ (ws_Whole g u9.2.1.1 u9.2.1.2 ++ ([] : va_W))))))))))) ++ ([] : va_W))))) := hD
  refine W.widen (k := 51) (n := 282) (by decide) (by decide) ?_
  refine lv_dup hx hb d_Latt_init_63 rfl ?_
  have hP := pm_subP (a' := [(q60, .inr (11, [.null, .int 0, .int 0])), (h0, .inr (2, [.ref q5, .ref u9.2.2.2.1.1, .ref u9.2.2.1.1, .ref q38, .ref q49, .null, .null, .null, .null, .null, .null, .int 0])), (q5, .inr (1, [.ref u9.1, .int 0, .ref u9.2.1.1, .ref u9.2.2.1.1, .ref u9.2.2.2.1.1, .ref u9.2.2.2.2.1.1, .ref u9.2.2.2.2.2.1.1, .ref u9.2.2.2.2.2.2.1.1, .ref u9.2.2.2.2.2.2.2.1.1, .ref u9.2.2.2.2.2.2.2.2.1.1, .ref u9.2.2.2.2.2.2.2.2.2.1.1, .ref u9.2.2.2.2.2.2.2.2.2.2.1.1, .int 0, .ref u9.2.2.2.2.2.2.2.2.2.2.2, .long 0])), (u9.1, .inl (g 0, 64, .inl (fun _ => 0))), (u9.2.2.2.2.2.2.2.2.2.2.2, .inl (g 0, 16, .inl (fun _ => 0)))]) hP [4, 0, 1, 2, 3] rfl
  have hD := pm_subD (a' := [(q60, .inr (11, [.null, .int 0, .int 0])), (h0, .inr (2, [.ref q5, .ref u9.2.2.2.1.1, .ref u9.2.2.1.1, .ref q38, .ref q49, .null, .null, .null, .null, .null, .null, .int 0])), (q5, .inr (1, [.ref u9.1, .int 0, .ref u9.2.1.1, .ref u9.2.2.1.1, .ref u9.2.2.2.1.1, .ref u9.2.2.2.2.1.1, .ref u9.2.2.2.2.2.1.1, .ref u9.2.2.2.2.2.2.1.1, .ref u9.2.2.2.2.2.2.2.1.1, .ref u9.2.2.2.2.2.2.2.2.1.1, .ref u9.2.2.2.2.2.2.2.2.2.1.1, .ref u9.2.2.2.2.2.2.2.2.2.2.1.1, .int 0, .ref u9.2.2.2.2.2.2.2.2.2.2.2, .long 0])), (u9.1, .inl (g 0, 64, .inl (fun _ => 0))), (u9.2.2.2.2.2.2.2.2.2.2.2, .inl (g 0, 16, .inl (fun _ => 0)))]) hD [4, 0, 1, 2, 3] (by decide) rfl
  have hP : va_P D vC ([(q60, .inr (11, [.null, .int 0, .int 0]))] ++ ([(h0, .inr (2, [.ref q5, .ref u9.2.2.2.1.1, .ref u9.2.2.1.1, .ref q38, .ref q49, .null, .null, .null, .null, .null, .null, .int 0])), (q5, .inr (1, [.ref u9.1, .int 0, .ref u9.2.1.1, .ref u9.2.2.1.1, .ref u9.2.2.2.1.1, .ref u9.2.2.2.2.1.1, .ref u9.2.2.2.2.2.1.1, .ref u9.2.2.2.2.2.2.1.1, .ref u9.2.2.2.2.2.2.2.1.1, .ref u9.2.2.2.2.2.2.2.2.1.1, .ref u9.2.2.2.2.2.2.2.2.2.1.1, .ref u9.2.2.2.2.2.2.2.2.2.2.1.1, .int 0, .ref u9.2.2.2.2.2.2.2.2.2.2.2, .long 0])), (u9.1, .inl (g 0, 64, .inl (fun _ => 0))), (u9.2.2.2.2.2.2.2.2.2.2.2, .inl (g 0, 16, .inl (fun _ => 0)))] ++ (ws_Whole g q49 u53 ++ (ws_Whole g q38 u42 ++ ((ws_Whole g u9.2.2.2.2.2.2.2.2.2.2.1.1 u9.2.2.2.2.2.2.2.2.2.2.1.2 ++ (ws_Whole g u9.2.2.2.2.2.2.2.2.2.1.1 u9.2.2.2.2.2.2.2.2.2.1.2 ++ (ws_Whole g u9.2.2.2.2.2.2.2.2.1.1 u9.2.2.2.2.2.2.2.2.1.2 ++ (ws_Whole g u9.2.2.2.2.2.2.2.1.1 u9.2.2.2.2.2.2.2.1.2 ++ (ws_Whole g u9.2.2.2.2.2.2.1.1 u9.2.2.2.2.2.2.1.2 ++ (ws_Whole g u9.2.2.2.2.2.1.1 u9.2.2.2.2.2.1.2 ++ (ws_Matrix g u9.2.2.2.2.1.1 u9.2.2.2.2.1.2 ++ (ws_Calc g u9.2.2.2.1.1 u9.2.2.2.1.2 ++ (ws_Matrix g u9.2.2.1.1 u9.2.2.1.2 ++ (ws_Whole g u9.2.1.1 u9.2.1.2 ++ ([] : va_W))))))))))) ++ ([] : va_W)))))) H := hP
  have hD : va_D A ([(q60, .inr (11, [.null, .int 0, .int 0]))] ++ ([(h0, .inr (2, [.ref q5, .ref u9.2.2.2.1.1, .ref u9.2.2.1.1, .ref q38, .ref q49, .null, .null, .null, .null, .null, .null, .int 0])), (q5, .inr (1, [.ref u9.1, .int 0, .ref u9.2.1.1, .ref u9.2.2.1.1, .ref u9.2.2.2.1.1, .ref u9.2.2.2.2.1.1, .ref u9.2.2.2.2.2.1.1, .ref u9.2.2.2.2.2.2.1.1, .ref u9.2.2.2.2.2.2.2.1.1, .ref u9.2.2.2.2.2.2.2.2.1.1, .ref u9.2.2.2.2.2.2.2.2.2.1.1, .ref u9.2.2.2.2.2.2.2.2.2.2.1.1, .int 0, .ref u9.2.2.2.2.2.2.2.2.2.2.2, .long 0])), (u9.1, .inl (g 0, 64, .inl (fun _ => 0))), (u9.2.2.2.2.2.2.2.2.2.2.2, .inl (g 0, 16, .inl (fun _ => 0)))] ++ (ws_Whole g q49 u53 ++ (ws_Whole g q38 u42 ++ ((ws_Whole g u9.2.2.2.2.2.2.2.2.2.2.1.1 u9.2.2.2.2.2.2.2.2.2.2.1.2 ++ (ws_Whole g u9.2.2.2.2.2.2.2.2.2.1.1 u9.2.2.2.2.2.2.2.2.2.1.2 ++ (ws_Whole g u9.2.2.2.2.2.2.2.2.1.1 u9.2.2.2.2.2.2.2.2.1.2 ++ (ws_Whole g u9.2.2.2.2.2.2.2.1.1 u9.2.2.2.2.2.2.2.1.2 ++ (ws_Whole g u9.2.2.2.2.2.2.1.1 u9.2.2.2.2.2.2.1.2 ++ (ws_Whole g u9.2.2.2.2.2.1.1 u9.2.2.2.2.2.1.2 ++ (ws_Matrix g u9.2.2.2.2.1.1 u9.2.2.2.2.1.2 ++ (ws_Calc g u9.2.2.2.1.1 u9.2.2.2.1.2 ++ (ws_Matrix g u9.2.2.1.1 u9.2.2.1.2 ++ (ws_Whole g u9.2.1.1 u9.2.1.2 ++ ([] : va_W))))))))))) ++ ([] : va_W)))))) := hD
  have hFc := pm_free hD hS hA
  refine va_callv (va_runIN (As := []) (rest := [.ref q60, .ref h0]) ⟨hx, hb, hml, hown, hT⟩ (c_Whole_init l D g q60 H.size) (⟨va_cnB 0 hT gd_Whole_init rfl rfl rfl (hN.1 _ nw_500) (hT _ tw_158) (by decide +kernel) ⟨Nat.le_of_ble_eq_true rfl, Nat.le_of_ble_eq_true rfl⟩, rfl, hT _ tw_243⟩) (cp_S hP hK hD hN) rfl rfl hl.1 rfl (lv_room (Nat.le_of_ble_eq_true rfl)) d_Latt_init_64 ⟨Nat.le_of_ble_eq_true rfl, Nat.le_of_ble_eq_true rfl⟩) hS (fun q _ h => hFc q h) hFc (fun u64 t H1 locs ht1 hvm hw hB hz1 hk1 hS => ?_)
  obtain ⟨hP1, hD1⟩ := hB
  rw [ht1] at hP1
  obtain ⟨hP, hD⟩ := pm_join hP hD hk1 hFc hP1 hD1
  generalize H1 = H at hP hS ⊢
  have hP := pm_swapP hP
  have hD := pm_swapD hD
  have hP : va_P D vC ([(h0, .inr (2, [.ref q5, .ref u9.2.2.2.1.1, .ref u9.2.2.1.1, .ref q38, .ref q49, .null, .null, .null, .null, .null, .null, .int 0])), (q5, .inr (1, [.ref u9.1, .int 0, .ref u9.2.1.1, .ref u9.2.2.1.1, .ref u9.2.2.2.1.1, .ref u9.2.2.2.2.1.1, .ref u9.2.2.2.2.2.1.1, .ref u9.2.2.2.2.2.2.1.1, .ref u9.2.2.2.2.2.2.2.1.1, .ref u9.2.2.2.2.2.2.2.2.1.1, .ref u9.2.2.2.2.2.2.2.2.2.1.1, .ref u9.2.2.2.2.2.2.2.2.2.2.1.1, .int 0, .ref u9.2.2.2.2.2.2.2.2.2.2.2, .long 0])), (u9.1, .inl (g 0, 64, .inl (fun _ => 0))), (u9.2.2.2.2.2.2.2.2.2.2.2, .inl (g 0, 16, .inl (fun _ => 0)))] ++ (ws_Whole g q60 u64 ++ (ws_Whole g q49 u53 ++ (ws_Whole g q38 u42 ++ ((ws_Whole g u9.2.2.2.2.2.2.2.2.2.2.1.1 u9.2.2.2.2.2.2.2.2.2.2.1.2 ++ (ws_Whole g u9.2.2.2.2.2.2.2.2.2.1.1 u9.2.2.2.2.2.2.2.2.2.1.2 ++ (ws_Whole g u9.2.2.2.2.2.2.2.2.1.1 u9.2.2.2.2.2.2.2.2.1.2 ++ (ws_Whole g u9.2.2.2.2.2.2.2.1.1 u9.2.2.2.2.2.2.2.1.2 ++ (ws_Whole g u9.2.2.2.2.2.2.1.1 u9.2.2.2.2.2.2.1.2 ++ (ws_Whole g u9.2.2.2.2.2.1.1 u9.2.2.2.2.2.1.2 ++ (ws_Matrix g u9.2.2.2.2.1.1 u9.2.2.2.2.1.2 ++ (ws_Calc g u9.2.2.2.1.1 u9.2.2.2.1.2 ++ (ws_Matrix g u9.2.2.1.1 u9.2.2.1.2 ++ (ws_Whole g u9.2.1.1 u9.2.1.2 ++ ([] : va_W))))))))))) ++ ([] : va_W)))))) H := hP
  have hD : va_D A ([(h0, .inr (2, [.ref q5, .ref u9.2.2.2.1.1, .ref u9.2.2.1.1, .ref q38, .ref q49, .null, .null, .null, .null, .null, .null, .int 0])), (q5, .inr (1, [.ref u9.1, .int 0, .ref u9.2.1.1, .ref u9.2.2.1.1, .ref u9.2.2.2.1.1, .ref u9.2.2.2.2.1.1, .ref u9.2.2.2.2.2.1.1, .ref u9.2.2.2.2.2.2.1.1, .ref u9.2.2.2.2.2.2.2.1.1, .ref u9.2.2.2.2.2.2.2.2.1.1, .ref u9.2.2.2.2.2.2.2.2.2.1.1, .ref u9.2.2.2.2.2.2.2.2.2.2.1.1, .int 0, .ref u9.2.2.2.2.2.2.2.2.2.2.2, .long 0])), (u9.1, .inl (g 0, 64, .inl (fun _ => 0))), (u9.2.2.2.2.2.2.2.2.2.2.2, .inl (g 0, 16, .inl (fun _ => 0)))] ++ (ws_Whole g q60 u64 ++ (ws_Whole g q49 u53 ++ (ws_Whole g q38 u42 ++ ((ws_Whole g u9.2.2.2.2.2.2.2.2.2.2.1.1 u9.2.2.2.2.2.2.2.2.2.2.1.2 ++ (ws_Whole g u9.2.2.2.2.2.2.2.2.2.1.1 u9.2.2.2.2.2.2.2.2.2.1.2 ++ (ws_Whole g u9.2.2.2.2.2.2.2.2.1.1 u9.2.2.2.2.2.2.2.2.1.2 ++ (ws_Whole g u9.2.2.2.2.2.2.2.1.1 u9.2.2.2.2.2.2.2.1.2 ++ (ws_Whole g u9.2.2.2.2.2.2.1.1 u9.2.2.2.2.2.2.1.2 ++ (ws_Whole g u9.2.2.2.2.2.1.1 u9.2.2.2.2.2.1.2 ++ (ws_Matrix g u9.2.2.2.2.1.1 u9.2.2.2.2.1.2 ++ (ws_Calc g u9.2.2.2.1.1 u9.2.2.2.1.2 ++ (ws_Matrix g u9.2.2.1.1 u9.2.2.1.2 ++ (ws_Whole g u9.2.1.1 u9.2.1.2 ++ ([] : va_W))))))))))) ++ ([] : va_W)))))) := hD
  refine W.widen (k := 52) (n := 285) (by decide) (by decide) ?_
  refine va_putF (D := D) (ci := 2) (v := .ref q60) (ty := .object "MatrixScripts$Whole") (C := "MatrixScripts$Lattices") (T := T_Latt) (N := 12) hx hb hT in_Latt ty_Latt ty_Latt_ok nm_Latt hown hK hP hD hS 0 rfl rfl 5 (by decide) (hT _ tw_507) (fun _ h9 => h9) rfl hin rfl (by decide +kernel) rfl rfl (Nat.le_of_ble_eq_true rfl) d_Latt_init_67 (fun H locs hP hD hS => ?_)
  have hP : va_P D vC ([(h0, .inr (2, [.ref q5, .ref u9.2.2.2.1.1, .ref u9.2.2.1.1, .ref q38, .ref q49, .ref q60, .null, .null, .null, .null, .null, .int 0])), (q5, .inr (1, [.ref u9.1, .int 0, .ref u9.2.1.1, .ref u9.2.2.1.1, .ref u9.2.2.2.1.1, .ref u9.2.2.2.2.1.1, .ref u9.2.2.2.2.2.1.1, .ref u9.2.2.2.2.2.2.1.1, .ref u9.2.2.2.2.2.2.2.1.1, .ref u9.2.2.2.2.2.2.2.2.1.1, .ref u9.2.2.2.2.2.2.2.2.2.1.1, .ref u9.2.2.2.2.2.2.2.2.2.2.1.1, .int 0, .ref u9.2.2.2.2.2.2.2.2.2.2.2, .long 0])), (u9.1, .inl (g 0, 64, .inl (fun _ => 0))), (u9.2.2.2.2.2.2.2.2.2.2.2, .inl (g 0, 16, .inl (fun _ => 0)))] ++ (ws_Whole g q60 u64 ++ (ws_Whole g q49 u53 ++ (ws_Whole g q38 u42 ++ ((ws_Whole g u9.2.2.2.2.2.2.2.2.2.2.1.1 u9.2.2.2.2.2.2.2.2.2.2.1.2 ++ (ws_Whole g u9.2.2.2.2.2.2.2.2.2.1.1 u9.2.2.2.2.2.2.2.2.2.1.2 ++ (ws_Whole g u9.2.2.2.2.2.2.2.2.1.1 u9.2.2.2.2.2.2.2.2.1.2 ++ (ws_Whole g u9.2.2.2.2.2.2.2.1.1 u9.2.2.2.2.2.2.2.1.2 ++ (ws_Whole g u9.2.2.2.2.2.2.1.1 u9.2.2.2.2.2.2.1.2 ++ (ws_Whole g u9.2.2.2.2.2.1.1 u9.2.2.2.2.2.1.2 ++ (ws_Matrix g u9.2.2.2.2.1.1 u9.2.2.2.2.1.2 ++ (ws_Calc g u9.2.2.2.1.1 u9.2.2.2.1.2 ++ (ws_Matrix g u9.2.2.1.1 u9.2.2.1.2 ++ (ws_Whole g u9.2.1.1 u9.2.1.2 ++ ([] : va_W))))))))))) ++ ([] : va_W)))))) H := hP
  have hD : va_D A ([(h0, .inr (2, [.ref q5, .ref u9.2.2.2.1.1, .ref u9.2.2.1.1, .ref q38, .ref q49, .ref q60, .null, .null, .null, .null, .null, .int 0])), (q5, .inr (1, [.ref u9.1, .int 0, .ref u9.2.1.1, .ref u9.2.2.1.1, .ref u9.2.2.2.1.1, .ref u9.2.2.2.2.1.1, .ref u9.2.2.2.2.2.1.1, .ref u9.2.2.2.2.2.2.1.1, .ref u9.2.2.2.2.2.2.2.1.1, .ref u9.2.2.2.2.2.2.2.2.1.1, .ref u9.2.2.2.2.2.2.2.2.2.1.1, .ref u9.2.2.2.2.2.2.2.2.2.2.1.1, .int 0, .ref u9.2.2.2.2.2.2.2.2.2.2.2, .long 0])), (u9.1, .inl (g 0, 64, .inl (fun _ => 0))), (u9.2.2.2.2.2.2.2.2.2.2.2, .inl (g 0, 16, .inl (fun _ => 0)))] ++ (ws_Whole g q60 u64 ++ (ws_Whole g q49 u53 ++ (ws_Whole g q38 u42 ++ ((ws_Whole g u9.2.2.2.2.2.2.2.2.2.2.1.1 u9.2.2.2.2.2.2.2.2.2.2.1.2 ++ (ws_Whole g u9.2.2.2.2.2.2.2.2.2.1.1 u9.2.2.2.2.2.2.2.2.2.1.2 ++ (ws_Whole g u9.2.2.2.2.2.2.2.2.1.1 u9.2.2.2.2.2.2.2.2.1.2 ++ (ws_Whole g u9.2.2.2.2.2.2.2.1.1 u9.2.2.2.2.2.2.2.1.2 ++ (ws_Whole g u9.2.2.2.2.2.2.1.1 u9.2.2.2.2.2.2.1.2 ++ (ws_Whole g u9.2.2.2.2.2.1.1 u9.2.2.2.2.2.1.2 ++ (ws_Matrix g u9.2.2.2.2.1.1 u9.2.2.2.2.1.2 ++ (ws_Calc g u9.2.2.2.1.1 u9.2.2.2.1.2 ++ (ws_Matrix g u9.2.2.1.1 u9.2.2.1.2 ++ (ws_Whole g u9.2.1.1 u9.2.1.2 ++ ([] : va_W))))))))))) ++ ([] : va_W)))))) := hD
  refine lv_aload_n hx hb d_Latt_init_70 rfl (lv_at hl 0 rfl) ?_
  refine pm_new (D := D) (ci := 11) (fs := [.null, .int 0, .int 0]) (C := "MatrixScripts$Whole") (T := T_Whole) (N := 3) hx hb hT in_Whole ty_Whole ty_Whole_ok hown (hT _ tw_499) (hT _ tw_241) (hT _ tw_158) hK hP hD hS hA rfl (by decide) (Nat.le_of_ble_eq_true rfl) (Nat.le_of_ble_eq_true rfl) d_Latt_init_71 (fun q71 H hP hD hS => ?_)
  have hP : va_P D vC ([(h0, .inr (2, [.ref q5, .ref u9.2.2.2.1.1, .ref u9.2.2.1.1, .ref q38, .ref q49, .ref q60, .null, .null, .null, .null, .null, .int 0])), (q5, .inr (1, [.ref u9.1, .int 0, .ref u9.2.1.1, .ref u9.2.2.1.1, .ref u9.2.2.2.1.1, .ref u9.2.2.2.2.1.1, .ref u9.2.2.2.2.2.1.1, .ref u9.2.2.2.2.2.2.1.1, .ref u9.2.2.2.2.2.2.2.1.1, .ref u9.2.2.2.2.2.2.2.2.1.1, .ref u9.2.2.2.2.2.2.2.2.2.1.1, .ref u9.2.2.2.2.2.2.2.2.2.2.1.1, .int 0, .ref u9.2.2.2.2.2.2.2.2.2.2.2, .long 0])), (u9.1, .inl (g 0, 64, .inl (fun _ => 0))), (u9.2.2.2.2.2.2.2.2.2.2.2, .inl (g 0, 16, .inl (fun _ => 0))), (q71, .inr (11, [.null, .int 0, .int 0]))] ++ (ws_Whole g q60 u64 ++ (ws_Whole g q49 u53 ++ (ws_Whole g q38 u42 ++ ((ws_Whole g u9.2.2.2.2.2.2.2.2.2.2.1.1 u9.2.2.2.2.2.2.2.2.2.2.1.2 ++ (ws_Whole g u9.2.2.2.2.2.2.2.2.2.1.1 u9.2.2.2.2.2.2.2.2.2.1.2 ++ (ws_Whole g u9.2.2.2.2.2.2.2.2.1.1 u9.2.2.2.2.2.2.2.2.1.2 ++ (ws_Whole g u9.2.2.2.2.2.2.2.1.1 u9.2.2.2.2.2.2.2.1.2 ++ (ws_Whole g u9.2.2.2.2.2.2.1.1 u9.2.2.2.2.2.2.1.2 ++ (ws_Whole g u9.2.2.2.2.2.1.1 u9.2.2.2.2.2.1.2 ++ (ws_Matrix g u9.2.2.2.2.1.1 u9.2.2.2.2.1.2 ++ (ws_Calc g u9.2.2.2.1.1 u9.2.2.2.1.2 ++ (ws_Matrix g u9.2.2.1.1 u9.2.2.1.2 ++ (ws_Whole g u9.2.1.1 u9.2.1.2 ++ ([] : va_W))))))))))) ++ ([] : va_W)))))) H := hP
  have hD : va_D A ([(h0, .inr (2, [.ref q5, .ref u9.2.2.2.1.1, .ref u9.2.2.1.1, .ref q38, .ref q49, .ref q60, .null, .null, .null, .null, .null, .int 0])), (q5, .inr (1, [.ref u9.1, .int 0, .ref u9.2.1.1, .ref u9.2.2.1.1, .ref u9.2.2.2.1.1, .ref u9.2.2.2.2.1.1, .ref u9.2.2.2.2.2.1.1, .ref u9.2.2.2.2.2.2.1.1, .ref u9.2.2.2.2.2.2.2.1.1, .ref u9.2.2.2.2.2.2.2.2.1.1, .ref u9.2.2.2.2.2.2.2.2.2.1.1, .ref u9.2.2.2.2.2.2.2.2.2.2.1.1, .int 0, .ref u9.2.2.2.2.2.2.2.2.2.2.2, .long 0])), (u9.1, .inl (g 0, 64, .inl (fun _ => 0))), (u9.2.2.2.2.2.2.2.2.2.2.2, .inl (g 0, 16, .inl (fun _ => 0))), (q71, .inr (11, [.null, .int 0, .int 0]))] ++ (ws_Whole g q60 u64 ++ (ws_Whole g q49 u53 ++ (ws_Whole g q38 u42 ++ ((ws_Whole g u9.2.2.2.2.2.2.2.2.2.2.1.1 u9.2.2.2.2.2.2.2.2.2.2.1.2 ++ (ws_Whole g u9.2.2.2.2.2.2.2.2.2.1.1 u9.2.2.2.2.2.2.2.2.2.1.2 ++ (ws_Whole g u9.2.2.2.2.2.2.2.2.1.1 u9.2.2.2.2.2.2.2.2.1.2 ++ (ws_Whole g u9.2.2.2.2.2.2.2.1.1 u9.2.2.2.2.2.2.2.1.2 ++ (ws_Whole g u9.2.2.2.2.2.2.1.1 u9.2.2.2.2.2.2.1.2 ++ (ws_Whole g u9.2.2.2.2.2.1.1 u9.2.2.2.2.2.1.2 ++ (ws_Matrix g u9.2.2.2.2.1.1 u9.2.2.2.2.1.2 ++ (ws_Calc g u9.2.2.2.1.1 u9.2.2.2.1.2 ++ (ws_Matrix g u9.2.2.1.1 u9.2.2.1.2 ++ (ws_Whole g u9.2.1.1 u9.2.1.2 ++ ([] : va_W))))))))))) ++ ([] : va_W)))))) := hD
  refine W.widen (k := 53) (n := 288) (by decide) (by decide) ?_
  refine lv_dup hx hb d_Latt_init_74 rfl ?_
  have hP := pm_subP (a' := [(q71, .inr (11, [.null, .int 0, .int 0])), (h0, .inr (2, [.ref q5, .ref u9.2.2.2.1.1, .ref u9.2.2.1.1, .ref q38, .ref q49, .ref q60, .null, .null, .null, .null, .null, .int 0])), (q5, .inr (1, [.ref u9.1, .int 0, .ref u9.2.1.1, .ref u9.2.2.1.1, .ref u9.2.2.2.1.1, .ref u9.2.2.2.2.1.1, .ref u9.2.2.2.2.2.1.1, .ref u9.2.2.2.2.2.2.1.1, .ref u9.2.2.2.2.2.2.2.1.1, .ref u9.2.2.2.2.2.2.2.2.1.1, .ref u9.2.2.2.2.2.2.2.2.2.1.1, .ref u9.2.2.2.2.2.2.2.2.2.2.1.1, .int 0, .ref u9.2.2.2.2.2.2.2.2.2.2.2, .long 0])), (u9.1, .inl (g 0, 64, .inl (fun _ => 0))), (u9.2.2.2.2.2.2.2.2.2.2.2, .inl (g 0, 16, .inl (fun _ => 0)))]) hP [4, 0, 1, 2, 3] rfl
  have hD := pm_subD (a' := [(q71, .inr (11, [.null, .int 0, .int 0])), (h0, .inr (2, [.ref q5, .ref u9.2.2.2.1.1, .ref u9.2.2.1.1, .ref q38, .ref q49, .ref q60, .null, .null, .null, .null, .null, .int 0])), (q5, .inr (1, [.ref u9.1, .int 0, .ref u9.2.1.1, .ref u9.2.2.1.1, .ref u9.2.2.2.1.1, .ref u9.2.2.2.2.1.1, .ref u9.2.2.2.2.2.1.1, .ref u9.2.2.2.2.2.2.1.1, .ref u9.2.2.2.2.2.2.2.1.1, .ref u9.2.2.2.2.2.2.2.2.1.1, .ref u9.2.2.2.2.2.2.2.2.2.1.1, .ref u9.2.2.2.2.2.2.2.2.2.2.1.1, .int 0, .ref u9.2.2.2.2.2.2.2.2.2.2.2, .long 0])), (u9.1, .inl (g 0, 64, .inl (fun _ => 0))), (u9.2.2.2.2.2.2.2.2.2.2.2, .inl (g 0, 16, .inl (fun _ => 0)))]) hD [4, 0, 1, 2, 3] (by decide) rfl
  have hP : va_P D vC ([(q71, .inr (11, [.null, .int 0, .int 0]))] ++ ([(h0, .inr (2, [.ref q5, .ref u9.2.2.2.1.1, .ref u9.2.2.1.1, .ref q38, .ref q49, .ref q60, .null, .null, .null, .null, .null, .int 0])), (q5, .inr (1, [.ref u9.1, .int 0, .ref u9.2.1.1, .ref u9.2.2.1.1, .ref u9.2.2.2.1.1, .ref u9.2.2.2.2.1.1, .ref u9.2.2.2.2.2.1.1, .ref u9.2.2.2.2.2.2.1.1, .ref u9.2.2.2.2.2.2.2.1.1, .ref u9.2.2.2.2.2.2.2.2.1.1, .ref u9.2.2.2.2.2.2.2.2.2.1.1, .ref u9.2.2.2.2.2.2.2.2.2.2.1.1, .int 0, .ref u9.2.2.2.2.2.2.2.2.2.2.2, .long 0])), (u9.1, .inl (g 0, 64, .inl (fun _ => 0))), (u9.2.2.2.2.2.2.2.2.2.2.2, .inl (g 0, 16, .inl (fun _ => 0)))] ++ (ws_Whole g q60 u64 ++ (ws_Whole g q49 u53 ++ (ws_Whole g q38 u42 ++ ((ws_Whole g u9.2.2.2.2.2.2.2.2.2.2.1.1 u9.2.2.2.2.2.2.2.2.2.2.1.2 ++ (ws_Whole g u9.2.2.2.2.2.2.2.2.2.1.1 u9.2.2.2.2.2.2.2.2.2.1.2 ++ (ws_Whole g u9.2.2.2.2.2.2.2.2.1.1 u9.2.2.2.2.2.2.2.2.1.2 ++ (ws_Whole g u9.2.2.2.2.2.2.2.1.1 u9.2.2.2.2.2.2.2.1.2 ++ (ws_Whole g u9.2.2.2.2.2.2.1.1 u9.2.2.2.2.2.2.1.2 ++ (ws_Whole g u9.2.2.2.2.2.1.1 u9.2.2.2.2.2.1.2 ++ (ws_Matrix g u9.2.2.2.2.1.1 u9.2.2.2.2.1.2 ++ (ws_Calc g u9.2.2.2.1.1 u9.2.2.2.1.2 ++ (ws_Matrix g u9.2.2.1.1 u9.2.2.1.2 ++ (ws_Whole g u9.2.1.1 u9.2.1.2 ++ ([] : va_W))))))))))) ++ ([] : va_W))))))) H := hP
  have hD : va_D A ([(q71, .inr (11, [.null, .int 0, .int 0]))] ++ ([(h0, .inr (2, [.ref q5, .ref u9.2.2.2.1.1, .ref u9.2.2.1.1, .ref q38, .ref q49, .ref q60, .null, .null, .null, .null, .null, .int 0])), (q5, .inr (1, [.ref u9.1, .int 0, .ref u9.2.1.1, .ref u9.2.2.1.1, .ref u9.2.2.2.1.1, .ref u9.2.2.2.2.1.1, .ref u9.2.2.2.2.2.1.1, .ref u9.2.2.2.2.2.2.1.1, .ref u9.2.2.2.2.2.2.2.1.1, .ref u9.2.2.2.2.2.2.2.2.1.1, .ref u9.2.2.2.2.2.2.2.2.2.1.1, .ref u9.2.2.2.2.2.2.2.2.2.2.1.1, .int 0, .ref u9.2.2.2.2.2.2.2.2.2.2.2, .long 0])), (u9.1, .inl (g 0, 64, .inl (fun _ => 0))), (u9.2.2.2.2.2.2.2.2.2.2.2, .inl (g 0, 16, .inl (fun _ => 0)))] ++ (ws_Whole g q60 u64 ++ (ws_Whole g q49 u53 ++ (ws_Whole g q38 u42 ++ ((ws_Whole g u9.2.2.2.2.2.2.2.2.2.2.1.1 u9.2.2.2.2.2.2.2.2.2.2.1.2 ++ (ws_Whole g u9.2.2.2.2.2.2.2.2.2.1.1 u9.2.2.2.2.2.2.2.2.2.1.2 ++ (ws_Whole g u9.2.2.2.2.2.2.2.2.1.1 u9.2.2.2.2.2.2.2.2.1.2 ++ (ws_Whole g u9.2.2.2.2.2.2.2.1.1 u9.2.2.2.2.2.2.2.1.2 ++ (ws_Whole g u9.2.2.2.2.2.2.1.1 u9.2.2.2.2.2.2.1.2 ++ (ws_Whole g u9.2.2.2.2.2.1.1 u9.2.2.2.2.2.1.2 ++ (ws_Matrix g u9.2.2.2.2.1.1 u9.2.2.2.2.1.2 ++ (ws_Calc g u9.2.2.2.1.1 u9.2.2.2.1.2 ++ (ws_Matrix g u9.2.2.1.1 u9.2.2.1.2 ++ (ws_Whole g u9.2.1.1 u9.2.1.2 ++ ([] : va_W))))))))))) ++ ([] : va_W))))))) := hD
  have hFc := pm_free hD hS hA
  refine va_callv (va_runIN (As := []) (rest := [.ref q71, .ref h0]) ⟨hx, hb, hml, hown, hT⟩ (c_Whole_init l D g q71 H.size) (⟨va_cnB 0 hT gd_Whole_init rfl rfl rfl (hN.1 _ nw_500) (hT _ tw_158) (by decide +kernel) ⟨Nat.le_of_ble_eq_true rfl, Nat.le_of_ble_eq_true rfl⟩, rfl, hT _ tw_243⟩) (cp_S hP hK hD hN) rfl rfl hl.1 rfl (lv_room (Nat.le_of_ble_eq_true rfl)) d_Latt_init_75 ⟨Nat.le_of_ble_eq_true rfl, Nat.le_of_ble_eq_true rfl⟩) hS (fun q _ h => hFc q h) hFc (fun u75 t H1 locs ht1 hvm hw hB hz1 hk1 hS => ?_)
  obtain ⟨hP1, hD1⟩ := hB
  rw [ht1] at hP1
  obtain ⟨hP, hD⟩ := pm_join hP hD hk1 hFc hP1 hD1
  generalize H1 = H at hP hS ⊢
  have hP := pm_swapP hP
  have hD := pm_swapD hD
  have hP : va_P D vC ([(h0, .inr (2, [.ref q5, .ref u9.2.2.2.1.1, .ref u9.2.2.1.1, .ref q38, .ref q49, .ref q60, .null, .null, .null, .null, .null, .int 0])), (q5, .inr (1, [.ref u9.1, .int 0, .ref u9.2.1.1, .ref u9.2.2.1.1, .ref u9.2.2.2.1.1, .ref u9.2.2.2.2.1.1, .ref u9.2.2.2.2.2.1.1, .ref u9.2.2.2.2.2.2.1.1, .ref u9.2.2.2.2.2.2.2.1.1, .ref u9.2.2.2.2.2.2.2.2.1.1, .ref u9.2.2.2.2.2.2.2.2.2.1.1, .ref u9.2.2.2.2.2.2.2.2.2.2.1.1, .int 0, .ref u9.2.2.2.2.2.2.2.2.2.2.2, .long 0])), (u9.1, .inl (g 0, 64, .inl (fun _ => 0))), (u9.2.2.2.2.2.2.2.2.2.2.2, .inl (g 0, 16, .inl (fun _ => 0)))] ++ (ws_Whole g q71 u75 ++ (ws_Whole g q60 u64 ++ (ws_Whole g q49 u53 ++ (ws_Whole g q38 u42 ++ ((ws_Whole g u9.2.2.2.2.2.2.2.2.2.2.1.1 u9.2.2.2.2.2.2.2.2.2.2.1.2 ++ (ws_Whole g u9.2.2.2.2.2.2.2.2.2.1.1 u9.2.2.2.2.2.2.2.2.2.1.2 ++ (ws_Whole g u9.2.2.2.2.2.2.2.2.1.1 u9.2.2.2.2.2.2.2.2.1.2 ++ (ws_Whole g u9.2.2.2.2.2.2.2.1.1 u9.2.2.2.2.2.2.2.1.2 ++ (ws_Whole g u9.2.2.2.2.2.2.1.1 u9.2.2.2.2.2.2.1.2 ++ (ws_Whole g u9.2.2.2.2.2.1.1 u9.2.2.2.2.2.1.2 ++ (ws_Matrix g u9.2.2.2.2.1.1 u9.2.2.2.2.1.2 ++ (ws_Calc g u9.2.2.2.1.1 u9.2.2.2.1.2 ++ (ws_Matrix g u9.2.2.1.1 u9.2.2.1.2 ++ (ws_Whole g u9.2.1.1 u9.2.1.2 ++ ([] : va_W))))))))))) ++ ([] : va_W))))))) H := hP
  have hD : va_D A ([(h0, .inr (2, [.ref q5, .ref u9.2.2.2.1.1, .ref u9.2.2.1.1, .ref q38, .ref q49, .ref q60, .null, .null, .null, .null, .null, .int 0])), (q5, .inr (1, [.ref u9.1, .int 0, .ref u9.2.1.1, .ref u9.2.2.1.1, .ref u9.2.2.2.1.1, .ref u9.2.2.2.2.1.1, .ref u9.2.2.2.2.2.1.1, .ref u9.2.2.2.2.2.2.1.1, .ref u9.2.2.2.2.2.2.2.1.1, .ref u9.2.2.2.2.2.2.2.2.1.1, .ref u9.2.2.2.2.2.2.2.2.2.1.1, .ref u9.2.2.2.2.2.2.2.2.2.2.1.1, .int 0, .ref u9.2.2.2.2.2.2.2.2.2.2.2, .long 0])), (u9.1, .inl (g 0, 64, .inl (fun _ => 0))), (u9.2.2.2.2.2.2.2.2.2.2.2, .inl (g 0, 16, .inl (fun _ => 0)))] ++ (ws_Whole g q71 u75 ++ (ws_Whole g q60 u64 ++ (ws_Whole g q49 u53 ++ (ws_Whole g q38 u42 ++ ((ws_Whole g u9.2.2.2.2.2.2.2.2.2.2.1.1 u9.2.2.2.2.2.2.2.2.2.2.1.2 ++ (ws_Whole g u9.2.2.2.2.2.2.2.2.2.1.1 u9.2.2.2.2.2.2.2.2.2.1.2 ++ (ws_Whole g u9.2.2.2.2.2.2.2.2.1.1 u9.2.2.2.2.2.2.2.2.1.2 ++ (ws_Whole g u9.2.2.2.2.2.2.2.1.1 u9.2.2.2.2.2.2.2.1.2 ++ (ws_Whole g u9.2.2.2.2.2.2.1.1 u9.2.2.2.2.2.2.1.2 ++ (ws_Whole g u9.2.2.2.2.2.1.1 u9.2.2.2.2.2.1.2 ++ (ws_Matrix g u9.2.2.2.2.1.1 u9.2.2.2.2.1.2 ++ (ws_Calc g u9.2.2.2.1.1 u9.2.2.2.1.2 ++ (ws_Matrix g u9.2.2.1.1 u9.2.2.1.2 ++ (ws_Whole g u9.2.1.1 u9.2.1.2 ++ ([] : va_W))))))))))) ++ ([] : va_W))))))) := hD
  refine W.widen (k := 54) (n := 291) (by decide) (by decide) ?_
  refine va_putF (D := D) (ci := 2) (v := .ref q71) (ty := .object "MatrixScripts$Whole") (C := "MatrixScripts$Lattices") (T := T_Latt) (N := 12) hx hb hT in_Latt ty_Latt ty_Latt_ok nm_Latt hown hK hP hD hS 0 rfl rfl 6 (by decide) (hT _ tw_508) (fun _ h9 => h9) rfl hin rfl (by decide +kernel) rfl rfl (Nat.le_of_ble_eq_true rfl) d_Latt_init_78 (fun H locs hP hD hS => ?_)
  have hP : va_P D vC ([(h0, .inr (2, [.ref q5, .ref u9.2.2.2.1.1, .ref u9.2.2.1.1, .ref q38, .ref q49, .ref q60, .ref q71, .null, .null, .null, .null, .int 0])), (q5, .inr (1, [.ref u9.1, .int 0, .ref u9.2.1.1, .ref u9.2.2.1.1, .ref u9.2.2.2.1.1, .ref u9.2.2.2.2.1.1, .ref u9.2.2.2.2.2.1.1, .ref u9.2.2.2.2.2.2.1.1, .ref u9.2.2.2.2.2.2.2.1.1, .ref u9.2.2.2.2.2.2.2.2.1.1, .ref u9.2.2.2.2.2.2.2.2.2.1.1, .ref u9.2.2.2.2.2.2.2.2.2.2.1.1, .int 0, .ref u9.2.2.2.2.2.2.2.2.2.2.2, .long 0])), (u9.1, .inl (g 0, 64, .inl (fun _ => 0))), (u9.2.2.2.2.2.2.2.2.2.2.2, .inl (g 0, 16, .inl (fun _ => 0)))] ++ (ws_Whole g q71 u75 ++ (ws_Whole g q60 u64 ++ (ws_Whole g q49 u53 ++ (ws_Whole g q38 u42 ++ ((ws_Whole g u9.2.2.2.2.2.2.2.2.2.2.1.1 u9.2.2.2.2.2.2.2.2.2.2.1.2 ++ (ws_Whole g u9.2.2.2.2.2.2.2.2.2.1.1 u9.2.2.2.2.2.2.2.2.2.1.2 ++ (ws_Whole g u9.2.2.2.2.2.2.2.2.1.1 u9.2.2.2.2.2.2.2.2.1.2 ++ (ws_Whole g u9.2.2.2.2.2.2.2.1.1 u9.2.2.2.2.2.2.2.1.2 ++ (ws_Whole g u9.2.2.2.2.2.2.1.1 u9.2.2.2.2.2.2.1.2 ++ (ws_Whole g u9.2.2.2.2.2.1.1 u9.2.2.2.2.2.1.2 ++ (ws_Matrix g u9.2.2.2.2.1.1 u9.2.2.2.2.1.2 ++ (ws_Calc g u9.2.2.2.1.1 u9.2.2.2.1.2 ++ (ws_Matrix g u9.2.2.1.1 u9.2.2.1.2 ++ (ws_Whole g u9.2.1.1 u9.2.1.2 ++ ([] : va_W))))))))))) ++ ([] : va_W))))))) H := hP
  have hD : va_D A ([(h0, .inr (2, [.ref q5, .ref u9.2.2.2.1.1, .ref u9.2.2.1.1, .ref q38, .ref q49, .ref q60, .ref q71, .null, .null, .null, .null, .int 0])), (q5, .inr (1, [.ref u9.1, .int 0, .ref u9.2.1.1, .ref u9.2.2.1.1, .ref u9.2.2.2.1.1, .ref u9.2.2.2.2.1.1, .ref u9.2.2.2.2.2.1.1, .ref u9.2.2.2.2.2.2.1.1, .ref u9.2.2.2.2.2.2.2.1.1, .ref u9.2.2.2.2.2.2.2.2.1.1, .ref u9.2.2.2.2.2.2.2.2.2.1.1, .ref u9.2.2.2.2.2.2.2.2.2.2.1.1, .int 0, .ref u9.2.2.2.2.2.2.2.2.2.2.2, .long 0])), (u9.1, .inl (g 0, 64, .inl (fun _ => 0))), (u9.2.2.2.2.2.2.2.2.2.2.2, .inl (g 0, 16, .inl (fun _ => 0)))] ++ (ws_Whole g q71 u75 ++ (ws_Whole g q60 u64 ++ (ws_Whole g q49 u53 ++ (ws_Whole g q38 u42 ++ ((ws_Whole g u9.2.2.2.2.2.2.2.2.2.2.1.1 u9.2.2.2.2.2.2.2.2.2.2.1.2 ++ (ws_Whole g u9.2.2.2.2.2.2.2.2.2.1.1 u9.2.2.2.2.2.2.2.2.2.1.2 ++ (ws_Whole g u9.2.2.2.2.2.2.2.2.1.1 u9.2.2.2.2.2.2.2.2.1.2 ++ (ws_Whole g u9.2.2.2.2.2.2.2.1.1 u9.2.2.2.2.2.2.2.1.2 ++ (ws_Whole g u9.2.2.2.2.2.2.1.1 u9.2.2.2.2.2.2.1.2 ++ (ws_Whole g u9.2.2.2.2.2.1.1 u9.2.2.2.2.2.1.2 ++ (ws_Matrix g u9.2.2.2.2.1.1 u9.2.2.2.2.1.2 ++ (ws_Calc g u9.2.2.2.1.1 u9.2.2.2.1.2 ++ (ws_Matrix g u9.2.2.1.1 u9.2.2.1.2 ++ (ws_Whole g u9.2.1.1 u9.2.1.2 ++ ([] : va_W))))))))))) ++ ([] : va_W))))))) := hD
  refine lv_aload_n hx hb d_Latt_init_81 rfl (lv_at hl 0 rfl) ?_
  refine pm_new (D := D) (ci := 11) (fs := [.null, .int 0, .int 0]) (C := "MatrixScripts$Whole") (T := T_Whole) (N := 3) hx hb hT in_Whole ty_Whole ty_Whole_ok hown (hT _ tw_499) (hT _ tw_241) (hT _ tw_158) hK hP hD hS hA rfl (by decide) (Nat.le_of_ble_eq_true rfl) (Nat.le_of_ble_eq_true rfl) d_Latt_init_82 (fun q82 H hP hD hS => ?_)
  have hP : va_P D vC ([(h0, .inr (2, [.ref q5, .ref u9.2.2.2.1.1, .ref u9.2.2.1.1, .ref q38, .ref q49, .ref q60, .ref q71, .null, .null, .null, .null, .int 0])), (q5, .inr (1, [.ref u9.1, .int 0, .ref u9.2.1.1, .ref u9.2.2.1.1, .ref u9.2.2.2.1.1, .ref u9.2.2.2.2.1.1, .ref u9.2.2.2.2.2.1.1, .ref u9.2.2.2.2.2.2.1.1, .ref u9.2.2.2.2.2.2.2.1.1, .ref u9.2.2.2.2.2.2.2.2.1.1, .ref u9.2.2.2.2.2.2.2.2.2.1.1, .ref u9.2.2.2.2.2.2.2.2.2.2.1.1, .int 0, .ref u9.2.2.2.2.2.2.2.2.2.2.2, .long 0])), (u9.1, .inl (g 0, 64, .inl (fun _ => 0))), (u9.2.2.2.2.2.2.2.2.2.2.2, .inl (g 0, 16, .inl (fun _ => 0))), (q82, .inr (11, [.null, .int 0, .int 0]))] ++ (ws_Whole g q71 u75 ++ (ws_Whole g q60 u64 ++ (ws_Whole g q49 u53 ++ (ws_Whole g q38 u42 ++ ((ws_Whole g u9.2.2.2.2.2.2.2.2.2.2.1.1 u9.2.2.2.2.2.2.2.2.2.2.1.2 ++ (ws_Whole g u9.2.2.2.2.2.2.2.2.2.1.1 u9.2.2.2.2.2.2.2.2.2.1.2 ++ (ws_Whole g u9.2.2.2.2.2.2.2.2.1.1 u9.2.2.2.2.2.2.2.2.1.2 ++ (ws_Whole g u9.2.2.2.2.2.2.2.1.1 u9.2.2.2.2.2.2.2.1.2 ++ (ws_Whole g u9.2.2.2.2.2.2.1.1 u9.2.2.2.2.2.2.1.2 ++ (ws_Whole g u9.2.2.2.2.2.1.1 u9.2.2.2.2.2.1.2 ++ (ws_Matrix g u9.2.2.2.2.1.1 u9.2.2.2.2.1.2 ++ (ws_Calc g u9.2.2.2.1.1 u9.2.2.2.1.2 ++ (ws_Matrix g u9.2.2.1.1 u9.2.2.1.2 ++ (ws_Whole g u9.2.1.1 u9.2.1.2 ++ ([] : va_W))))))))))) ++ ([] : va_W))))))) H := hP
  have hD : va_D A ([(h0, .inr (2, [.ref q5, .ref u9.2.2.2.1.1, .ref u9.2.2.1.1, .ref q38, .ref q49, .ref q60, .ref q71, .null, .null, .null, .null, .int 0])), (q5, .inr (1, [.ref u9.1, .int 0, .ref u9.2.1.1, .ref u9.2.2.1.1, .ref u9.2.2.2.1.1, .ref u9.2.2.2.2.1.1, .ref u9.2.2.2.2.2.1.1, .ref u9.2.2.2.2.2.2.1.1, .ref u9.2.2.2.2.2.2.2.1.1, .ref u9.2.2.2.2.2.2.2.2.1.1, .ref u9.2.2.2.2.2.2.2.2.2.1.1, .ref u9.2.2.2.2.2.2.2.2.2.2.1.1, .int 0, .ref u9.2.2.2.2.2.2.2.2.2.2.2, .long 0])), (u9.1, .inl (g 0, 64, .inl (fun _ => 0))), (u9.2.2.2.2.2.2.2.2.2.2.2, .inl (g 0, 16, .inl (fun _ => 0))), (q82, .inr (11, [.null, .int 0, .int 0]))] ++ (ws_Whole g q71 u75 ++ (ws_Whole g q60 u64 ++ (ws_Whole g q49 u53 ++ (ws_Whole g q38 u42 ++ ((ws_Whole g u9.2.2.2.2.2.2.2.2.2.2.1.1 u9.2.2.2.2.2.2.2.2.2.2.1.2 ++ (ws_Whole g u9.2.2.2.2.2.2.2.2.2.1.1 u9.2.2.2.2.2.2.2.2.2.1.2 ++ (ws_Whole g u9.2.2.2.2.2.2.2.2.1.1 u9.2.2.2.2.2.2.2.2.1.2 ++ (ws_Whole g u9.2.2.2.2.2.2.2.1.1 u9.2.2.2.2.2.2.2.1.2 ++ (ws_Whole g u9.2.2.2.2.2.2.1.1 u9.2.2.2.2.2.2.1.2 ++ (ws_Whole g u9.2.2.2.2.2.1.1 u9.2.2.2.2.2.1.2 ++ (ws_Matrix g u9.2.2.2.2.1.1 u9.2.2.2.2.1.2 ++ (ws_Calc g u9.2.2.2.1.1 u9.2.2.2.1.2 ++ (ws_Matrix g u9.2.2.1.1 u9.2.2.1.2 ++ (ws_Whole g u9.2.1.1 u9.2.1.2 ++ ([] : va_W))))))))))) ++ ([] : va_W))))))) := hD
  refine W.widen (k := 55) (n := 294) (by decide) (by decide) ?_
  refine lv_dup hx hb d_Latt_init_85 rfl ?_
  have hP := pm_subP (a' := [(q82, .inr (11, [.null, .int 0, .int 0])), (h0, .inr (2, [.ref q5, .ref u9.2.2.2.1.1, .ref u9.2.2.1.1, .ref q38, .ref q49, .ref q60, .ref q71, .null, .null, .null, .null, .int 0])), (q5, .inr (1, [.ref u9.1, .int 0, .ref u9.2.1.1, .ref u9.2.2.1.1, .ref u9.2.2.2.1.1, .ref u9.2.2.2.2.1.1, .ref u9.2.2.2.2.2.1.1, .ref u9.2.2.2.2.2.2.1.1, .ref u9.2.2.2.2.2.2.2.1.1, .ref u9.2.2.2.2.2.2.2.2.1.1, .ref u9.2.2.2.2.2.2.2.2.2.1.1, .ref u9.2.2.2.2.2.2.2.2.2.2.1.1, .int 0, .ref u9.2.2.2.2.2.2.2.2.2.2.2, .long 0])), (u9.1, .inl (g 0, 64, .inl (fun _ => 0))), (u9.2.2.2.2.2.2.2.2.2.2.2, .inl (g 0, 16, .inl (fun _ => 0)))]) hP [4, 0, 1, 2, 3] rfl
  have hD := pm_subD (a' := [(q82, .inr (11, [.null, .int 0, .int 0])), (h0, .inr (2, [.ref q5, .ref u9.2.2.2.1.1, .ref u9.2.2.1.1, .ref q38, .ref q49, .ref q60, .ref q71, .null, .null, .null, .null, .int 0])), (q5, .inr (1, [.ref u9.1, .int 0, .ref u9.2.1.1, .ref u9.2.2.1.1, .ref u9.2.2.2.1.1, .ref u9.2.2.2.2.1.1, .ref u9.2.2.2.2.2.1.1, .ref u9.2.2.2.2.2.2.1.1, .ref u9.2.2.2.2.2.2.2.1.1, .ref u9.2.2.2.2.2.2.2.2.1.1, .ref u9.2.2.2.2.2.2.2.2.2.1.1, .ref u9.2.2.2.2.2.2.2.2.2.2.1.1, .int 0, .ref u9.2.2.2.2.2.2.2.2.2.2.2, .long 0])), (u9.1, .inl (g 0, 64, .inl (fun _ => 0))), (u9.2.2.2.2.2.2.2.2.2.2.2, .inl (g 0, 16, .inl (fun _ => 0)))]) hD [4, 0, 1, 2, 3] (by decide) rfl
  have hP : va_P D vC ([(q82, .inr (11, [.null, .int 0, .int 0]))] ++ ([(h0, .inr (2, [.ref q5, .ref u9.2.2.2.1.1, .ref u9.2.2.1.1, .ref q38, .ref q49, .ref q60, .ref q71, .null, .null, .null, .null, .int 0])), (q5, .inr (1, [.ref u9.1, .int 0, .ref u9.2.1.1, .ref u9.2.2.1.1, .ref u9.2.2.2.1.1, .ref u9.2.2.2.2.1.1, .ref u9.2.2.2.2.2.1.1, .ref u9.2.2.2.2.2.2.1.1, .ref u9.2.2.2.2.2.2.2.1.1, .ref u9.2.2.2.2.2.2.2.2.1.1, .ref u9.2.2.2.2.2.2.2.2.2.1.1, .ref u9.2.2.2.2.2.2.2.2.2.2.1.1, .int 0, .ref u9.2.2.2.2.2.2.2.2.2.2.2, .long 0])), (u9.1, .inl (g 0, 64, .inl (fun _ => 0))), (u9.2.2.2.2.2.2.2.2.2.2.2, .inl (g 0, 16, .inl (fun _ => 0)))] ++ (ws_Whole g q71 u75 ++ (ws_Whole g q60 u64 ++ (ws_Whole g q49 u53 ++ (ws_Whole g q38 u42 ++ ((ws_Whole g u9.2.2.2.2.2.2.2.2.2.2.1.1 u9.2.2.2.2.2.2.2.2.2.2.1.2 ++ (ws_Whole g u9.2.2.2.2.2.2.2.2.2.1.1 u9.2.2.2.2.2.2.2.2.2.1.2 ++ (ws_Whole g u9.2.2.2.2.2.2.2.2.1.1 u9.2.2.2.2.2.2.2.2.1.2 ++ (ws_Whole g u9.2.2.2.2.2.2.2.1.1 u9.2.2.2.2.2.2.2.1.2 ++ (ws_Whole g u9.2.2.2.2.2.2.1.1 u9.2.2.2.2.2.2.1.2 ++ (ws_Whole g u9.2.2.2.2.2.1.1 u9.2.2.2.2.2.1.2 ++ (ws_Matrix g u9.2.2.2.2.1.1 u9.2.2.2.2.1.2 ++ (ws_Calc g u9.2.2.2.1.1 u9.2.2.2.1.2 ++ (ws_Matrix g u9.2.2.1.1 u9.2.2.1.2 ++ (ws_Whole g u9.2.1.1 u9.2.1.2 ++ ([] : va_W))))))))))) ++ ([] : va_W)))))))) H := hP
  have hD : va_D A ([(q82, .inr (11, [.null, .int 0, .int 0]))] ++ ([(h0, .inr (2, [.ref q5, .ref u9.2.2.2.1.1, .ref u9.2.2.1.1, .ref q38, .ref q49, .ref q60, .ref q71, .null, .null, .null, .null, .int 0])), (q5, .inr (1, [.ref u9.1, .int 0, .ref u9.2.1.1, .ref u9.2.2.1.1, .ref u9.2.2.2.1.1, .ref u9.2.2.2.2.1.1, .ref u9.2.2.2.2.2.1.1, .ref u9.2.2.2.2.2.2.1.1, .ref u9.2.2.2.2.2.2.2.1.1, .ref u9.2.2.2.2.2.2.2.2.1.1, .ref u9.2.2.2.2.2.2.2.2.2.1.1, .ref u9.2.2.2.2.2.2.2.2.2.2.1.1, .int 0, .ref u9.2.2.2.2.2.2.2.2.2.2.2, .long 0])), (u9.1, .inl (g 0, 64, .inl (fun _ => 0))), (u9.2.2.2.2.2.2.2.2.2.2.2, .inl (g 0, 16, .inl (fun _ => 0)))] ++ (ws_Whole g q71 u75 ++ (ws_Whole g q60 u64 ++ (ws_Whole g q49 u53 ++ (ws_Whole g q38 u42 ++ ((ws_Whole g u9.2.2.2.2.2.2.2.2.2.2.1.1 u9.2.2.2.2.2.2.2.2.2.2.1.2 ++ (ws_Whole g u9.2.2.2.2.2.2.2.2.2.1.1 u9.2.2.2.2.2.2.2.2.2.1.2 ++ (ws_Whole g u9.2.2.2.2.2.2.2.2.1.1 u9.2.2.2.2.2.2.2.2.1.2 ++ (ws_Whole g u9.2.2.2.2.2.2.2.1.1 u9.2.2.2.2.2.2.2.1.2 ++ (ws_Whole g u9.2.2.2.2.2.2.1.1 u9.2.2.2.2.2.2.1.2 ++ (ws_Whole g u9.2.2.2.2.2.1.1 u9.2.2.2.2.2.1.2 ++ (ws_Matrix g u9.2.2.2.2.1.1 u9.2.2.2.2.1.2 ++ (ws_Calc g u9.2.2.2.1.1 u9.2.2.2.1.2 ++ (ws_Matrix g u9.2.2.1.1 u9.2.2.1.2 ++ (ws_Whole g u9.2.1.1 u9.2.1.2 ++ ([] : va_W))))))))))) ++ ([] : va_W)))))))) := hD
  have hFc := pm_free hD hS hA
  refine va_callv (va_runIN (As := []) (rest := [.ref q82, .ref h0]) ⟨hx, hb, hml, hown, hT⟩ (c_Whole_init l D g q82 H.size) (⟨va_cnB 0 hT gd_Whole_init rfl rfl rfl (hN.1 _ nw_500) (hT _ tw_158) (by decide +kernel) ⟨Nat.le_of_ble_eq_true rfl, Nat.le_of_ble_eq_true rfl⟩, rfl, hT _ tw_243⟩) (cp_S hP hK hD hN) rfl rfl hl.1 rfl (lv_room (Nat.le_of_ble_eq_true rfl)) d_Latt_init_86 ⟨Nat.le_of_ble_eq_true rfl, Nat.le_of_ble_eq_true rfl⟩) hS (fun q _ h => hFc q h) hFc (fun u86 t H1 locs ht1 hvm hw hB hz1 hk1 hS => ?_)
  obtain ⟨hP1, hD1⟩ := hB
  rw [ht1] at hP1
  obtain ⟨hP, hD⟩ := pm_join hP hD hk1 hFc hP1 hD1
  generalize H1 = H at hP hS ⊢
  have hP := pm_swapP hP
  have hD := pm_swapD hD
  have hP : va_P D vC ([(h0, .inr (2, [.ref q5, .ref u9.2.2.2.1.1, .ref u9.2.2.1.1, .ref q38, .ref q49, .ref q60, .ref q71, .null, .null, .null, .null, .int 0])), (q5, .inr (1, [.ref u9.1, .int 0, .ref u9.2.1.1, .ref u9.2.2.1.1, .ref u9.2.2.2.1.1, .ref u9.2.2.2.2.1.1, .ref u9.2.2.2.2.2.1.1, .ref u9.2.2.2.2.2.2.1.1, .ref u9.2.2.2.2.2.2.2.1.1, .ref u9.2.2.2.2.2.2.2.2.1.1, .ref u9.2.2.2.2.2.2.2.2.2.1.1, .ref u9.2.2.2.2.2.2.2.2.2.2.1.1, .int 0, .ref u9.2.2.2.2.2.2.2.2.2.2.2, .long 0])), (u9.1, .inl (g 0, 64, .inl (fun _ => 0))), (u9.2.2.2.2.2.2.2.2.2.2.2, .inl (g 0, 16, .inl (fun _ => 0)))] ++ (ws_Whole g q82 u86 ++ (ws_Whole g q71 u75 ++ (ws_Whole g q60 u64 ++ (ws_Whole g q49 u53 ++ (ws_Whole g q38 u42 ++ ((ws_Whole g u9.2.2.2.2.2.2.2.2.2.2.1.1 u9.2.2.2.2.2.2.2.2.2.2.1.2 ++ (ws_Whole g u9.2.2.2.2.2.2.2.2.2.1.1 u9.2.2.2.2.2.2.2.2.2.1.2 ++ (ws_Whole g u9.2.2.2.2.2.2.2.2.1.1 u9.2.2.2.2.2.2.2.2.1.2 ++ (ws_Whole g u9.2.2.2.2.2.2.2.1.1 u9.2.2.2.2.2.2.2.1.2 ++ (ws_Whole g u9.2.2.2.2.2.2.1.1 u9.2.2.2.2.2.2.1.2 ++ (ws_Whole g u9.2.2.2.2.2.1.1 u9.2.2.2.2.2.1.2 ++ (ws_Matrix g u9.2.2.2.2.1.1 u9.2.2.2.2.1.2 ++ (ws_Calc g u9.2.2.2.1.1 u9.2.2.2.1.2 ++ (ws_Matrix g u9.2.2.1.1 u9.2.2.1.2 ++ (ws_Whole g u9.2.1.1 u9.2.1.2 ++ ([] : va_W))))))))))) ++ ([] : va_W)))))))) H := hP
  have hD : va_D A ([(h0, .inr (2, [.ref q5, .ref u9.2.2.2.1.1, .ref u9.2.2.1.1, .ref q38, .ref q49, .ref q60, .ref q71, .null, .null, .null, .null, .int 0])), (q5, .inr (1, [.ref u9.1, .int 0, .ref u9.2.1.1, .ref u9.2.2.1.1, .ref u9.2.2.2.1.1, .ref u9.2.2.2.2.1.1, .ref u9.2.2.2.2.2.1.1, .ref u9.2.2.2.2.2.2.1.1, .ref u9.2.2.2.2.2.2.2.1.1, .ref u9.2.2.2.2.2.2.2.2.1.1, .ref u9.2.2.2.2.2.2.2.2.2.1.1, .ref u9.2.2.2.2.2.2.2.2.2.2.1.1, .int 0, .ref u9.2.2.2.2.2.2.2.2.2.2.2, .long 0])), (u9.1, .inl (g 0, 64, .inl (fun _ => 0))), (u9.2.2.2.2.2.2.2.2.2.2.2, .inl (g 0, 16, .inl (fun _ => 0)))] ++ (ws_Whole g q82 u86 ++ (ws_Whole g q71 u75 ++ (ws_Whole g q60 u64 ++ (ws_Whole g q49 u53 ++ (ws_Whole g q38 u42 ++ ((ws_Whole g u9.2.2.2.2.2.2.2.2.2.2.1.1 u9.2.2.2.2.2.2.2.2.2.2.1.2 ++ (ws_Whole g u9.2.2.2.2.2.2.2.2.2.1.1 u9.2.2.2.2.2.2.2.2.2.1.2 ++ (ws_Whole g u9.2.2.2.2.2.2.2.2.1.1 u9.2.2.2.2.2.2.2.2.1.2 ++ (ws_Whole g u9.2.2.2.2.2.2.2.1.1 u9.2.2.2.2.2.2.2.1.2 ++ (ws_Whole g u9.2.2.2.2.2.2.1.1 u9.2.2.2.2.2.2.1.2 ++ (ws_Whole g u9.2.2.2.2.2.1.1 u9.2.2.2.2.2.1.2 ++ (ws_Matrix g u9.2.2.2.2.1.1 u9.2.2.2.2.1.2 ++ (ws_Calc g u9.2.2.2.1.1 u9.2.2.2.1.2 ++ (ws_Matrix g u9.2.2.1.1 u9.2.2.1.2 ++ (ws_Whole g u9.2.1.1 u9.2.1.2 ++ ([] : va_W))))))))))) ++ ([] : va_W)))))))) := hD
  refine W.widen (k := 56) (n := 297) (by decide) (by decide) ?_
  refine va_putF (D := D) (ci := 2) (v := .ref q82) (ty := .object "MatrixScripts$Whole") (C := "MatrixScripts$Lattices") (T := T_Latt) (N := 12) hx hb hT in_Latt ty_Latt ty_Latt_ok nm_Latt hown hK hP hD hS 0 rfl rfl 7 (by decide) (hT _ tw_509) (fun _ h9 => h9) rfl hin rfl (by decide +kernel) rfl rfl (Nat.le_of_ble_eq_true rfl) d_Latt_init_89 (fun H locs hP hD hS => ?_)
  have hP : va_P D vC ([(h0, .inr (2, [.ref q5, .ref u9.2.2.2.1.1, .ref u9.2.2.1.1, .ref q38, .ref q49, .ref q60, .ref q71, .ref q82, .null, .null, .null, .int 0])), (q5, .inr (1, [.ref u9.1, .int 0, .ref u9.2.1.1, .ref u9.2.2.1.1, .ref u9.2.2.2.1.1, .ref u9.2.2.2.2.1.1, .ref u9.2.2.2.2.2.1.1, .ref u9.2.2.2.2.2.2.1.1, .ref u9.2.2.2.2.2.2.2.1.1, .ref u9.2.2.2.2.2.2.2.2.1.1, .ref u9.2.2.2.2.2.2.2.2.2.1.1, .ref u9.2.2.2.2.2.2.2.2.2.2.1.1, .int 0, .ref u9.2.2.2.2.2.2.2.2.2.2.2, .long 0])), (u9.1, .inl (g 0, 64, .inl (fun _ => 0))), (u9.2.2.2.2.2.2.2.2.2.2.2, .inl (g 0, 16, .inl (fun _ => 0)))] ++ (ws_Whole g q82 u86 ++ (ws_Whole g q71 u75 ++ (ws_Whole g q60 u64 ++ (ws_Whole g q49 u53 ++ (ws_Whole g q38 u42 ++ ((ws_Whole g u9.2.2.2.2.2.2.2.2.2.2.1.1 u9.2.2.2.2.2.2.2.2.2.2.1.2 ++ (ws_Whole g u9.2.2.2.2.2.2.2.2.2.1.1 u9.2.2.2.2.2.2.2.2.2.1.2 ++ (ws_Whole g u9.2.2.2.2.2.2.2.2.1.1 u9.2.2.2.2.2.2.2.2.1.2 ++ (ws_Whole g u9.2.2.2.2.2.2.2.1.1 u9.2.2.2.2.2.2.2.1.2 ++ (ws_Whole g u9.2.2.2.2.2.2.1.1 u9.2.2.2.2.2.2.1.2 ++ (ws_Whole g u9.2.2.2.2.2.1.1 u9.2.2.2.2.2.1.2 ++ (ws_Matrix g u9.2.2.2.2.1.1 u9.2.2.2.2.1.2 ++ (ws_Calc g u9.2.2.2.1.1 u9.2.2.2.1.2 ++ (ws_Matrix g u9.2.2.1.1 u9.2.2.1.2 ++ (ws_Whole g u9.2.1.1 u9.2.1.2 ++ ([] : va_W))))))))))) ++ ([] : va_W)))))))) H := hP
  have hD : va_D A ([(h0, .inr (2, [.ref q5, .ref u9.2.2.2.1.1, .ref u9.2.2.1.1, .ref q38, .ref q49, .ref q60, .ref q71, .ref q82, .null, .null, .null, .int 0])), (q5, .inr (1, [.ref u9.1, .int 0, .ref u9.2.1.1, .ref u9.2.2.1.1, .ref u9.2.2.2.1.1, .ref u9.2.2.2.2.1.1, .ref u9.2.2.2.2.2.1.1, .ref u9.2.2.2.2.2.2.1.1, .ref u9.2.2.2.2.2.2.2.1.1, .ref u9.2.2.2.2.2.2.2.2.1.1, .ref u9.2.2.2.2.2.2.2.2.2.1.1, .ref u9.2.2.2.2.2.2.2.2.2.2.1.1, .int 0, .ref u9.2.2.2.2.2.2.2.2.2.2.2, .long 0])), (u9.1, .inl (g 0, 64, .inl (fun _ => 0))), (u9.2.2.2.2.2.2.2.2.2.2.2, .inl (g 0, 16, .inl (fun _ => 0)))] ++ (ws_Whole g q82 u86 ++ (ws_Whole g q71 u75 ++ (ws_Whole g q60 u64 ++ (ws_Whole g q49 u53 ++ (ws_Whole g q38 u42 ++ ((ws_Whole g u9.2.2.2.2.2.2.2.2.2.2.1.1 u9.2.2.2.2.2.2.2.2.2.2.1.2 ++ (ws_Whole g u9.2.2.2.2.2.2.2.2.2.1.1 u9.2.2.2.2.2.2.2.2.2.1.2 ++ (ws_Whole g u9.2.2.2.2.2.2.2.2.1.1 u9.2.2.2.2.2.2.2.2.1.2 ++ (ws_Whole g u9.2.2.2.2.2.2.2.1.1 u9.2.2.2.2.2.2.2.1.2 ++ (ws_Whole g u9.2.2.2.2.2.2.1.1 u9.2.2.2.2.2.2.1.2 ++ (ws_Whole g u9.2.2.2.2.2.1.1 u9.2.2.2.2.2.1.2 ++ (ws_Matrix g u9.2.2.2.2.1.1 u9.2.2.2.2.1.2 ++ (ws_Calc g u9.2.2.2.1.1 u9.2.2.2.1.2 ++ (ws_Matrix g u9.2.2.1.1 u9.2.2.1.2 ++ (ws_Whole g u9.2.1.1 u9.2.1.2 ++ ([] : va_W))))))))))) ++ ([] : va_W)))))))) := hD
  refine lv_aload_n hx hb d_Latt_init_92 rfl (lv_at hl 0 rfl) ?_
  refine pm_new (D := D) (ci := 11) (fs := [.null, .int 0, .int 0]) (C := "MatrixScripts$Whole") (T := T_Whole) (N := 3) hx hb hT in_Whole ty_Whole ty_Whole_ok hown (hT _ tw_499) (hT _ tw_241) (hT _ tw_158) hK hP hD hS hA rfl (by decide) (Nat.le_of_ble_eq_true rfl) (Nat.le_of_ble_eq_true rfl) d_Latt_init_93 (fun q93 H hP hD hS => ?_)
  have hP : va_P D vC ([(h0, .inr (2, [.ref q5, .ref u9.2.2.2.1.1, .ref u9.2.2.1.1, .ref q38, .ref q49, .ref q60, .ref q71, .ref q82, .null, .null, .null, .int 0])), (q5, .inr (1, [.ref u9.1, .int 0, .ref u9.2.1.1, .ref u9.2.2.1.1, .ref u9.2.2.2.1.1, .ref u9.2.2.2.2.1.1, .ref u9.2.2.2.2.2.1.1, .ref u9.2.2.2.2.2.2.1.1, .ref u9.2.2.2.2.2.2.2.1.1, .ref u9.2.2.2.2.2.2.2.2.1.1, .ref u9.2.2.2.2.2.2.2.2.2.1.1, .ref u9.2.2.2.2.2.2.2.2.2.2.1.1, .int 0, .ref u9.2.2.2.2.2.2.2.2.2.2.2, .long 0])), (u9.1, .inl (g 0, 64, .inl (fun _ => 0))), (u9.2.2.2.2.2.2.2.2.2.2.2, .inl (g 0, 16, .inl (fun _ => 0))), (q93, .inr (11, [.null, .int 0, .int 0]))] ++ (ws_Whole g q82 u86 ++ (ws_Whole g q71 u75 ++ (ws_Whole g q60 u64 ++ (ws_Whole g q49 u53 ++ (ws_Whole g q38 u42 ++ ((ws_Whole g u9.2.2.2.2.2.2.2.2.2.2.1.1 u9.2.2.2.2.2.2.2.2.2.2.1.2 ++ (ws_Whole g u9.2.2.2.2.2.2.2.2.2.1.1 u9.2.2.2.2.2.2.2.2.2.1.2 ++ (ws_Whole g u9.2.2.2.2.2.2.2.2.1.1 u9.2.2.2.2.2.2.2.2.1.2 ++ (ws_Whole g u9.2.2.2.2.2.2.2.1.1 u9.2.2.2.2.2.2.2.1.2 ++ (ws_Whole g u9.2.2.2.2.2.2.1.1 u9.2.2.2.2.2.2.1.2 ++ (ws_Whole g u9.2.2.2.2.2.1.1 u9.2.2.2.2.2.1.2 ++ (ws_Matrix g u9.2.2.2.2.1.1 u9.2.2.2.2.1.2 ++ (ws_Calc g u9.2.2.2.1.1 u9.2.2.2.1.2 ++ (ws_Matrix g u9.2.2.1.1 u9.2.2.1.2 ++ (ws_Whole g u9.2.1.1 u9.2.1.2 ++ ([] : va_W))))))))))) ++ ([] : va_W)))))))) H := hP
  have hD : va_D A ([(h0, .inr (2, [.ref q5, .ref u9.2.2.2.1.1, .ref u9.2.2.1.1, .ref q38, .ref q49, .ref q60, .ref q71, .ref q82, .null, .null, .null, .int 0])), (q5, .inr (1, [.ref u9.1, .int 0, .ref u9.2.1.1, .ref u9.2.2.1.1, .ref u9.2.2.2.1.1, .ref u9.2.2.2.2.1.1, .ref u9.2.2.2.2.2.1.1, .ref u9.2.2.2.2.2.2.1.1, .ref u9.2.2.2.2.2.2.2.1.1, .ref u9.2.2.2.2.2.2.2.2.1.1, .ref u9.2.2.2.2.2.2.2.2.2.1.1, .ref u9.2.2.2.2.2.2.2.2.2.2.1.1, .int 0, .ref u9.2.2.2.2.2.2.2.2.2.2.2, .long 0])), (u9.1, .inl (g 0, 64, .inl (fun _ => 0))), (u9.2.2.2.2.2.2.2.2.2.2.2, .inl (g 0, 16, .inl (fun _ => 0))), (q93, .inr (11, [.null, .int 0, .int 0]))] ++ (ws_Whole g q82 u86 ++ (ws_Whole g q71 u75 ++ (ws_Whole g q60 u64 ++ (ws_Whole g q49 u53 ++ (ws_Whole g q38 u42 ++ ((ws_Whole g u9.2.2.2.2.2.2.2.2.2.2.1.1 u9.2.2.2.2.2.2.2.2.2.2.1.2 ++ (ws_Whole g u9.2.2.2.2.2.2.2.2.2.1.1 u9.2.2.2.2.2.2.2.2.2.1.2 ++ (ws_Whole g u9.2.2.2.2.2.2.2.2.1.1 u9.2.2.2.2.2.2.2.2.1.2 ++ (ws_Whole g u9.2.2.2.2.2.2.2.1.1 u9.2.2.2.2.2.2.2.1.2 ++ (ws_Whole g u9.2.2.2.2.2.2.1.1 u9.2.2.2.2.2.2.1.2 ++ (ws_Whole g u9.2.2.2.2.2.1.1 u9.2.2.2.2.2.1.2 ++ (ws_Matrix g u9.2.2.2.2.1.1 u9.2.2.2.2.1.2 ++ (ws_Calc g u9.2.2.2.1.1 u9.2.2.2.1.2 ++ (ws_Matrix g u9.2.2.1.1 u9.2.2.1.2 ++ (ws_Whole g u9.2.1.1 u9.2.1.2 ++ ([] : va_W))))))))))) ++ ([] : va_W)))))))) := hD
  refine W.widen (k := 57) (n := 300) (by decide) (by decide) ?_
  refine lv_dup hx hb d_Latt_init_96 rfl ?_
  have hP := pm_subP (a' := [(q93, .inr (11, [.null, .int 0, .int 0])), (h0, .inr (2, [.ref q5, .ref u9.2.2.2.1.1, .ref u9.2.2.1.1, .ref q38, .ref q49, .ref q60, .ref q71, .ref q82, .null, .null, .null, .int 0])), (q5, .inr (1, [.ref u9.1, .int 0, .ref u9.2.1.1, .ref u9.2.2.1.1, .ref u9.2.2.2.1.1, .ref u9.2.2.2.2.1.1, .ref u9.2.2.2.2.2.1.1, .ref u9.2.2.2.2.2.2.1.1, .ref u9.2.2.2.2.2.2.2.1.1, .ref u9.2.2.2.2.2.2.2.2.1.1, .ref u9.2.2.2.2.2.2.2.2.2.1.1, .ref u9.2.2.2.2.2.2.2.2.2.2.1.1, .int 0, .ref u9.2.2.2.2.2.2.2.2.2.2.2, .long 0])), (u9.1, .inl (g 0, 64, .inl (fun _ => 0))), (u9.2.2.2.2.2.2.2.2.2.2.2, .inl (g 0, 16, .inl (fun _ => 0)))]) hP [4, 0, 1, 2, 3] rfl
  have hD := pm_subD (a' := [(q93, .inr (11, [.null, .int 0, .int 0])), (h0, .inr (2, [.ref q5, .ref u9.2.2.2.1.1, .ref u9.2.2.1.1, .ref q38, .ref q49, .ref q60, .ref q71, .ref q82, .null, .null, .null, .int 0])), (q5, .inr (1, [.ref u9.1, .int 0, .ref u9.2.1.1, .ref u9.2.2.1.1, .ref u9.2.2.2.1.1, .ref u9.2.2.2.2.1.1, .ref u9.2.2.2.2.2.1.1, .ref u9.2.2.2.2.2.2.1.1, .ref u9.2.2.2.2.2.2.2.1.1, .ref u9.2.2.2.2.2.2.2.2.1.1, .ref u9.2.2.2.2.2.2.2.2.2.1.1, .ref u9.2.2.2.2.2.2.2.2.2.2.1.1, .int 0, .ref u9.2.2.2.2.2.2.2.2.2.2.2, .long 0])), (u9.1, .inl (g 0, 64, .inl (fun _ => 0))), (u9.2.2.2.2.2.2.2.2.2.2.2, .inl (g 0, 16, .inl (fun _ => 0)))]) hD [4, 0, 1, 2, 3] (by decide) rfl
  have hP : va_P D vC ([(q93, .inr (11, [.null, .int 0, .int 0]))] ++ ([(h0, .inr (2, [.ref q5, .ref u9.2.2.2.1.1, .ref u9.2.2.1.1, .ref q38, .ref q49, .ref q60, .ref q71, .ref q82, .null, .null, .null, .int 0])), (q5, .inr (1, [.ref u9.1, .int 0, .ref u9.2.1.1, .ref u9.2.2.1.1, .ref u9.2.2.2.1.1, .ref u9.2.2.2.2.1.1, .ref u9.2.2.2.2.2.1.1, .ref u9.2.2.2.2.2.2.1.1, .ref u9.2.2.2.2.2.2.2.1.1, .ref u9.2.2.2.2.2.2.2.2.1.1, .ref u9.2.2.2.2.2.2.2.2.2.1.1, .ref u9.2.2.2.2.2.2.2.2.2.2.1.1, .int 0, .ref u9.2.2.2.2.2.2.2.2.2.2.2, .long 0])), (u9.1, .inl (g 0, 64, .inl (fun _ => 0))), (u9.2.2.2.2.2.2.2.2.2.2.2, .inl (g 0, 16, .inl (fun _ => 0)))] ++ (ws_Whole g q82 u86 ++ (ws_Whole g q71 u75 ++ (ws_Whole g q60 u64 ++ (ws_Whole g q49 u53 ++ (ws_Whole g q38 u42 ++ ((ws_Whole g u9.2.2.2.2.2.2.2.2.2.2.1.1 u9.2.2.2.2.2.2.2.2.2.2.1.2 ++ (ws_Whole g u9.2.2.2.2.2.2.2.2.2.1.1 u9.2.2.2.2.2.2.2.2.2.1.2 ++ (ws_Whole g u9.2.2.2.2.2.2.2.2.1.1 u9.2.2.2.2.2.2.2.2.1.2 ++ (ws_Whole g u9.2.2.2.2.2.2.2.1.1 u9.2.2.2.2.2.2.2.1.2 ++ (ws_Whole g u9.2.2.2.2.2.2.1.1 u9.2.2.2.2.2.2.1.2 ++ (ws_Whole g u9.2.2.2.2.2.1.1 u9.2.2.2.2.2.1.2 ++ (ws_Matrix g u9.2.2.2.2.1.1 u9.2.2.2.2.1.2 ++ (ws_Calc g u9.2.2.2.1.1 u9.2.2.2.1.2 ++ (ws_Matrix g u9.2.2.1.1 u9.2.2.1.2 ++ (ws_Whole g u9.2.1.1 u9.2.1.2 ++ ([] : va_W))))))))))) ++ ([] : va_W))))))))) H := hP
  have hD : va_D A ([(q93, .inr (11, [.null, .int 0, .int 0]))] ++ ([(h0, .inr (2, [.ref q5, .ref u9.2.2.2.1.1, .ref u9.2.2.1.1, .ref q38, .ref q49, .ref q60, .ref q71, .ref q82, .null, .null, .null, .int 0])), (q5, .inr (1, [.ref u9.1, .int 0, .ref u9.2.1.1, .ref u9.2.2.1.1, .ref u9.2.2.2.1.1, .ref u9.2.2.2.2.1.1, .ref u9.2.2.2.2.2.1.1, .ref u9.2.2.2.2.2.2.1.1, .ref u9.2.2.2.2.2.2.2.1.1, .ref u9.2.2.2.2.2.2.2.2.1.1, .ref u9.2.2.2.2.2.2.2.2.2.1.1, .ref u9.2.2.2.2.2.2.2.2.2.2.1.1, .int 0, .ref u9.2.2.2.2.2.2.2.2.2.2.2, .long 0])), (u9.1, .inl (g 0, 64, .inl (fun _ => 0))), (u9.2.2.2.2.2.2.2.2.2.2.2, .inl (g 0, 16, .inl (fun _ => 0)))] ++ (ws_Whole g q82 u86 ++ (ws_Whole g q71 u75 ++ (ws_Whole g q60 u64 ++ (ws_Whole g q49 u53 ++ (ws_Whole g q38 u42 ++ ((ws_Whole g u9.2.2.2.2.2.2.2.2.2.2.1.1 u9.2.2.2.2.2.2.2.2.2.2.1.2 ++ (ws_Whole g u9.2.2.2.2.2.2.2.2.2.1.1 u9.2.2.2.2.2.2.2.2.2.1.2 ++ (ws_Whole g u9.2.2.2.2.2.2.2.2.1.1 u9.2.2.2.2.2.2.2.2.1.2 ++ (ws_Whole g u9.2.2.2.2.2.2.2.1.1 u9.2.2.2.2.2.2.2.1.2 ++ (ws_Whole g u9.2.2.2.2.2.2.1.1 u9.2.2.2.2.2.2.1.2 ++ (ws_Whole g u9.2.2.2.2.2.1.1 u9.2.2.2.2.2.1.2 ++ (ws_Matrix g u9.2.2.2.2.1.1 u9.2.2.2.2.1.2 ++ (ws_Calc g u9.2.2.2.1.1 u9.2.2.2.1.2 ++ (ws_Matrix g u9.2.2.1.1 u9.2.2.1.2 ++ (ws_Whole g u9.2.1.1 u9.2.1.2 ++ ([] : va_W))))))))))) ++ ([] : va_W))))))))) := hD
  have hFc := pm_free hD hS hA
  refine va_callv (va_runIN (As := []) (rest := [.ref q93, .ref h0]) ⟨hx, hb, hml, hown, hT⟩ (c_Whole_init l D g q93 H.size) (⟨va_cnB 0 hT gd_Whole_init rfl rfl rfl (hN.1 _ nw_500) (hT _ tw_158) (by decide +kernel) ⟨Nat.le_of_ble_eq_true rfl, Nat.le_of_ble_eq_true rfl⟩, rfl, hT _ tw_243⟩) (cp_S hP hK hD hN) rfl rfl hl.1 rfl (lv_room (Nat.le_of_ble_eq_true rfl)) d_Latt_init_97 ⟨Nat.le_of_ble_eq_true rfl, Nat.le_of_ble_eq_true rfl⟩) hS (fun q _ h => hFc q h) hFc (fun u97 t H1 locs ht1 hvm hw hB hz1 hk1 hS => ?_)
  obtain ⟨hP1, hD1⟩ := hB
  rw [ht1] at hP1
  obtain ⟨hP, hD⟩ := pm_join hP hD hk1 hFc hP1 hD1
  generalize H1 = H at hP hS ⊢
  have hP := pm_swapP hP
  have hD := pm_swapD hD
  have hP : va_P D vC ([(h0, .inr (2, [.ref q5, .ref u9.2.2.2.1.1, .ref u9.2.2.1.1, .ref q38, .ref q49, .ref q60, .ref q71, .ref q82, .null, .null, .null, .int 0])), (q5, .inr (1, [.ref u9.1, .int 0, .ref u9.2.1.1, .ref u9.2.2.1.1, .ref u9.2.2.2.1.1, .ref u9.2.2.2.2.1.1, .ref u9.2.2.2.2.2.1.1, .ref u9.2.2.2.2.2.2.1.1, .ref u9.2.2.2.2.2.2.2.1.1, .ref u9.2.2.2.2.2.2.2.2.1.1, .ref u9.2.2.2.2.2.2.2.2.2.1.1, .ref u9.2.2.2.2.2.2.2.2.2.2.1.1, .int 0, .ref u9.2.2.2.2.2.2.2.2.2.2.2, .long 0])), (u9.1, .inl (g 0, 64, .inl (fun _ => 0))), (u9.2.2.2.2.2.2.2.2.2.2.2, .inl (g 0, 16, .inl (fun _ => 0)))] ++ (ws_Whole g q93 u97 ++ (ws_Whole g q82 u86 ++ (ws_Whole g q71 u75 ++ (ws_Whole g q60 u64 ++ (ws_Whole g q49 u53 ++ (ws_Whole g q38 u42 ++ ((ws_Whole g u9.2.2.2.2.2.2.2.2.2.2.1.1 u9.2.2.2.2.2.2.2.2.2.2.1.2 ++ (ws_Whole g u9.2.2.2.2.2.2.2.2.2.1.1 u9.2.2.2.2.2.2.2.2.2.1.2 ++ (ws_Whole g u9.2.2.2.2.2.2.2.2.1.1 u9.2.2.2.2.2.2.2.2.1.2 ++ (ws_Whole g u9.2.2.2.2.2.2.2.1.1 u9.2.2.2.2.2.2.2.1.2 ++ (ws_Whole g u9.2.2.2.2.2.2.1.1 u9.2.2.2.2.2.2.1.2 ++ (ws_Whole g u9.2.2.2.2.2.1.1 u9.2.2.2.2.2.1.2 ++ (ws_Matrix g u9.2.2.2.2.1.1 u9.2.2.2.2.1.2 ++ (ws_Calc g u9.2.2.2.1.1 u9.2.2.2.1.2 ++ (ws_Matrix g u9.2.2.1.1 u9.2.2.1.2 ++ (ws_Whole g u9.2.1.1 u9.2.1.2 ++ ([] : va_W))))))))))) ++ ([] : va_W))))))))) H := hP
  have hD : va_D A ([(h0, .inr (2, [.ref q5, .ref u9.2.2.2.1.1, .ref u9.2.2.1.1, .ref q38, .ref q49, .ref q60, .ref q71, .ref q82, .null, .null, .null, .int 0])), (q5, .inr (1, [.ref u9.1, .int 0, .ref u9.2.1.1, .ref u9.2.2.1.1, .ref u9.2.2.2.1.1, .ref u9.2.2.2.2.1.1, .ref u9.2.2.2.2.2.1.1, .ref u9.2.2.2.2.2.2.1.1, .ref u9.2.2.2.2.2.2.2.1.1, .ref u9.2.2.2.2.2.2.2.2.1.1, .ref u9.2.2.2.2.2.2.2.2.2.1.1, .ref u9.2.2.2.2.2.2.2.2.2.2.1.1, .int 0, .ref u9.2.2.2.2.2.2.2.2.2.2.2, .long 0])), (u9.1, .inl (g 0, 64, .inl (fun _ => 0))), (u9.2.2.2.2.2.2.2.2.2.2.2, .inl (g 0, 16, .inl (fun _ => 0)))] ++ (ws_Whole g q93 u97 ++ (ws_Whole g q82 u86 ++ (ws_Whole g q71 u75 ++ (ws_Whole g q60 u64 ++ (ws_Whole g q49 u53 ++ (ws_Whole g q38 u42 ++ ((ws_Whole g u9.2.2.2.2.2.2.2.2.2.2.1.1 u9.2.2.2.2.2.2.2.2.2.2.1.2 ++ (ws_Whole g u9.2.2.2.2.2.2.2.2.2.1.1 u9.2.2.2.2.2.2.2.2.2.1.2 ++ (ws_Whole g u9.2.2.2.2.2.2.2.2.1.1 u9.2.2.2.2.2.2.2.2.1.2 ++ (ws_Whole g u9.2.2.2.2.2.2.2.1.1 u9.2.2.2.2.2.2.2.1.2 ++ (ws_Whole g u9.2.2.2.2.2.2.1.1 u9.2.2.2.2.2.2.1.2 ++ (ws_Whole g u9.2.2.2.2.2.1.1 u9.2.2.2.2.2.1.2 ++ (ws_Matrix g u9.2.2.2.2.1.1 u9.2.2.2.2.1.2 ++ (ws_Calc g u9.2.2.2.1.1 u9.2.2.2.1.2 ++ (ws_Matrix g u9.2.2.1.1 u9.2.2.1.2 ++ (ws_Whole g u9.2.1.1 u9.2.1.2 ++ ([] : va_W))))))))))) ++ ([] : va_W))))))))) := hD
  refine W.widen (k := 58) (n := 303) (by decide) (by decide) ?_
  refine va_putF (D := D) (ci := 2) (v := .ref q93) (ty := .object "MatrixScripts$Whole") (C := "MatrixScripts$Lattices") (T := T_Latt) (N := 12) hx hb hT in_Latt ty_Latt ty_Latt_ok nm_Latt hown hK hP hD hS 0 rfl rfl 8 (by decide) (hT _ tw_510) (fun _ h9 => h9) rfl hin rfl (by decide +kernel) rfl rfl (Nat.le_of_ble_eq_true rfl) d_Latt_init_100 (fun H locs hP hD hS => ?_)
  have hP : va_P D vC ([(h0, .inr (2, [.ref q5, .ref u9.2.2.2.1.1, .ref u9.2.2.1.1, .ref q38, .ref q49, .ref q60, .ref q71, .ref q82, .ref q93, .null, .null, .int 0])), (q5, .inr (1, [.ref u9.1, .int 0, .ref u9.2.1.1, .ref u9.2.2.1.1, .ref u9.2.2.2.1.1, .ref u9.2.2.2.2.1.1, .ref u9.2.2.2.2.2.1.1, .ref u9.2.2.2.2.2.2.1.1, .ref u9.2.2.2.2.2.2.2.1.1, .ref u9.2.2.2.2.2.2.2.2.1.1, .ref u9.2.2.2.2.2.2.2.2.2.1.1, .ref u9.2.2.2.2.2.2.2.2.2.2.1.1, .int 0, .ref u9.2.2.2.2.2.2.2.2.2.2.2, .long 0])), (u9.1, .inl (g 0, 64, .inl (fun _ => 0))), (u9.2.2.2.2.2.2.2.2.2.2.2, .inl (g 0, 16, .inl (fun _ => 0)))] ++ (ws_Whole g q93 u97 ++ (ws_Whole g q82 u86 ++ (ws_Whole g q71 u75 ++ (ws_Whole g q60 u64 ++ (ws_Whole g q49 u53 ++ (ws_Whole g q38 u42 ++ ((ws_Whole g u9.2.2.2.2.2.2.2.2.2.2.1.1 u9.2.2.2.2.2.2.2.2.2.2.1.2 ++ (ws_Whole g u9.2.2.2.2.2.2.2.2.2.1.1 u9.2.2.2.2.2.2.2.2.2.1.2 ++ (ws_Whole g u9.2.2.2.2.2.2.2.2.1.1 u9.2.2.2.2.2.2.2.2.1.2 ++ (ws_Whole g u9.2.2.2.2.2.2.2.1.1 u9.2.2.2.2.2.2.2.1.2 ++ (ws_Whole g u9.2.2.2.2.2.2.1.1 u9.2.2.2.2.2.2.1.2 ++ (ws_Whole g u9.2.2.2.2.2.1.1 u9.2.2.2.2.2.1.2 ++ (ws_Matrix g u9.2.2.2.2.1.1 u9.2.2.2.2.1.2 ++ (ws_Calc g u9.2.2.2.1.1 u9.2.2.2.1.2 ++ (ws_Matrix g u9.2.2.1.1 u9.2.2.1.2 ++ (ws_Whole g u9.2.1.1 u9.2.1.2 ++ ([] : va_W))))))))))) ++ ([] : va_W))))))))) H := hP
  have hD : va_D A ([(h0, .inr (2, [.ref q5, .ref u9.2.2.2.1.1, .ref u9.2.2.1.1, .ref q38, .ref q49, .ref q60, .ref q71, .ref q82, .ref q93, .null, .null, .int 0])), (q5, .inr (1, [.ref u9.1, .int 0, .ref u9.2.1.1, .ref u9.2.2.1.1, .ref u9.2.2.2.1.1, .ref u9.2.2.2.2.1.1, .ref u9.2.2.2.2.2.1.1, .ref u9.2.2.2.2.2.2.1.1, .ref u9.2.2.2.2.2.2.2.1.1, .ref u9.2.2.2.2.2.2.2.2.1.1, .ref u9.2.2.2.2.2.2.2.2.2.1.1, .ref u9.2.2.2.2.2.2.2.2.2.2.1.1, .int 0, .ref u9.2.2.2.2.2.2.2.2.2.2.2, .long 0])), (u9.1, .inl (g 0, 64, .inl (fun _ => 0))), (u9.2.2.2.2.2.2.2.2.2.2.2, .inl (g 0, 16, .inl (fun _ => 0)))] ++ (ws_Whole g q93 u97 ++ (ws_Whole g q82 u86 ++ (ws_Whole g q71 u75 ++ (ws_Whole g q60 u64 ++ (ws_Whole g q49 u53 ++ (ws_Whole g q38 u42 ++ ((ws_Whole g u9.2.2.2.2.2.2.2.2.2.2.1.1 u9.2.2.2.2.2.2.2.2.2.2.1.2 ++ (ws_Whole g u9.2.2.2.2.2.2.2.2.2.1.1 u9.2.2.2.2.2.2.2.2.2.1.2 ++ (ws_Whole g u9.2.2.2.2.2.2.2.2.1.1 u9.2.2.2.2.2.2.2.2.1.2 ++ (ws_Whole g u9.2.2.2.2.2.2.2.1.1 u9.2.2.2.2.2.2.2.1.2 ++ (ws_Whole g u9.2.2.2.2.2.2.1.1 u9.2.2.2.2.2.2.1.2 ++ (ws_Whole g u9.2.2.2.2.2.1.1 u9.2.2.2.2.2.1.2 ++ (ws_Matrix g u9.2.2.2.2.1.1 u9.2.2.2.2.1.2 ++ (ws_Calc g u9.2.2.2.1.1 u9.2.2.2.1.2 ++ (ws_Matrix g u9.2.2.1.1 u9.2.2.1.2 ++ (ws_Whole g u9.2.1.1 u9.2.1.2 ++ ([] : va_W))))))))))) ++ ([] : va_W))))))))) := hD
  refine lv_aload_n hx hb d_Latt_init_103 rfl (lv_at hl 0 rfl) ?_
  refine pm_new (D := D) (ci := 11) (fs := [.null, .int 0, .int 0]) (C := "MatrixScripts$Whole") (T := T_Whole) (N := 3) hx hb hT in_Whole ty_Whole ty_Whole_ok hown (hT _ tw_499) (hT _ tw_241) (hT _ tw_158) hK hP hD hS hA rfl (by decide) (Nat.le_of_ble_eq_true rfl) (Nat.le_of_ble_eq_true rfl) d_Latt_init_104 (fun q104 H hP hD hS => ?_)
  have hP : va_P D vC ([(h0, .inr (2, [.ref q5, .ref u9.2.2.2.1.1, .ref u9.2.2.1.1, .ref q38, .ref q49, .ref q60, .ref q71, .ref q82, .ref q93, .null, .null, .int 0])), (q5, .inr (1, [.ref u9.1, .int 0, .ref u9.2.1.1, .ref u9.2.2.1.1, .ref u9.2.2.2.1.1, .ref u9.2.2.2.2.1.1, .ref u9.2.2.2.2.2.1.1, .ref u9.2.2.2.2.2.2.1.1, .ref u9.2.2.2.2.2.2.2.1.1, .ref u9.2.2.2.2.2.2.2.2.1.1, .ref u9.2.2.2.2.2.2.2.2.2.1.1, .ref u9.2.2.2.2.2.2.2.2.2.2.1.1, .int 0, .ref u9.2.2.2.2.2.2.2.2.2.2.2, .long 0])), (u9.1, .inl (g 0, 64, .inl (fun _ => 0))), (u9.2.2.2.2.2.2.2.2.2.2.2, .inl (g 0, 16, .inl (fun _ => 0))), (q104, .inr (11, [.null, .int 0, .int 0]))] ++ (ws_Whole g q93 u97 ++ (ws_Whole g q82 u86 ++ (ws_Whole g q71 u75 ++ (ws_Whole g q60 u64 ++ (ws_Whole g q49 u53 ++ (ws_Whole g q38 u42 ++ ((ws_Whole g u9.2.2.2.2.2.2.2.2.2.2.1.1 u9.2.2.2.2.2.2.2.2.2.2.1.2 ++ (ws_Whole g u9.2.2.2.2.2.2.2.2.2.1.1 u9.2.2.2.2.2.2.2.2.2.1.2 ++ (ws_Whole g u9.2.2.2.2.2.2.2.2.1.1 u9.2.2.2.2.2.2.2.2.1.2 ++ (ws_Whole g u9.2.2.2.2.2.2.2.1.1 u9.2.2.2.2.2.2.2.1.2 ++ (ws_Whole g u9.2.2.2.2.2.2.1.1 u9.2.2.2.2.2.2.1.2 ++ (ws_Whole g u9.2.2.2.2.2.1.1 u9.2.2.2.2.2.1.2 ++ (ws_Matrix g u9.2.2.2.2.1.1 u9.2.2.2.2.1.2 ++ (ws_Calc g u9.2.2.2.1.1 u9.2.2.2.1.2 ++ (ws_Matrix g u9.2.2.1.1 u9.2.2.1.2 ++ (ws_Whole g u9.2.1.1 u9.2.1.2 ++ ([] : va_W))))))))))) ++ ([] : va_W))))))))) H := hP
  have hD : va_D A ([(h0, .inr (2, [.ref q5, .ref u9.2.2.2.1.1, .ref u9.2.2.1.1, .ref q38, .ref q49, .ref q60, .ref q71, .ref q82, .ref q93, .null, .null, .int 0])), (q5, .inr (1, [.ref u9.1, .int 0, .ref u9.2.1.1, .ref u9.2.2.1.1, .ref u9.2.2.2.1.1, .ref u9.2.2.2.2.1.1, .ref u9.2.2.2.2.2.1.1, .ref u9.2.2.2.2.2.2.1.1, .ref u9.2.2.2.2.2.2.2.1.1, .ref u9.2.2.2.2.2.2.2.2.1.1, .ref u9.2.2.2.2.2.2.2.2.2.1.1, .ref u9.2.2.2.2.2.2.2.2.2.2.1.1, .int 0, .ref u9.2.2.2.2.2.2.2.2.2.2.2, .long 0])), (u9.1, .inl (g 0, 64, .inl (fun _ => 0))), (u9.2.2.2.2.2.2.2.2.2.2.2, .inl (g 0, 16, .inl (fun _ => 0))), (q104, .inr (11, [.null, .int 0, .int 0]))] ++ (ws_Whole g q93 u97 ++ (ws_Whole g q82 u86 ++ (ws_Whole g q71 u75 ++ (ws_Whole g q60 u64 ++ (ws_Whole g q49 u53 ++ (ws_Whole g q38 u42 ++ ((ws_Whole g u9.2.2.2.2.2.2.2.2.2.2.1.1 u9.2.2.2.2.2.2.2.2.2.2.1.2 ++ (ws_Whole g u9.2.2.2.2.2.2.2.2.2.1.1 u9.2.2.2.2.2.2.2.2.2.1.2 ++ (ws_Whole g u9.2.2.2.2.2.2.2.2.1.1 u9.2.2.2.2.2.2.2.2.1.2 ++ (ws_Whole g u9.2.2.2.2.2.2.2.1.1 u9.2.2.2.2.2.2.2.1.2 ++ (ws_Whole g u9.2.2.2.2.2.2.1.1 u9.2.2.2.2.2.2.1.2 ++ (ws_Whole g u9.2.2.2.2.2.1.1 u9.2.2.2.2.2.1.2 ++ (ws_Matrix g u9.2.2.2.2.1.1 u9.2.2.2.2.1.2 ++ (ws_Calc g u9.2.2.2.1.1 u9.2.2.2.1.2 ++ (ws_Matrix g u9.2.2.1.1 u9.2.2.1.2 ++ (ws_Whole g u9.2.1.1 u9.2.1.2 ++ ([] : va_W))))))))))) ++ ([] : va_W))))))))) := hD
  refine W.widen (k := 59) (n := 306) (by decide) (by decide) ?_
  refine lv_dup hx hb d_Latt_init_107 rfl ?_
  have hP := pm_subP (a' := [(q104, .inr (11, [.null, .int 0, .int 0])), (h0, .inr (2, [.ref q5, .ref u9.2.2.2.1.1, .ref u9.2.2.1.1, .ref q38, .ref q49, .ref q60, .ref q71, .ref q82, .ref q93, .null, .null, .int 0])), (q5, .inr (1, [.ref u9.1, .int 0, .ref u9.2.1.1, .ref u9.2.2.1.1, .ref u9.2.2.2.1.1, .ref u9.2.2.2.2.1.1, .ref u9.2.2.2.2.2.1.1, .ref u9.2.2.2.2.2.2.1.1, .ref u9.2.2.2.2.2.2.2.1.1, .ref u9.2.2.2.2.2.2.2.2.1.1, .ref u9.2.2.2.2.2.2.2.2.2.1.1, .ref u9.2.2.2.2.2.2.2.2.2.2.1.1, .int 0, .ref u9.2.2.2.2.2.2.2.2.2.2.2, .long 0])), (u9.1, .inl (g 0, 64, .inl (fun _ => 0))), (u9.2.2.2.2.2.2.2.2.2.2.2, .inl (g 0, 16, .inl (fun _ => 0)))]) hP [4, 0, 1, 2, 3] rfl
  have hD := pm_subD (a' := [(q104, .inr (11, [.null, .int 0, .int 0])), (h0, .inr (2, [.ref q5, .ref u9.2.2.2.1.1, .ref u9.2.2.1.1, .ref q38, .ref q49, .ref q60, .ref q71, .ref q82, .ref q93, .null, .null, .int 0])), (q5, .inr (1, [.ref u9.1, .int 0, .ref u9.2.1.1, .ref u9.2.2.1.1, .ref u9.2.2.2.1.1, .ref u9.2.2.2.2.1.1, .ref u9.2.2.2.2.2.1.1, .ref u9.2.2.2.2.2.2.1.1, .ref u9.2.2.2.2.2.2.2.1.1, .ref u9.2.2.2.2.2.2.2.2.1.1, .ref u9.2.2.2.2.2.2.2.2.2.1.1, .ref u9.2.2.2.2.2.2.2.2.2.2.1.1, .int 0, .ref u9.2.2.2.2.2.2.2.2.2.2.2, .long 0])), (u9.1, .inl (g 0, 64, .inl (fun _ => 0))), (u9.2.2.2.2.2.2.2.2.2.2.2, .inl (g 0, 16, .inl (fun _ => 0)))]) hD [4, 0, 1, 2, 3] (by decide) rfl
  have hP : va_P D vC ([(q104, .inr (11, [.null, .int 0, .int 0]))] ++ ([(h0, .inr (2, [.ref q5, .ref u9.2.2.2.1.1, .ref u9.2.2.1.1, .ref q38, .ref q49, .ref q60, .ref q71, .ref q82, .ref q93, .null, .null, .int 0])), (q5, .inr (1, [.ref u9.1, .int 0, .ref u9.2.1.1, .ref u9.2.2.1.1, .ref u9.2.2.2.1.1, .ref u9.2.2.2.2.1.1, .ref u9.2.2.2.2.2.1.1, .ref u9.2.2.2.2.2.2.1.1, .ref u9.2.2.2.2.2.2.2.1.1, .ref u9.2.2.2.2.2.2.2.2.1.1, .ref u9.2.2.2.2.2.2.2.2.2.1.1, .ref u9.2.2.2.2.2.2.2.2.2.2.1.1, .int 0, .ref u9.2.2.2.2.2.2.2.2.2.2.2, .long 0])), (u9.1, .inl (g 0, 64, .inl (fun _ => 0))), (u9.2.2.2.2.2.2.2.2.2.2.2, .inl (g 0, 16, .inl (fun _ => 0)))] ++ (ws_Whole g q93 u97 ++ (ws_Whole g q82 u86 ++ (ws_Whole g q71 u75 ++ (ws_Whole g q60 u64 ++ (ws_Whole g q49 u53 ++ (ws_Whole g q38 u42 ++ ((ws_Whole g u9.2.2.2.2.2.2.2.2.2.2.1.1 u9.2.2.2.2.2.2.2.2.2.2.1.2 ++ (ws_Whole g u9.2.2.2.2.2.2.2.2.2.1.1 u9.2.2.2.2.2.2.2.2.2.1.2 ++ (ws_Whole g u9.2.2.2.2.2.2.2.2.1.1 u9.2.2.2.2.2.2.2.2.1.2 ++ (ws_Whole g u9.2.2.2.2.2.2.2.1.1 u9.2.2.2.2.2.2.2.1.2 ++ (ws_Whole g u9.2.2.2.2.2.2.1.1 u9.2.2.2.2.2.2.1.2 ++ (ws_Whole g u9.2.2.2.2.2.1.1 u9.2.2.2.2.2.1.2 ++ (ws_Matrix g u9.2.2.2.2.1.1 u9.2.2.2.2.1.2 ++ (ws_Calc g u9.2.2.2.1.1 u9.2.2.2.1.2 ++ (ws_Matrix g u9.2.2.1.1 u9.2.2.1.2 ++ (ws_Whole g u9.2.1.1 u9.2.1.2 ++ ([] : va_W))))))))))) ++ ([] : va_W)))))))))) H := hP
  have hD : va_D A ([(q104, .inr (11, [.null, .int 0, .int 0]))] ++ ([(h0, .inr (2, [.ref q5, .ref u9.2.2.2.1.1, .ref u9.2.2.1.1, .ref q38, .ref q49, .ref q60, .ref q71, .ref q82, .ref q93, .null, .null, .int 0])), (q5, .inr (1, [.ref u9.1, .int 0, .ref u9.2.1.1, .ref u9.2.2.1.1, .ref u9.2.2.2.1.1, .ref u9.2.2.2.2.1.1, .ref u9.2.2.2.2.2.1.1, .ref u9.2.2.2.2.2.2.1.1, .ref u9.2.2.2.2.2.2.2.1.1, .ref u9.2.2.2.2.2.2.2.2.1.1, .ref u9.2.2.2.2.2.2.2.2.2.1.1, .ref u9.2.2.2.2.2.2.2.2.2.2.1.1, .int 0, .ref u9.2.2.2.2.2.2.2.2.2.2.2, .long 0])), (u9.1, .inl (g 0, 64, .inl (fun _ => 0))), (u9.2.2.2.2.2.2.2.2.2.2.2, .inl (g 0, 16, .inl (fun _ => 0)))] ++ (ws_Whole g q93 u97 ++ (ws_Whole g q82 u86 ++ (ws_Whole g q71 u75 ++ (ws_Whole g q60 u64 ++ (ws_Whole g q49 u53 ++ (ws_Whole g q38 u42 ++ ((ws_Whole g u9.2.2.2.2.2.2.2.2.2.2.1.1 u9.2.2.2.2.2.2.2.2.2.2.1.2 ++ (ws_Whole g u9.2.2.2.2.2.2.2.2.2.1.1 u9.2.2.2.2.2.2.2.2.2.1.2 ++ (ws_Whole g u9.2.2.2.2.2.2.2.2.1.1 u9.2.2.2.2.2.2.2.2.1.2 ++ (ws_Whole g u9.2.2.2.2.2.2.2.1.1 u9.2.2.2.2.2.2.2.1.2 ++ (ws_Whole g u9.2.2.2.2.2.2.1.1 u9.2.2.2.2.2.2.1.2 ++ (ws_Whole g u9.2.2.2.2.2.1.1 u9.2.2.2.2.2.1.2 ++ (ws_Matrix g u9.2.2.2.2.1.1 u9.2.2.2.2.1.2 ++ (ws_Calc g u9.2.2.2.1.1 u9.2.2.2.1.2 ++ (ws_Matrix g u9.2.2.1.1 u9.2.2.1.2 ++ (ws_Whole g u9.2.1.1 u9.2.1.2 ++ ([] : va_W))))))))))) ++ ([] : va_W)))))))))) := hD
  have hFc := pm_free hD hS hA
  refine va_callv (va_runIN (As := []) (rest := [.ref q104, .ref h0]) ⟨hx, hb, hml, hown, hT⟩ (c_Whole_init l D g q104 H.size) (⟨va_cnB 0 hT gd_Whole_init rfl rfl rfl (hN.1 _ nw_500) (hT _ tw_158) (by decide +kernel) ⟨Nat.le_of_ble_eq_true rfl, Nat.le_of_ble_eq_true rfl⟩, rfl, hT _ tw_243⟩) (cp_S hP hK hD hN) rfl rfl hl.1 rfl (lv_room (Nat.le_of_ble_eq_true rfl)) d_Latt_init_108 ⟨Nat.le_of_ble_eq_true rfl, Nat.le_of_ble_eq_true rfl⟩) hS (fun q _ h => hFc q h) hFc (fun u108 t H1 locs ht1 hvm hw hB hz1 hk1 hS => ?_)
  obtain ⟨hP1, hD1⟩ := hB
  rw [ht1] at hP1
  obtain ⟨hP, hD⟩ := pm_join hP hD hk1 hFc hP1 hD1
  generalize H1 = H at hP hS ⊢
  have hP := pm_swapP hP
  have hD := pm_swapD hD
  have hP : va_P D vC ([(h0, .inr (2, [.ref q5, .ref u9.2.2.2.1.1, .ref u9.2.2.1.1, .ref q38, .ref q49, .ref q60, .ref q71, .ref q82, .ref q93, .null, .null, .int 0])), (q5, .inr (1, [.ref u9.1, .int 0, .ref u9.2.1.1, .ref u9.2.2.1.1, .ref u9.2.2.2.1.1, .ref u9.2.2.2.2.1.1, .ref u9.2.2.2.2.2.1.1, .ref u9.2.2.2.2.2.2.1.1, .ref u9.2.2.2.2.2.2.2.1.1, .ref u9.2.2.2.2.2.2.2.2.1.1, .ref u9.2.2.2.2.2.2.2.2.2.1.1, .ref u9.2.2.2.2.2.2.2.2.2.2.1.1, .int 0, .ref u9.2.2.2.2.2.2.2.2.2.2.2, .long 0])), (u9.1, .inl (g 0, 64, .inl (fun _ => 0))), (u9.2.2.2.2.2.2.2.2.2.2.2, .inl (g 0, 16, .inl (fun _ => 0)))] ++ (ws_Whole g q104 u108 ++ (ws_Whole g q93 u97 ++ (ws_Whole g q82 u86 ++ (ws_Whole g q71 u75 ++ (ws_Whole g q60 u64 ++ (ws_Whole g q49 u53 ++ (ws_Whole g q38 u42 ++ ((ws_Whole g u9.2.2.2.2.2.2.2.2.2.2.1.1 u9.2.2.2.2.2.2.2.2.2.2.1.2 ++ (ws_Whole g u9.2.2.2.2.2.2.2.2.2.1.1 u9.2.2.2.2.2.2.2.2.2.1.2 ++ (ws_Whole g u9.2.2.2.2.2.2.2.2.1.1 u9.2.2.2.2.2.2.2.2.1.2 ++ (ws_Whole g u9.2.2.2.2.2.2.2.1.1 u9.2.2.2.2.2.2.2.1.2 ++ (ws_Whole g u9.2.2.2.2.2.2.1.1 u9.2.2.2.2.2.2.1.2 ++ (ws_Whole g u9.2.2.2.2.2.1.1 u9.2.2.2.2.2.1.2 ++ (ws_Matrix g u9.2.2.2.2.1.1 u9.2.2.2.2.1.2 ++ (ws_Calc g u9.2.2.2.1.1 u9.2.2.2.1.2 ++ (ws_Matrix g u9.2.2.1.1 u9.2.2.1.2 ++ (ws_Whole g u9.2.1.1 u9.2.1.2 ++ ([] : va_W))))))))))) ++ ([] : va_W)))))))))) H := hP
  have hD : va_D A ([(h0, .inr (2, [.ref q5, .ref u9.2.2.2.1.1, .ref u9.2.2.1.1, .ref q38, .ref q49, .ref q60, .ref q71, .ref q82, .ref q93, .null, .null, .int 0])), (q5, .inr (1, [.ref u9.1, .int 0, .ref u9.2.1.1, .ref u9.2.2.1.1, .ref u9.2.2.2.1.1, .ref u9.2.2.2.2.1.1, .ref u9.2.2.2.2.2.1.1, .ref u9.2.2.2.2.2.2.1.1, .ref u9.2.2.2.2.2.2.2.1.1, .ref u9.2.2.2.2.2.2.2.2.1.1, .ref u9.2.2.2.2.2.2.2.2.2.1.1, .ref u9.2.2.2.2.2.2.2.2.2.2.1.1, .int 0, .ref u9.2.2.2.2.2.2.2.2.2.2.2, .long 0])), (u9.1, .inl (g 0, 64, .inl (fun _ => 0))), (u9.2.2.2.2.2.2.2.2.2.2.2, .inl (g 0, 16, .inl (fun _ => 0)))] ++ (ws_Whole g q104 u108 ++ (ws_Whole g q93 u97 ++ (ws_Whole g q82 u86 ++ (ws_Whole g q71 u75 ++ (ws_Whole g q60 u64 ++ (ws_Whole g q49 u53 ++ (ws_Whole g q38 u42 ++ ((ws_Whole g u9.2.2.2.2.2.2.2.2.2.2.1.1 u9.2.2.2.2.2.2.2.2.2.2.1.2 ++ (ws_Whole g u9.2.2.2.2.2.2.2.2.2.1.1 u9.2.2.2.2.2.2.2.2.2.1.2 ++ (ws_Whole g u9.2.2.2.2.2.2.2.2.1.1 u9.2.2.2.2.2.2.2.2.1.2 ++ (ws_Whole g u9.2.2.2.2.2.2.2.1.1 u9.2.2.2.2.2.2.2.1.2 ++ (ws_Whole g u9.2.2.2.2.2.2.1.1 u9.2.2.2.2.2.2.1.2 ++ (ws_Whole g u9.2.2.2.2.2.1.1 u9.2.2.2.2.2.1.2 ++ (ws_Matrix g u9.2.2.2.2.1.1 u9.2.2.2.2.1.2 ++ (ws_Calc g u9.2.2.2.1.1 u9.2.2.2.1.2 ++ (ws_Matrix g u9.2.2.1.1 u9.2.2.1.2 ++ (ws_Whole g u9.2.1.1 u9.2.1.2 ++ ([] : va_W))))))))))) ++ ([] : va_W)))))))))) := hD
  refine W.widen (k := 60) (n := 309) (by decide) (by decide) ?_
  refine va_putF (D := D) (ci := 2) (v := .ref q104) (ty := .object "MatrixScripts$Whole") (C := "MatrixScripts$Lattices") (T := T_Latt) (N := 12) hx hb hT in_Latt ty_Latt ty_Latt_ok nm_Latt hown hK hP hD hS 0 rfl rfl 9 (by decide) (hT _ tw_511) (fun _ h9 => h9) rfl hin rfl (by decide +kernel) rfl rfl (Nat.le_of_ble_eq_true rfl) d_Latt_init_111 (fun H locs hP hD hS => ?_)
  have hP : va_P D vC ([(h0, .inr (2, [.ref q5, .ref u9.2.2.2.1.1, .ref u9.2.2.1.1, .ref q38, .ref q49, .ref q60, .ref q71, .ref q82, .ref q93, .ref q104, .null, .int 0])), (q5, .inr (1, [.ref u9.1, .int 0, .ref u9.2.1.1, .ref u9.2.2.1.1, .ref u9.2.2.2.1.1, .ref u9.2.2.2.2.1.1, .ref u9.2.2.2.2.2.1.1, .ref u9.2.2.2.2.2.2.1.1, .ref u9.2.2.2.2.2.2.2.1.1, .ref u9.2.2.2.2.2.2.2.2.1.1, .ref u9.2.2.2.2.2.2.2.2.2.1.1, .ref u9.2.2.2.2.2.2.2.2.2.2.1.1, .int 0, .ref u9.2.2.2.2.2.2.2.2.2.2.2, .long 0])), (u9.1, .inl (g 0, 64, .inl (fun _ => 0))), (u9.2.2.2.2.2.2.2.2.2.2.2, .inl (g 0, 16, .inl (fun _ => 0)))] ++ (ws_Whole g q104 u108 ++ (ws_Whole g q93 u97 ++ (ws_Whole g q82 u86 ++ (ws_Whole g q71 u75 ++ (ws_Whole g q60 u64 ++ (ws_Whole g q49 u53 ++ (ws_Whole g q38 u42 ++ ((ws_Whole g u9.2.2.2.2.2.2.2.2.2.2.1.1 u9.2.2.2.2.2.2.2.2.2.2.1.2 ++ (ws_Whole g u9.2.2.2.2.2.2.2.2.2.1.1 u9.2.2.2.2.2.2.2.2.2.1.2 ++ (ws_Whole g u9.2.2.2.2.2.2.2.2.1.1 u9.2.2.2.2.2.2.2.2.1.2 ++ (ws_Whole g u9.2.2.2.2.2.2.2.1.1 u9.2.2.2.2.2.2.2.1.2 ++ (ws_Whole g u9.2.2.2.2.2.2.1.1 u9.2.2.2.2.2.2.1.2 ++ (ws_Whole g u9.2.2.2.2.2.1.1 u9.2.2.2.2.2.1.2 ++ (ws_Matrix g u9.2.2.2.2.1.1 u9.2.2.2.2.1.2 ++ (ws_Calc g u9.2.2.2.1.1 u9.2.2.2.1.2 ++ (ws_Matrix g u9.2.2.1.1 u9.2.2.1.2 ++ (ws_Whole g u9.2.1.1 u9.2.1.2 ++ ([] : va_W))))))))))) ++ ([] : va_W)))))))))) H := hP
  have hD : va_D A ([(h0, .inr (2, [.ref q5, .ref u9.2.2.2.1.1, .ref u9.2.2.1.1, .ref q38, .ref q49, .ref q60, .ref q71, .ref q82, .ref q93, .ref q104, .null, .int 0])), (q5, .inr (1, [.ref u9.1, .int 0, .ref u9.2.1.1, .ref u9.2.2.1.1, .ref u9.2.2.2.1.1, .ref u9.2.2.2.2.1.1, .ref u9.2.2.2.2.2.1.1, .ref u9.2.2.2.2.2.2.1.1, .ref u9.2.2.2.2.2.2.2.1.1, .ref u9.2.2.2.2.2.2.2.2.1.1, .ref u9.2.2.2.2.2.2.2.2.2.1.1, .ref u9.2.2.2.2.2.2.2.2.2.2.1.1, .int 0, .ref u9.2.2.2.2.2.2.2.2.2.2.2, .long 0])), (u9.1, .inl (g 0, 64, .inl (fun _ => 0))), (u9.2.2.2.2.2.2.2.2.2.2.2, .inl (g 0, 16, .inl (fun _ => 0)))] ++ (ws_Whole g q104 u108 ++ (ws_Whole g q93 u97 ++ (ws_Whole g q82 u86 ++ (ws_Whole g q71 u75 ++ (ws_Whole g q60 u64 ++ (ws_Whole g q49 u53 ++ (ws_Whole g q38 u42 ++ ((ws_Whole g u9.2.2.2.2.2.2.2.2.2.2.1.1 u9.2.2.2.2.2.2.2.2.2.2.1.2 ++ (ws_Whole g u9.2.2.2.2.2.2.2.2.2.1.1 u9.2.2.2.2.2.2.2.2.2.1.2 ++ (ws_Whole g u9.2.2.2.2.2.2.2.2.1.1 u9.2.2.2.2.2.2.2.2.1.2 ++ (ws_Whole g u9.2.2.2.2.2.2.2.1.1 u9.2.2.2.2.2.2.2.1.2 ++ (ws_Whole g u9.2.2.2.2.2.2.1.1 u9.2.2.2.2.2.2.1.2 ++ (ws_Whole g u9.2.2.2.2.2.1.1 u9.2.2.2.2.2.1.2 ++ (ws_Matrix g u9.2.2.2.2.1.1 u9.2.2.2.2.1.2 ++ (ws_Calc g u9.2.2.2.1.1 u9.2.2.2.1.2 ++ (ws_Matrix g u9.2.2.1.1 u9.2.2.1.2 ++ (ws_Whole g u9.2.1.1 u9.2.1.2 ++ ([] : va_W))))))))))) ++ ([] : va_W)))))))))) := hD
  refine lv_aload_n hx hb d_Latt_init_114 rfl (lv_at hl 0 rfl) ?_
  refine pm_new (D := D) (ci := 11) (fs := [.null, .int 0, .int 0]) (C := "MatrixScripts$Whole") (T := T_Whole) (N := 3) hx hb hT in_Whole ty_Whole ty_Whole_ok hown (hT _ tw_499) (hT _ tw_241) (hT _ tw_158) hK hP hD hS hA rfl (by decide) (Nat.le_of_ble_eq_true rfl) (Nat.le_of_ble_eq_true rfl) d_Latt_init_115 (fun q115 H hP hD hS => ?_)
  have hP : va_P D vC ([(h0, .inr (2, [.ref q5, .ref u9.2.2.2.1.1, .ref u9.2.2.1.1, .ref q38, .ref q49, .ref q60, .ref q71, .ref q82, .ref q93, .ref q104, .null, .int 0])), (q5, .inr (1, [.ref u9.1, .int 0, .ref u9.2.1.1, .ref u9.2.2.1.1, .ref u9.2.2.2.1.1, .ref u9.2.2.2.2.1.1, .ref u9.2.2.2.2.2.1.1, .ref u9.2.2.2.2.2.2.1.1, .ref u9.2.2.2.2.2.2.2.1.1, .ref u9.2.2.2.2.2.2.2.2.1.1, .ref u9.2.2.2.2.2.2.2.2.2.1.1, .ref u9.2.2.2.2.2.2.2.2.2.2.1.1, .int 0, .ref u9.2.2.2.2.2.2.2.2.2.2.2, .long 0])), (u9.1, .inl (g 0, 64, .inl (fun _ => 0))), (u9.2.2.2.2.2.2.2.2.2.2.2, .inl (g 0, 16, .inl (fun _ => 0))), (q115, .inr (11, [.null, .int 0, .int 0]))] ++ (ws_Whole g q104 u108 ++ (ws_Whole g q93 u97 ++ (ws_Whole g q82 u86 ++ (ws_Whole g q71 u75 ++ (ws_Whole g q60 u64 ++ (ws_Whole g q49 u53 ++ (ws_Whole g q38 u42 ++ ((ws_Whole g u9.2.2.2.2.2.2.2.2.2.2.1.1 u9.2.2.2.2.2.2.2.2.2.2.1.2 ++ (ws_Whole g u9.2.2.2.2.2.2.2.2.2.1.1 u9.2.2.2.2.2.2.2.2.2.1.2 ++ (ws_Whole g u9.2.2.2.2.2.2.2.2.1.1 u9.2.2.2.2.2.2.2.2.1.2 ++ (ws_Whole g u9.2.2.2.2.2.2.2.1.1 u9.2.2.2.2.2.2.2.1.2 ++ (ws_Whole g u9.2.2.2.2.2.2.1.1 u9.2.2.2.2.2.2.1.2 ++ (ws_Whole g u9.2.2.2.2.2.1.1 u9.2.2.2.2.2.1.2 ++ (ws_Matrix g u9.2.2.2.2.1.1 u9.2.2.2.2.1.2 ++ (ws_Calc g u9.2.2.2.1.1 u9.2.2.2.1.2 ++ (ws_Matrix g u9.2.2.1.1 u9.2.2.1.2 ++ (ws_Whole g u9.2.1.1 u9.2.1.2 ++ ([] : va_W))))))))))) ++ ([] : va_W)))))))))) H := hP
  have hD : va_D A ([(h0, .inr (2, [.ref q5, .ref u9.2.2.2.1.1, .ref u9.2.2.1.1, .ref q38, .ref q49, .ref q60, .ref q71, .ref q82, .ref q93, .ref q104, .null, .int 0])), (q5, .inr (1, [.ref u9.1, .int 0, .ref u9.2.1.1, .ref u9.2.2.1.1, .ref u9.2.2.2.1.1, .ref u9.2.2.2.2.1.1, .ref u9.2.2.2.2.2.1.1, .ref u9.2.2.2.2.2.2.1.1, .ref u9.2.2.2.2.2.2.2.1.1, .ref u9.2.2.2.2.2.2.2.2.1.1, .ref u9.2.2.2.2.2.2.2.2.2.1.1, .ref u9.2.2.2.2.2.2.2.2.2.2.1.1, .int 0, .ref u9.2.2.2.2.2.2.2.2.2.2.2, .long 0])), (u9.1, .inl (g 0, 64, .inl (fun _ => 0))), (u9.2.2.2.2.2.2.2.2.2.2.2, .inl (g 0, 16, .inl (fun _ => 0))), (q115, .inr (11, [.null, .int 0, .int 0]))] ++ (ws_Whole g q104 u108 ++ (ws_Whole g q93 u97 ++ (ws_Whole g q82 u86 ++ (ws_Whole g q71 u75 ++ (ws_Whole g q60 u64 ++ (ws_Whole g q49 u53 ++ (ws_Whole g q38 u42 ++ ((ws_Whole g u9.2.2.2.2.2.2.2.2.2.2.1.1 u9.2.2.2.2.2.2.2.2.2.2.1.2 ++ (ws_Whole g u9.2.2.2.2.2.2.2.2.2.1.1 u9.2.2.2.2.2.2.2.2.2.1.2 ++ (ws_Whole g u9.2.2.2.2.2.2.2.2.1.1 u9.2.2.2.2.2.2.2.2.1.2 ++ (ws_Whole g u9.2.2.2.2.2.2.2.1.1 u9.2.2.2.2.2.2.2.1.2 ++ (ws_Whole g u9.2.2.2.2.2.2.1.1 u9.2.2.2.2.2.2.1.2 ++ (ws_Whole g u9.2.2.2.2.2.1.1 u9.2.2.2.2.2.1.2 ++ (ws_Matrix g u9.2.2.2.2.1.1 u9.2.2.2.2.1.2 ++ (ws_Calc g u9.2.2.2.1.1 u9.2.2.2.1.2 ++ (ws_Matrix g u9.2.2.1.1 u9.2.2.1.2 ++ (ws_Whole g u9.2.1.1 u9.2.1.2 ++ ([] : va_W))))))))))) ++ ([] : va_W)))))))))) := hD
  refine W.widen (k := 61) (n := 312) (by decide) (by decide) ?_
  refine lv_dup hx hb d_Latt_init_118 rfl ?_
  have hP := pm_subP (a' := [(q115, .inr (11, [.null, .int 0, .int 0])), (h0, .inr (2, [.ref q5, .ref u9.2.2.2.1.1, .ref u9.2.2.1.1, .ref q38, .ref q49, .ref q60, .ref q71, .ref q82, .ref q93, .ref q104, .null, .int 0])), (q5, .inr (1, [.ref u9.1, .int 0, .ref u9.2.1.1, .ref u9.2.2.1.1, .ref u9.2.2.2.1.1, .ref u9.2.2.2.2.1.1, .ref u9.2.2.2.2.2.1.1, .ref u9.2.2.2.2.2.2.1.1, .ref u9.2.2.2.2.2.2.2.1.1, .ref u9.2.2.2.2.2.2.2.2.1.1, .ref u9.2.2.2.2.2.2.2.2.2.1.1, .ref u9.2.2.2.2.2.2.2.2.2.2.1.1, .int 0, .ref u9.2.2.2.2.2.2.2.2.2.2.2, .long 0])), (u9.1, .inl (g 0, 64, .inl (fun _ => 0))), (u9.2.2.2.2.2.2.2.2.2.2.2, .inl (g 0, 16, .inl (fun _ => 0)))]) hP [4, 0, 1, 2, 3] rfl
  have hD := pm_subD (a' := [(q115, .inr (11, [.null, .int 0, .int 0])), (h0, .inr (2, [.ref q5, .ref u9.2.2.2.1.1, .ref u9.2.2.1.1, .ref q38, .ref q49, .ref q60, .ref q71, .ref q82, .ref q93, .ref q104, .null, .int 0])), (q5, .inr (1, [.ref u9.1, .int 0, .ref u9.2.1.1, .ref u9.2.2.1.1, .ref u9.2.2.2.1.1, .ref u9.2.2.2.2.1.1, .ref u9.2.2.2.2.2.1.1, .ref u9.2.2.2.2.2.2.1.1, .ref u9.2.2.2.2.2.2.2.1.1, .ref u9.2.2.2.2.2.2.2.2.1.1, .ref u9.2.2.2.2.2.2.2.2.2.1.1, .ref u9.2.2.2.2.2.2.2.2.2.2.1.1, .int 0, .ref u9.2.2.2.2.2.2.2.2.2.2.2, .long 0])), (u9.1, .inl (g 0, 64, .inl (fun _ => 0))), (u9.2.2.2.2.2.2.2.2.2.2.2, .inl (g 0, 16, .inl (fun _ => 0)))]) hD [4, 0, 1, 2, 3] (by decide) rfl
  have hP : va_P D vC ([(q115, .inr (11, [.null, .int 0, .int 0]))] ++ ([(h0, .inr (2, [.ref q5, .ref u9.2.2.2.1.1, .ref u9.2.2.1.1, .ref q38, .ref q49, .ref q60, .ref q71, .ref q82, .ref q93, .ref q104, .null, .int 0])), (q5, .inr (1, [.ref u9.1, .int 0, .ref u9.2.1.1, .ref u9.2.2.1.1, .ref u9.2.2.2.1.1, .ref u9.2.2.2.2.1.1, .ref u9.2.2.2.2.2.1.1, .ref u9.2.2.2.2.2.2.1.1, .ref u9.2.2.2.2.2.2.2.1.1, .ref u9.2.2.2.2.2.2.2.2.1.1, .ref u9.2.2.2.2.2.2.2.2.2.1.1, .ref u9.2.2.2.2.2.2.2.2.2.2.1.1, .int 0, .ref u9.2.2.2.2.2.2.2.2.2.2.2, .long 0])), (u9.1, .inl (g 0, 64, .inl (fun _ => 0))), (u9.2.2.2.2.2.2.2.2.2.2.2, .inl (g 0, 16, .inl (fun _ => 0)))] ++ (ws_Whole g q104 u108 ++ (ws_Whole g q93 u97 ++ (ws_Whole g q82 u86 ++ (ws_Whole g q71 u75 ++ (ws_Whole g q60 u64 ++ (ws_Whole g q49 u53 ++ (ws_Whole g q38 u42 ++ ((ws_Whole g u9.2.2.2.2.2.2.2.2.2.2.1.1 u9.2.2.2.2.2.2.2.2.2.2.1.2 ++ (ws_Whole g u9.2.2.2.2.2.2.2.2.2.1.1 u9.2.2.2.2.2.2.2.2.2.1.2 ++ (ws_Whole g u9.2.2.2.2.2.2.2.2.1.1 u9.2.2.2.2.2.2.2.2.1.2 ++ (ws_Whole g u9.2.2.2.2.2.2.2.1.1 u9.2.2.2.2.2.2.2.1.2 ++ (ws_Whole g u9.2.2.2.2.2.2.1.1 u9.2.2.2.2.2.2.1.2 ++ (ws_Whole g u9.2.2.2.2.2.1.1 u9.2.2.2.2.2.1.2 ++ (ws_Matrix g u9.2.2.2.2.1.1 u9.2.2.2.2.1.2 ++ (ws_Calc g u9.2.2.2.1.1 u9.2.2.2.1.2 ++ (ws_Matrix g u9.2.2.1.1 u9.2.2.1.2 ++ (ws_Whole g u9.2.1.1 u9.2.1.2 ++ ([] : va_W))))))))))) ++ ([] : va_W))))))))))) H := hP
  have hD : va_D A ([(q115, .inr (11, [.null, .int 0, .int 0]))] ++ ([(h0, .inr (2, [.ref q5, .ref u9.2.2.2.1.1, .ref u9.2.2.1.1, .ref q38, .ref q49, .ref q60, .ref q71, .ref q82, .ref q93, .ref q104, .null, .int 0])), (q5, .inr (1, [.ref u9.1, .int 0, .ref u9.2.1.1, .ref u9.2.2.1.1, .ref u9.2.2.2.1.1, .ref u9.2.2.2.2.1.1, .ref u9.2.2.2.2.2.1.1, .ref u9.2.2.2.2.2.2.1.1, .ref u9.2.2.2.2.2.2.2.1.1, .ref u9.2.2.2.2.2.2.2.2.1.1, .ref u9.2.2.2.2.2.2.2.2.2.1.1, .ref u9.2.2.2.2.2.2.2.2.2.2.1.1, .int 0, .ref u9.2.2.2.2.2.2.2.2.2.2.2, .long 0])), (u9.1, .inl (g 0, 64, .inl (fun _ => 0))), (u9.2.2.2.2.2.2.2.2.2.2.2, .inl (g 0, 16, .inl (fun _ => 0)))] ++ (ws_Whole g q104 u108 ++ (ws_Whole g q93 u97 ++ (ws_Whole g q82 u86 ++ (ws_Whole g q71 u75 ++ (ws_Whole g q60 u64 ++ (ws_Whole g q49 u53 ++ (ws_Whole g q38 u42 ++ ((ws_Whole g u9.2.2.2.2.2.2.2.2.2.2.1.1 u9.2.2.2.2.2.2.2.2.2.2.1.2 ++ (ws_Whole g u9.2.2.2.2.2.2.2.2.2.1.1 u9.2.2.2.2.2.2.2.2.2.1.2 ++ (ws_Whole g u9.2.2.2.2.2.2.2.2.1.1 u9.2.2.2.2.2.2.2.2.1.2 ++ (ws_Whole g u9.2.2.2.2.2.2.2.1.1 u9.2.2.2.2.2.2.2.1.2 ++ (ws_Whole g u9.2.2.2.2.2.2.1.1 u9.2.2.2.2.2.2.1.2 ++ (ws_Whole g u9.2.2.2.2.2.1.1 u9.2.2.2.2.2.1.2 ++ (ws_Matrix g u9.2.2.2.2.1.1 u9.2.2.2.2.1.2 ++ (ws_Calc g u9.2.2.2.1.1 u9.2.2.2.1.2 ++ (ws_Matrix g u9.2.2.1.1 u9.2.2.1.2 ++ (ws_Whole g u9.2.1.1 u9.2.1.2 ++ ([] : va_W))))))))))) ++ ([] : va_W))))))))))) := hD
  have hFc := pm_free hD hS hA
  refine va_callv (va_runIN (As := []) (rest := [.ref q115, .ref h0]) ⟨hx, hb, hml, hown, hT⟩ (c_Whole_init l D g q115 H.size) (⟨va_cnB 0 hT gd_Whole_init rfl rfl rfl (hN.1 _ nw_500) (hT _ tw_158) (by decide +kernel) ⟨Nat.le_of_ble_eq_true rfl, Nat.le_of_ble_eq_true rfl⟩, rfl, hT _ tw_243⟩) (cp_S hP hK hD hN) rfl rfl hl.1 rfl (lv_room (Nat.le_of_ble_eq_true rfl)) d_Latt_init_119 ⟨Nat.le_of_ble_eq_true rfl, Nat.le_of_ble_eq_true rfl⟩) hS (fun q _ h => hFc q h) hFc (fun u119 t H1 locs ht1 hvm hw hB hz1 hk1 hS => ?_)
  obtain ⟨hP1, hD1⟩ := hB
  rw [ht1] at hP1
  obtain ⟨hP, hD⟩ := pm_join hP hD hk1 hFc hP1 hD1
  generalize H1 = H at hP hS ⊢
  have hP := pm_swapP hP
  have hD := pm_swapD hD
  have hP : va_P D vC ([(h0, .inr (2, [.ref q5, .ref u9.2.2.2.1.1, .ref u9.2.2.1.1, .ref q38, .ref q49, .ref q60, .ref q71, .ref q82, .ref q93, .ref q104, .null, .int 0])), (q5, .inr (1, [.ref u9.1, .int 0, .ref u9.2.1.1, .ref u9.2.2.1.1, .ref u9.2.2.2.1.1, .ref u9.2.2.2.2.1.1, .ref u9.2.2.2.2.2.1.1, .ref u9.2.2.2.2.2.2.1.1, .ref u9.2.2.2.2.2.2.2.1.1, .ref u9.2.2.2.2.2.2.2.2.1.1, .ref u9.2.2.2.2.2.2.2.2.2.1.1, .ref u9.2.2.2.2.2.2.2.2.2.2.1.1, .int 0, .ref u9.2.2.2.2.2.2.2.2.2.2.2, .long 0])), (u9.1, .inl (g 0, 64, .inl (fun _ => 0))), (u9.2.2.2.2.2.2.2.2.2.2.2, .inl (g 0, 16, .inl (fun _ => 0)))] ++ (ws_Whole g q115 u119 ++ (ws_Whole g q104 u108 ++ (ws_Whole g q93 u97 ++ (ws_Whole g q82 u86 ++ (ws_Whole g q71 u75 ++ (ws_Whole g q60 u64 ++ (ws_Whole g q49 u53 ++ (ws_Whole g q38 u42 ++ ((ws_Whole g u9.2.2.2.2.2.2.2.2.2.2.1.1 u9.2.2.2.2.2.2.2.2.2.2.1.2 ++ (ws_Whole g u9.2.2.2.2.2.2.2.2.2.1.1 u9.2.2.2.2.2.2.2.2.2.1.2 ++ (ws_Whole g u9.2.2.2.2.2.2.2.2.1.1 u9.2.2.2.2.2.2.2.2.1.2 ++ (ws_Whole g u9.2.2.2.2.2.2.2.1.1 u9.2.2.2.2.2.2.2.1.2 ++ (ws_Whole g u9.2.2.2.2.2.2.1.1 u9.2.2.2.2.2.2.1.2 ++ (ws_Whole g u9.2.2.2.2.2.1.1 u9.2.2.2.2.2.1.2 ++ (ws_Matrix g u9.2.2.2.2.1.1 u9.2.2.2.2.1.2 ++ (ws_Calc g u9.2.2.2.1.1 u9.2.2.2.1.2 ++ (ws_Matrix g u9.2.2.1.1 u9.2.2.1.2 ++ (ws_Whole g u9.2.1.1 u9.2.1.2 ++ ([] : va_W))))))))))) ++ ([] : va_W))))))))))) H := hP
  have hD : va_D A ([(h0, .inr (2, [.ref q5, .ref u9.2.2.2.1.1, .ref u9.2.2.1.1, .ref q38, .ref q49, .ref q60, .ref q71, .ref q82, .ref q93, .ref q104, .null, .int 0])), (q5, .inr (1, [.ref u9.1, .int 0, .ref u9.2.1.1, .ref u9.2.2.1.1, .ref u9.2.2.2.1.1, .ref u9.2.2.2.2.1.1, .ref u9.2.2.2.2.2.1.1, .ref u9.2.2.2.2.2.2.1.1, .ref u9.2.2.2.2.2.2.2.1.1, .ref u9.2.2.2.2.2.2.2.2.1.1, .ref u9.2.2.2.2.2.2.2.2.2.1.1, .ref u9.2.2.2.2.2.2.2.2.2.2.1.1, .int 0, .ref u9.2.2.2.2.2.2.2.2.2.2.2, .long 0])), (u9.1, .inl (g 0, 64, .inl (fun _ => 0))), (u9.2.2.2.2.2.2.2.2.2.2.2, .inl (g 0, 16, .inl (fun _ => 0)))] ++ (ws_Whole g q115 u119 ++ (ws_Whole g q104 u108 ++ (ws_Whole g q93 u97 ++ (ws_Whole g q82 u86 ++ (ws_Whole g q71 u75 ++ (ws_Whole g q60 u64 ++ (ws_Whole g q49 u53 ++ (ws_Whole g q38 u42 ++ ((ws_Whole g u9.2.2.2.2.2.2.2.2.2.2.1.1 u9.2.2.2.2.2.2.2.2.2.2.1.2 ++ (ws_Whole g u9.2.2.2.2.2.2.2.2.2.1.1 u9.2.2.2.2.2.2.2.2.2.1.2 ++ (ws_Whole g u9.2.2.2.2.2.2.2.2.1.1 u9.2.2.2.2.2.2.2.2.1.2 ++ (ws_Whole g u9.2.2.2.2.2.2.2.1.1 u9.2.2.2.2.2.2.2.1.2 ++ (ws_Whole g u9.2.2.2.2.2.2.1.1 u9.2.2.2.2.2.2.1.2 ++ (ws_Whole g u9.2.2.2.2.2.1.1 u9.2.2.2.2.2.1.2 ++ (ws_Matrix g u9.2.2.2.2.1.1 u9.2.2.2.2.1.2 ++ (ws_Calc g u9.2.2.2.1.1 u9.2.2.2.1.2 ++ (ws_Matrix g u9.2.2.1.1 u9.2.2.1.2 ++ (ws_Whole g u9.2.1.1 u9.2.1.2 ++ ([] : va_W))))))))))) ++ ([] : va_W))))))))))) := hD
  refine W.widen (k := 62) (n := 315) (by decide) (by decide) ?_
  refine va_putF (D := D) (ci := 2) (v := .ref q115) (ty := .object "MatrixScripts$Whole") (C := "MatrixScripts$Lattices") (T := T_Latt) (N := 12) hx hb hT in_Latt ty_Latt ty_Latt_ok nm_Latt hown hK hP hD hS 0 rfl rfl 10 (by decide) (hT _ tw_512) (fun _ h9 => h9) rfl hin rfl (by decide +kernel) rfl rfl (Nat.le_of_ble_eq_true rfl) d_Latt_init_122 (fun H locs hP hD hS => ?_)
  have hP : va_P D vC ([(h0, .inr (2, [.ref q5, .ref u9.2.2.2.1.1, .ref u9.2.2.1.1, .ref q38, .ref q49, .ref q60, .ref q71, .ref q82, .ref q93, .ref q104, .ref q115, .int 0])), (q5, .inr (1, [.ref u9.1, .int 0, .ref u9.2.1.1, .ref u9.2.2.1.1, .ref u9.2.2.2.1.1, .ref u9.2.2.2.2.1.1, .ref u9.2.2.2.2.2.1.1, .ref u9.2.2.2.2.2.2.1.1, .ref u9.2.2.2.2.2.2.2.1.1, .ref u9.2.2.2.2.2.2.2.2.1.1, .ref u9.2.2.2.2.2.2.2.2.2.1.1, .ref u9.2.2.2.2.2.2.2.2.2.2.1.1, .int 0, .ref u9.2.2.2.2.2.2.2.2.2.2.2, .long 0])), (u9.1, .inl (g 0, 64, .inl (fun _ => 0))), (u9.2.2.2.2.2.2.2.2.2.2.2, .inl (g 0, 16, .inl (fun _ => 0)))] ++ (ws_Whole g q115 u119 ++ (ws_Whole g q104 u108 ++ (ws_Whole g q93 u97 ++ (ws_Whole g q82 u86 ++ (ws_Whole g q71 u75 ++ (ws_Whole g q60 u64 ++ (ws_Whole g q49 u53 ++ (ws_Whole g q38 u42 ++ ((ws_Whole g u9.2.2.2.2.2.2.2.2.2.2.1.1 u9.2.2.2.2.2.2.2.2.2.2.1.2 ++ (ws_Whole g u9.2.2.2.2.2.2.2.2.2.1.1 u9.2.2.2.2.2.2.2.2.2.1.2 ++ (ws_Whole g u9.2.2.2.2.2.2.2.2.1.1 u9.2.2.2.2.2.2.2.2.1.2 ++ (ws_Whole g u9.2.2.2.2.2.2.2.1.1 u9.2.2.2.2.2.2.2.1.2 ++ (ws_Whole g u9.2.2.2.2.2.2.1.1 u9.2.2.2.2.2.2.1.2 ++ (ws_Whole g u9.2.2.2.2.2.1.1 u9.2.2.2.2.2.1.2 ++ (ws_Matrix g u9.2.2.2.2.1.1 u9.2.2.2.2.1.2 ++ (ws_Calc g u9.2.2.2.1.1 u9.2.2.2.1.2 ++ (ws_Matrix g u9.2.2.1.1 u9.2.2.1.2 ++ (ws_Whole g u9.2.1.1 u9.2.1.2 ++ ([] : va_W))))))))))) ++ ([] : va_W))))))))))) H := hP
  have hD : va_D A ([(h0, .inr (2, [.ref q5, .ref u9.2.2.2.1.1, .ref u9.2.2.1.1, .ref q38, .ref q49, .ref q60, .ref q71, .ref q82, .ref q93, .ref q104, .ref q115, .int 0])), (q5, .inr (1, [.ref u9.1, .int 0, .ref u9.2.1.1, .ref u9.2.2.1.1, .ref u9.2.2.2.1.1, .ref u9.2.2.2.2.1.1, .ref u9.2.2.2.2.2.1.1, .ref u9.2.2.2.2.2.2.1.1, .ref u9.2.2.2.2.2.2.2.1.1, .ref u9.2.2.2.2.2.2.2.2.1.1, .ref u9.2.2.2.2.2.2.2.2.2.1.1, .ref u9.2.2.2.2.2.2.2.2.2.2.1.1, .int 0, .ref u9.2.2.2.2.2.2.2.2.2.2.2, .long 0])), (u9.1, .inl (g 0, 64, .inl (fun _ => 0))), (u9.2.2.2.2.2.2.2.2.2.2.2, .inl (g 0, 16, .inl (fun _ => 0)))] ++ (ws_Whole g q115 u119 ++ (ws_Whole g q104 u108 ++ (ws_Whole g q93 u97 ++ (ws_Whole g q82 u86 ++ (ws_Whole g q71 u75 ++ (ws_Whole g q60 u64 ++ (ws_Whole g q49 u53 ++ (ws_Whole g q38 u42 ++ ((ws_Whole g u9.2.2.2.2.2.2.2.2.2.2.1.1 u9.2.2.2.2.2.2.2.2.2.2.1.2 ++ (ws_Whole g u9.2.2.2.2.2.2.2.2.2.1.1 u9.2.2.2.2.2.2.2.2.2.1.2 ++ (ws_Whole g u9.2.2.2.2.2.2.2.2.1.1 u9.2.2.2.2.2.2.2.2.1.2 ++ (ws_Whole g u9.2.2.2.2.2.2.2.1.1 u9.2.2.2.2.2.2.2.1.2 ++ (ws_Whole g u9.2.2.2.2.2.2.1.1 u9.2.2.2.2.2.2.1.2 ++ (ws_Whole g u9.2.2.2.2.2.1.1 u9.2.2.2.2.2.1.2 ++ (ws_Matrix g u9.2.2.2.2.1.1 u9.2.2.2.2.1.2 ++ (ws_Calc g u9.2.2.2.1.1 u9.2.2.2.1.2 ++ (ws_Matrix g u9.2.2.1.1 u9.2.2.1.2 ++ (ws_Whole g u9.2.1.1 u9.2.1.2 ++ ([] : va_W))))))))))) ++ ([] : va_W))))))))))) := hD
  exact W.vret hx hb hr (fun t ht1 hW => ⟨⟨((q5, u9), (q38, u42), (q49, u53), (q60, u64), (q71, u75), (q82, u86), (q93, u97), (q104, u108), (q115, u119)), rfl, trivial, by rw [ht1]; exact hP, hD⟩, hS.F ht1⟩) hS.2.2 d_Latt_init_125
end
