theorem tw_0 : (Jvm.Cond.selects "MatrixScripts$Script" ({ cls := "MatrixScripts$Script", name := "advance", desc := "()V" } : Jvm.MethodName) ({ cls := "MatrixScripts$Script", name := "advance", desc := "()V" } : Jvm.MethodName)) ∈ wd_all := wd_i 0 (by decide +kernel) (by decide +kernel)
theorem tw_1 : (Jvm.Cond.selects "MatrixScripts$Tape" ({ cls := "MatrixScripts$Tape", name := "behindBlanks", desc := "(I)I" } : Jvm.MethodName) ({ cls := "MatrixScripts$Tape", name := "behindBlanks", desc := "(I)I" } : Jvm.MethodName)) ∈ wd_all := wd_i 1 (by decide +kernel) (by decide +kernel)
theorem tw_76 : (Jvm.Cond.selects "MatrixScriptsModel" ({ cls := "MatrixScriptsModel", name := "statements", desc := "(Z)I" } : Jvm.MethodName) ({ cls := "MatrixScriptsModel", name := "statements", desc := "(Z)I" } : Jvm.MethodName)) ∈ wd_all := wd_i 76 (by decide +kernel) (by decide +kernel)
theorem tw_77 : (Jvm.Cond.selects "MatrixScriptsModel" ({ cls := "MatrixScriptsModel", name := "next", desc := "()V" } : Jvm.MethodName) ({ cls := "MatrixScriptsModel", name := "next", desc := "()V" } : Jvm.MethodName)) ∈ wd_all := wd_i 77 (by decide +kernel) (by decide +kernel)
theorem tw_78 : (Jvm.Cond.selects "MatrixScriptsModel" ({ cls := "MatrixScriptsModel", name := "peek", desc := "(I)I" } : Jvm.MethodName) ({ cls := "MatrixScriptsModel", name := "peek", desc := "(I)I" } : Jvm.MethodName)) ∈ wd_all := wd_i 78 (by decide +kernel) (by decide +kernel)
theorem tw_167 : (Jvm.Cond.initialized "MatrixScriptsModel") ∈ wd_all := wd_i 167 (by decide +kernel) (by decide +kernel)
theorem tw_215 : (Jvm.Cond.fieldLink "MatrixScripts$Tape" (15 : Nat) "MatrixScripts$Tape" "bytes" "I") ∈ wd_all := wd_i 215 (by decide +kernel) (by decide +kernel)
theorem tw_216 : (Jvm.Cond.fieldLink "MatrixScripts$Script" (90 : Nat) "MatrixScripts$Tape" "kind" "I") ∈ wd_all := wd_i 216 (by decide +kernel) (by decide +kernel)
theorem tw_217 : (Jvm.Cond.fieldLink "MatrixScripts$Tape" (38 : Nat) "MatrixScripts$Tape" "kind" "I") ∈ wd_all := wd_i 217 (by decide +kernel) (by decide +kernel)
theorem tw_218 : (Jvm.Cond.fieldLink "MatrixScripts$Tape" (32 : Nat) "MatrixScripts$Tape" "start" "I") ∈ wd_all := wd_i 218 (by decide +kernel) (by decide +kernel)
theorem tw_221 : (Jvm.Cond.fieldLink "MatrixScripts$Tape" (25 : Nat) "MatrixScripts$Tape" "after" "I") ∈ wd_all := wd_i 221 (by decide +kernel) (by decide +kernel)
theorem tw_685 : (Jvm.Cond.fieldLink "MatrixScripts" (52 : Nat) "MatrixScripts$Script" "codes" "I") ∈ wd_all := wd_i 685 (by decide +kernel) (by decide +kernel)
theorem tw_687 : (Jvm.Cond.fieldLink "MatrixScripts" (61 : Nat) "MatrixScripts$Script" "done" "I") ∈ wd_all := wd_i 687 (by decide +kernel) (by decide +kernel)
theorem tw_691 : (Jvm.Cond.fieldLink "MatrixScripts" (55 : Nat) "MatrixScripts$Script" "fault" "I") ∈ wd_all := wd_i 691 (by decide +kernel) (by decide +kernel)
theorem tw_752 : (Jvm.Cond.codeWith ({ cls := "MatrixScripts", name := "run", desc := "()I" } : Jvm.MethodName) prog_1_method_4_code (2 : Nat) (Option.some Jvm.ClassFile.FieldType.int) [((7 : Nat), (14 : Nat), (17 : Nat), (33 : Nat))]) ∈ wd_all := wd_i 752 (by decide +kernel) (by decide +kernel)
theorem tw_754 : (Jvm.Cond.methodLink "MatrixScripts" (43 : Nat) ({ cls := "MatrixScripts$Script", name := "begin", desc := "()V" } : Jvm.MethodName)) ∈ wd_all := wd_i 754 (by decide +kernel) (by decide +kernel)
theorem tw_755 : (Jvm.Cond.instanceMethod ({ cls := "MatrixScripts$Script", name := "begin", desc := "()V" } : Jvm.MethodName)) ∈ wd_all := wd_i 755 (by decide +kernel) (by decide +kernel)
theorem tw_756 : (Jvm.Cond.selects "MatrixScripts$Script" ({ cls := "MatrixScripts$Script", name := "begin", desc := "()V" } : Jvm.MethodName) ({ cls := "MatrixScripts$Script", name := "begin", desc := "()V" } : Jvm.MethodName)) ∈ wd_all := wd_i 756 (by decide +kernel) (by decide +kernel)
theorem tw_762 : (Jvm.Cond.methodLink "MatrixScripts" (46 : Nat) ({ cls := "MatrixScripts$Script", name := "read", desc := "()V" } : Jvm.MethodName)) ∈ wd_all := wd_i 762 (by decide +kernel) (by decide +kernel)
theorem tw_763 : (Jvm.Cond.instanceMethod ({ cls := "MatrixScripts$Script", name := "read", desc := "()V" } : Jvm.MethodName)) ∈ wd_all := wd_i 763 (by decide +kernel) (by decide +kernel)
theorem tw_764 : (Jvm.Cond.selects "MatrixScripts$Script" ({ cls := "MatrixScripts$Script", name := "read", desc := "()V" } : Jvm.MethodName) ({ cls := "MatrixScripts$Script", name := "read", desc := "()V" } : Jvm.MethodName)) ∈ wd_all := wd_i 764 (by decide +kernel) (by decide +kernel)
theorem tw_765 : (Jvm.Cond.code ({ cls := "MatrixScripts$Script", name := "read", desc := "()V" } : Jvm.MethodName) prog_12_method_4_code (4 : Nat) (Option.none : Option Jvm.ClassFile.FieldType)) ∈ wd_all := wd_i 765 (by decide +kernel) (by decide +kernel)
theorem tw_766 : (Jvm.Cond.methodLink "MatrixScripts$Script" (86 : Nat) ({ cls := "MatrixScripts$Script", name := "advance", desc := "()V" } : Jvm.MethodName)) ∈ wd_all := wd_i 766 (by decide +kernel) (by decide +kernel)
theorem tw_768 : (Jvm.Cond.instanceMethod ({ cls := "MatrixScripts$Script", name := "advance", desc := "()V" } : Jvm.MethodName)) ∈ wd_all := wd_i 768 (by decide +kernel) (by decide +kernel)
theorem tw_769 : (Jvm.Cond.code ({ cls := "MatrixScripts$Script", name := "advance", desc := "()V" } : Jvm.MethodName) prog_12_method_13_code (1 : Nat) (Option.none : Option Jvm.ClassFile.FieldType)) ∈ wd_all := wd_i 769 (by decide +kernel) (by decide +kernel)
theorem tw_770 : (Jvm.Cond.methodLink "MatrixScripts$Script" (129 : Nat) ({ cls := "MatrixScripts$Tape", name := "next", desc := "()Z" } : Jvm.MethodName)) ∈ wd_all := wd_i 770 (by decide +kernel) (by decide +kernel)
theorem tw_771 : (Jvm.Cond.instanceMethod ({ cls := "MatrixScripts$Tape", name := "next", desc := "()Z" } : Jvm.MethodName)) ∈ wd_all := wd_i 771 (by decide +kernel) (by decide +kernel)
theorem tw_772 : (Jvm.Cond.selects "MatrixScripts$Tape" ({ cls := "MatrixScripts$Tape", name := "next", desc := "()Z" } : Jvm.MethodName) ({ cls := "MatrixScripts$Tape", name := "next", desc := "()Z" } : Jvm.MethodName)) ∈ wd_all := wd_i 772 (by decide +kernel) (by decide +kernel)
theorem tw_773 : (Jvm.Cond.code ({ cls := "MatrixScripts$Tape", name := "next", desc := "()Z" } : Jvm.MethodName) prog_13_method_4_code (3 : Nat) (Option.some Jvm.ClassFile.FieldType.boolean)) ∈ wd_all := wd_i 773 (by decide +kernel) (by decide +kernel)
theorem tw_774 : (Jvm.Cond.methodLink "MatrixScripts$Tape" (28 : Nat) ({ cls := "MatrixScripts$Tape", name := "behindBlanks", desc := "(I)I" } : Jvm.MethodName)) ∈ wd_all := wd_i 774 (by decide +kernel) (by decide +kernel)
theorem tw_776 : (Jvm.Cond.instanceMethod ({ cls := "MatrixScripts$Tape", name := "behindBlanks", desc := "(I)I" } : Jvm.MethodName)) ∈ wd_all := wd_i 776 (by decide +kernel) (by decide +kernel)
theorem tw_777 : (Jvm.Cond.code ({ cls := "MatrixScripts$Tape", name := "behindBlanks", desc := "(I)I" } : Jvm.MethodName) prog_13_method_7_code (5 : Nat) (Option.some Jvm.ClassFile.FieldType.int)) ∈ wd_all := wd_i 777 (by decide +kernel) (by decide +kernel)
theorem tw_778 : (Jvm.Cond.methodLink "MatrixScripts$Tape" (35 : Nat) ({ cls := "MatrixScripts$Tape", name := "byteAt", desc := "(I)I" } : Jvm.MethodName)) ∈ wd_all := wd_i 778 (by decide +kernel) (by decide +kernel)
theorem tw_779 : (Jvm.Cond.instanceMethod ({ cls := "MatrixScripts$Tape", name := "byteAt", desc := "(I)I" } : Jvm.MethodName)) ∈ wd_all := wd_i 779 (by decide +kernel) (by decide +kernel)
theorem tw_780 : (Jvm.Cond.selects "MatrixScripts$Tape" ({ cls := "MatrixScripts$Tape", name := "byteAt", desc := "(I)I" } : Jvm.MethodName) ({ cls := "MatrixScripts$Tape", name := "byteAt", desc := "(I)I" } : Jvm.MethodName)) ∈ wd_all := wd_i 780 (by decide +kernel) (by decide +kernel)
theorem tw_781 : (Jvm.Cond.code ({ cls := "MatrixScripts$Tape", name := "byteAt", desc := "(I)I" } : Jvm.MethodName) prog_13_method_3_code (2 : Nat) (Option.some Jvm.ClassFile.FieldType.int)) ∈ wd_all := wd_i 781 (by decide +kernel) (by decide +kernel)
theorem tw_976 : (Jvm.Cond.constant "MatrixScripts$Script" (89 : Nat) (65536 : Int32)) ∈ wd_all := wd_i 976 (by decide +kernel) (by decide +kernel)
theorem tw_2234 : (Jvm.Cond.fieldLink "MatrixScriptsModel" (88 : Nat) "MatrixScriptsModel" "at" "I") ∈ wd_all := wd_i 2234 (by decide +kernel) (by decide +kernel)
theorem tw_2235 : (Jvm.Cond.fieldLink "MatrixScriptsModel" (104 : Nat) "MatrixScriptsModel" "kind" "I") ∈ wd_all := wd_i 2235 (by decide +kernel) (by decide +kernel)
theorem tw_2236 : (Jvm.Cond.fieldLink "MatrixScriptsModel" (98 : Nat) "MatrixScriptsModel" "begin" "I") ∈ wd_all := wd_i 2236 (by decide +kernel) (by decide +kernel)
theorem tw_2237 : (Jvm.Cond.fieldLink "MatrixScriptsModel" (101 : Nat) "MatrixScriptsModel" "length" "I") ∈ wd_all := wd_i 2237 (by decide +kernel) (by decide +kernel)
theorem tw_2238 : (Jvm.Cond.fieldLink "MatrixScriptsModel" (124 : Nat) "MatrixScriptsModel" "depth" "I") ∈ wd_all := wd_i 2238 (by decide +kernel) (by decide +kernel)
theorem tw_2239 : (Jvm.Cond.fieldLink "MatrixScriptsModel" (281 : Nat) "MatrixScriptsModel" "doing" "Z") ∈ wd_all := wd_i 2239 (by decide +kernel) (by decide +kernel)
theorem tw_2240 : (Jvm.Cond.fieldLink "MatrixScriptsModel" (72 : Nat) "MatrixScriptsModel" "fault" "I") ∈ wd_all := wd_i 2240 (by decide +kernel) (by decide +kernel)
theorem tw_2241 : (Jvm.Cond.fieldLink "MatrixScriptsModel" (75 : Nat) "MatrixScriptsModel" "where" "I") ∈ wd_all := wd_i 2241 (by decide +kernel) (by decide +kernel)
theorem tw_2242 : (Jvm.Cond.fieldLink "MatrixScriptsModel" (149 : Nat) "MatrixScriptsModel" "steps" "J") ∈ wd_all := wd_i 2242 (by decide +kernel) (by decide +kernel)
theorem tw_2342 : (Jvm.Cond.codeWith ({ cls := "MatrixScriptsModel", name := "run", desc := "()I" } : Jvm.MethodName) prog_17_method_63_code (3 : Nat) (Option.some Jvm.ClassFile.FieldType.int) [((22 : Nat), (34 : Nat), (37 : Nat), (78 : Nat))]) ∈ wd_all := wd_i 2342 (by decide +kernel) (by decide +kernel)
theorem tw_2344 : (Jvm.Cond.methodLink "MatrixScriptsModel" (598 : Nat) ({ cls := "MatrixScriptsModel", name := "statements", desc := "(Z)I" } : Jvm.MethodName)) ∈ wd_all := wd_i 2344 (by decide +kernel) (by decide +kernel)
theorem tw_2346 : (Jvm.Cond.instanceMethod ({ cls := "MatrixScriptsModel", name := "statements", desc := "(Z)I" } : Jvm.MethodName)) ∈ wd_all := wd_i 2346 (by decide +kernel) (by decide +kernel)
theorem tw_2347 : (Jvm.Cond.code ({ cls := "MatrixScriptsModel", name := "statements", desc := "(Z)I" } : Jvm.MethodName) prog_17_method_60_code (3 : Nat) (Option.some Jvm.ClassFile.FieldType.int)) ∈ wd_all := wd_i 2347 (by decide +kernel) (by decide +kernel)
theorem tw_2348 : (Jvm.Cond.methodLink "MatrixScriptsModel" (121 : Nat) ({ cls := "MatrixScriptsModel", name := "next", desc := "()V" } : Jvm.MethodName)) ∈ wd_all := wd_i 2348 (by decide +kernel) (by decide +kernel)
theorem tw_2350 : (Jvm.Cond.instanceMethod ({ cls := "MatrixScriptsModel", name := "next", desc := "()V" } : Jvm.MethodName)) ∈ wd_all := wd_i 2350 (by decide +kernel) (by decide +kernel)
theorem tw_2351 : (Jvm.Cond.code ({ cls := "MatrixScriptsModel", name := "next", desc := "()V" } : Jvm.MethodName) prog_17_method_8_code (4 : Nat) (Option.none : Option Jvm.ClassFile.FieldType)) ∈ wd_all := wd_i 2351 (by decide +kernel) (by decide +kernel)
theorem tw_2352 : (Jvm.Cond.methodLink "MatrixScriptsModel" (94 : Nat) ({ cls := "MatrixScriptsModel", name := "peek", desc := "(I)I" } : Jvm.MethodName)) ∈ wd_all := wd_i 2352 (by decide +kernel) (by decide +kernel)
theorem tw_2354 : (Jvm.Cond.instanceMethod ({ cls := "MatrixScriptsModel", name := "peek", desc := "(I)I" } : Jvm.MethodName)) ∈ wd_all := wd_i 2354 (by decide +kernel) (by decide +kernel)
theorem tw_2355 : (Jvm.Cond.code ({ cls := "MatrixScriptsModel", name := "peek", desc := "(I)I" } : Jvm.MethodName) prog_17_method_5_code (2 : Nat) (Option.some Jvm.ClassFile.FieldType.int)) ∈ wd_all := wd_i 2355 (by decide +kernel) (by decide +kernel)
theorem d_Mdl_next_0 : decode prog_17_method_8_code 0 = .ok (.iconst 1, 1) := by decide +kernel
theorem d_Mdl_next_1 : decode prog_17_method_8_code 1 = .ok (.istore_n 1, 1) := by decide +kernel
theorem d_Mdl_next_2 : decode prog_17_method_8_code 2 = .ok (.iconst 0, 1) := by decide +kernel
theorem d_Mdl_next_3 : decode prog_17_method_8_code 3 = .ok (.istore_n 2, 1) := by decide +kernel
theorem d_Mdl_next_4 : decode prog_17_method_8_code 4 = .ok (.iload_n 1, 1) := by decide +kernel
theorem d_Mdl_next_5 : decode prog_17_method_8_code 5 = .ok (.ifCond .eq 94, 3) := by decide +kernel
theorem d_Mdl_next_8 : decode prog_17_method_8_code 8 = .ok (.aload_n 0, 1) := by decide +kernel
theorem d_Mdl_next_9 : decode prog_17_method_8_code 9 = .ok (.iconst 0, 1) := by decide +kernel
theorem d_Mdl_next_10 : decode prog_17_method_8_code 10 = .ok (.invokevirtual 94, 3) := by decide +kernel
theorem d_Mdl_next_13 : decode prog_17_method_8_code 13 = .ok (.istore_n 3, 1) := by decide +kernel
theorem d_Mdl_next_14 : decode prog_17_method_8_code 14 = .ok (.iload_n 2, 1) := by decide +kernel
theorem d_Mdl_next_15 : decode prog_17_method_8_code 15 = .ok (.ifCond .eq 21, 3) := by decide +kernel
theorem d_Mdl_next_36 : decode prog_17_method_8_code 36 = .ok (.iload_n 3, 1) := by decide +kernel
theorem d_Mdl_next_37 : decode prog_17_method_8_code 37 = .ok (.bipush 35, 2) := by decide +kernel
theorem d_Mdl_next_39 : decode prog_17_method_8_code 39 = .ok (.if_icmp .ne 7, 3) := by decide +kernel
theorem d_Mdl_next_46 : decode prog_17_method_8_code 46 = .ok (.iconst 0, 1) := by decide +kernel
theorem d_Mdl_next_47 : decode prog_17_method_8_code 47 = .ok (.istore_n 2, 1) := by decide +kernel
theorem d_Mdl_next_48 : decode prog_17_method_8_code 48 = .ok (.iload_n 2, 1) := by decide +kernel
theorem d_Mdl_next_49 : decode prog_17_method_8_code 49 = .ok (.ifCond .ne 27, 3) := by decide +kernel
theorem d_Mdl_next_52 : decode prog_17_method_8_code 52 = .ok (.iload_n 3, 1) := by decide +kernel
theorem d_Mdl_next_53 : decode prog_17_method_8_code 53 = .ok (.bipush 9, 2) := by decide +kernel
theorem d_Mdl_next_55 : decode prog_17_method_8_code 55 = .ok (.if_icmp .eq 21, 3) := by decide +kernel
theorem d_Mdl_next_58 : decode prog_17_method_8_code 58 = .ok (.iload_n 3, 1) := by decide +kernel
theorem d_Mdl_next_59 : decode prog_17_method_8_code 59 = .ok (.bipush 10, 2) := by decide +kernel
theorem d_Mdl_next_61 : decode prog_17_method_8_code 61 = .ok (.if_icmp .eq 15, 3) := by decide +kernel
theorem d_Mdl_next_64 : decode prog_17_method_8_code 64 = .ok (.iload_n 3, 1) := by decide +kernel
theorem d_Mdl_next_65 : decode prog_17_method_8_code 65 = .ok (.bipush 13, 2) := by decide +kernel
theorem d_Mdl_next_67 : decode prog_17_method_8_code 67 = .ok (.if_icmp .eq 9, 3) := by decide +kernel
theorem d_Mdl_next_70 : decode prog_17_method_8_code 70 = .ok (.iload_n 3, 1) := by decide +kernel
theorem d_Mdl_next_71 : decode prog_17_method_8_code 71 = .ok (.bipush 32, 2) := by decide +kernel
theorem d_Mdl_next_73 : decode prog_17_method_8_code 73 = .ok (.if_icmp .ne 7, 3) := by decide +kernel
theorem d_Mdl_next_80 : decode prog_17_method_8_code 80 = .ok (.iconst 0, 1) := by decide +kernel
theorem d_Mdl_next_81 : decode prog_17_method_8_code 81 = .ok (.istore_n 1, 1) := by decide +kernel
theorem d_Mdl_next_82 : decode prog_17_method_8_code 82 = .ok (.iload_n 1, 1) := by decide +kernel
theorem d_Mdl_next_83 : decode prog_17_method_8_code 83 = .ok (.ifCond .eq 13, 3) := by decide +kernel
theorem d_Mdl_next_96 : decode prog_17_method_8_code 96 = .ok (.goto (-92), 3) := by decide +kernel
theorem d_Mdl_next_99 : decode prog_17_method_8_code 99 = .ok (.aload_n 0, 1) := by decide +kernel
theorem d_Mdl_next_100 : decode prog_17_method_8_code 100 = .ok (.aload_n 0, 1) := by decide +kernel
theorem d_Mdl_next_101 : decode prog_17_method_8_code 101 = .ok (.getfield 88, 3) := by decide +kernel
theorem d_Mdl_next_104 : decode prog_17_method_8_code 104 = .ok (.putfield 98, 3) := by decide +kernel
theorem d_Mdl_next_107 : decode prog_17_method_8_code 107 = .ok (.aload_n 0, 1) := by decide +kernel
theorem d_Mdl_next_108 : decode prog_17_method_8_code 108 = .ok (.iconst 0, 1) := by decide +kernel
theorem d_Mdl_next_109 : decode prog_17_method_8_code 109 = .ok (.putfield 101, 3) := by decide +kernel
theorem d_Mdl_next_112 : decode prog_17_method_8_code 112 = .ok (.aload_n 0, 1) := by decide +kernel
theorem d_Mdl_next_113 : decode prog_17_method_8_code 113 = .ok (.iconst 0, 1) := by decide +kernel
theorem d_Mdl_next_114 : decode prog_17_method_8_code 114 = .ok (.invokevirtual 94, 3) := by decide +kernel
theorem d_Mdl_next_117 : decode prog_17_method_8_code 117 = .ok (.istore_n 3, 1) := by decide +kernel
theorem d_Mdl_next_118 : decode prog_17_method_8_code 118 = .ok (.iload_n 3, 1) := by decide +kernel
theorem d_Mdl_next_119 : decode prog_17_method_8_code 119 = .ok (.ifCond .ge 9, 3) := by decide +kernel
theorem d_Mdl_next_122 : decode prog_17_method_8_code 122 = .ok (.aload_n 0, 1) := by decide +kernel
theorem d_Mdl_next_123 : decode prog_17_method_8_code 123 = .ok (.iconst 0, 1) := by decide +kernel
theorem d_Mdl_next_124 : decode prog_17_method_8_code 124 = .ok (.putfield 104, 3) := by decide +kernel
theorem d_Mdl_next_127 : decode prog_17_method_8_code 127 = .ok (.return_, 1) := by decide +kernel
theorem d_Mdl_peek_0 : decode prog_17_method_5_code 0 = .ok (.aload_n 0, 1) := by decide +kernel
theorem d_Mdl_peek_1 : decode prog_17_method_5_code 1 = .ok (.getfield 88, 3) := by decide +kernel
theorem d_Mdl_peek_4 : decode prog_17_method_5_code 4 = .ok (.iload_n 1, 1) := by decide +kernel
theorem d_Mdl_peek_5 : decode prog_17_method_5_code 5 = .ok (.iadd, 1) := by decide +kernel
theorem d_Mdl_peek_6 : decode prog_17_method_5_code 6 = .ok (.aload_n 0, 1) := by decide +kernel
theorem d_Mdl_peek_7 : decode prog_17_method_5_code 7 = .ok (.getfield 91, 3) := by decide +kernel
theorem d_Mdl_peek_10 : decode prog_17_method_5_code 10 = .ok (.if_icmp .ge 21, 3) := by decide +kernel
theorem d_Mdl_peek_13 : decode prog_17_method_5_code 13 = .ok (.aload_n 0, 1) := by decide +kernel
theorem d_Mdl_peek_14 : decode prog_17_method_5_code 14 = .ok (.getfield 10, 3) := by decide +kernel
theorem d_Mdl_peek_17 : decode prog_17_method_5_code 17 = .ok (.aload_n 0, 1) := by decide +kernel
theorem d_Mdl_peek_18 : decode prog_17_method_5_code 18 = .ok (.getfield 88, 3) := by decide +kernel
theorem d_Mdl_peek_21 : decode prog_17_method_5_code 21 = .ok (.iload_n 1, 1) := by decide +kernel
theorem d_Mdl_peek_22 : decode prog_17_method_5_code 22 = .ok (.iadd, 1) := by decide +kernel
theorem d_Mdl_peek_23 : decode prog_17_method_5_code 23 = .ok (.baload, 1) := by decide +kernel
theorem d_Mdl_peek_24 : decode prog_17_method_5_code 24 = .ok (.sipush 255, 3) := by decide +kernel
theorem d_Mdl_peek_27 : decode prog_17_method_5_code 27 = .ok (.iand, 1) := by decide +kernel
theorem d_Mdl_peek_28 : decode prog_17_method_5_code 28 = .ok (.goto 4, 3) := by decide +kernel
theorem d_Mdl_peek_31 : decode prog_17_method_5_code 31 = .ok (.iconst (-1), 1) := by decide +kernel
theorem d_Mdl_peek_32 : decode prog_17_method_5_code 32 = .ok (.ireturn, 1) := by decide +kernel
theorem d_Mdl_run_0 : decode prog_17_method_63_code 0 = .ok (.aload_n 0, 1) := by decide +kernel
theorem d_Mdl_run_1 : decode prog_17_method_63_code 1 = .ok (.iconst 0, 1) := by decide +kernel
theorem d_Mdl_run_2 : decode prog_17_method_63_code 2 = .ok (.putfield 69, 3) := by decide +kernel
theorem d_Mdl_run_5 : decode prog_17_method_63_code 5 = .ok (.aload_n 0, 1) := by decide +kernel
theorem d_Mdl_run_6 : decode prog_17_method_63_code 6 = .ok (.iconst 0, 1) := by decide +kernel
theorem d_Mdl_run_7 : decode prog_17_method_63_code 7 = .ok (.putfield 72, 3) := by decide +kernel
theorem d_Mdl_run_10 : decode prog_17_method_63_code 10 = .ok (.aload_n 0, 1) := by decide +kernel
theorem d_Mdl_run_11 : decode prog_17_method_63_code 11 = .ok (.iconst (-1), 1) := by decide +kernel
theorem d_Mdl_run_12 : decode prog_17_method_63_code 12 = .ok (.putfield 75, 3) := by decide +kernel
theorem d_Mdl_run_15 : decode prog_17_method_63_code 15 = .ok (.aload_n 0, 1) := by decide +kernel
theorem d_Mdl_run_16 : decode prog_17_method_63_code 16 = .ok (.lconst 0, 1) := by decide +kernel
theorem d_Mdl_run_17 : decode prog_17_method_63_code 17 = .ok (.putfield 149, 3) := by decide +kernel
theorem d_Mdl_run_20 : decode prog_17_method_63_code 20 = .ok (.iconst 0, 1) := by decide +kernel
theorem d_Mdl_run_21 : decode prog_17_method_63_code 21 = .ok (.istore_n 1, 1) := by decide +kernel
theorem d_Mdl_run_22 : decode prog_17_method_63_code 22 = .ok (.aload_n 0, 1) := by decide +kernel
theorem d_Mdl_run_23 : decode prog_17_method_63_code 23 = .ok (.iconst 0, 1) := by decide +kernel
theorem d_Mdl_run_24 : decode prog_17_method_63_code 24 = .ok (.invokevirtual 598, 3) := by decide +kernel
theorem d_Mdl_run_27 : decode prog_17_method_63_code 27 = .ok (.pop, 1) := by decide +kernel
theorem d_Mdl_run_28 : decode prog_17_method_63_code 28 = .ok (.aload_n 0, 1) := by decide +kernel
theorem d_Mdl_run_29 : decode prog_17_method_63_code 29 = .ok (.iconst 1, 1) := by decide +kernel
theorem d_Mdl_run_30 : decode prog_17_method_63_code 30 = .ok (.invokevirtual 598, 3) := by decide +kernel
theorem d_Mdl_run_33 : decode prog_17_method_63_code 33 = .ok (.istore_n 1, 1) := by decide +kernel
theorem d_Mdl_run_34 : decode prog_17_method_63_code 34 = .ok (.goto 12, 3) := by decide +kernel
theorem d_Mdl_run_46 : decode prog_17_method_63_code 46 = .ok (.aload_n 0, 1) := by decide +kernel
theorem d_Mdl_run_47 : decode prog_17_method_63_code 47 = .ok (.aload_n 0, 1) := by decide +kernel
theorem d_Mdl_run_48 : decode prog_17_method_63_code 48 = .ok (.getfield 75, 3) := by decide +kernel
theorem d_Mdl_run_51 : decode prog_17_method_63_code 51 = .ok (.putfield 55, 3) := by decide +kernel
theorem d_Mdl_run_54 : decode prog_17_method_63_code 54 = .ok (.aload_n 0, 1) := by decide +kernel
theorem d_Mdl_run_55 : decode prog_17_method_63_code 55 = .ok (.iconst 0, 1) := by decide +kernel
theorem d_Mdl_run_56 : decode prog_17_method_63_code 56 = .ok (.putfield 91, 3) := by decide +kernel
theorem d_Mdl_run_59 : decode prog_17_method_63_code 59 = .ok (.iload_n 1, 1) := by decide +kernel
theorem d_Mdl_run_60 : decode prog_17_method_63_code 60 = .ok (.ireturn, 1) := by decide +kernel
theorem d_Mdl_statements_0 : decode prog_17_method_60_code 0 = .ok (.aload_n 0, 1) := by decide +kernel
theorem d_Mdl_statements_1 : decode prog_17_method_60_code 1 = .ok (.iload_n 1, 1) := by decide +kernel
theorem d_Mdl_statements_2 : decode prog_17_method_60_code 2 = .ok (.putfield 281, 3) := by decide +kernel
theorem d_Mdl_statements_5 : decode prog_17_method_60_code 5 = .ok (.aload_n 0, 1) := by decide +kernel
theorem d_Mdl_statements_6 : decode prog_17_method_60_code 6 = .ok (.iconst 0, 1) := by decide +kernel
theorem d_Mdl_statements_7 : decode prog_17_method_60_code 7 = .ok (.putfield 88, 3) := by decide +kernel
theorem d_Mdl_statements_10 : decode prog_17_method_60_code 10 = .ok (.aload_n 0, 1) := by decide +kernel
theorem d_Mdl_statements_11 : decode prog_17_method_60_code 11 = .ok (.iconst 0, 1) := by decide +kernel
theorem d_Mdl_statements_12 : decode prog_17_method_60_code 12 = .ok (.putfield 124, 3) := by decide +kernel
theorem d_Mdl_statements_15 : decode prog_17_method_60_code 15 = .ok (.aload_n 0, 1) := by decide +kernel
theorem d_Mdl_statements_16 : decode prog_17_method_60_code 16 = .ok (.invokevirtual 121, 3) := by decide +kernel
theorem d_Mdl_statements_19 : decode prog_17_method_60_code 19 = .ok (.iconst 0, 1) := by decide +kernel
theorem d_Mdl_statements_20 : decode prog_17_method_60_code 20 = .ok (.istore_n 2, 1) := by decide +kernel
theorem d_Mdl_statements_21 : decode prog_17_method_60_code 21 = .ok (.aload_n 0, 1) := by decide +kernel
theorem d_Mdl_statements_22 : decode prog_17_method_60_code 22 = .ok (.getfield 104, 3) := by decide +kernel
theorem d_Mdl_statements_25 : decode prog_17_method_60_code 25 = .ok (.ifCond .eq 27, 3) := by decide +kernel
theorem d_Mdl_statements_52 : decode prog_17_method_60_code 52 = .ok (.iload_n 2, 1) := by decide +kernel
theorem d_Mdl_statements_53 : decode prog_17_method_60_code 53 = .ok (.ireturn, 1) := by decide +kernel
theorem d_Ms_run_0 : decode prog_1_method_4_code 0 = .ok (.aload_n 0, 1) := by decide +kernel
theorem d_Ms_run_1 : decode prog_1_method_4_code 1 = .ok (.getfield 10, 3) := by decide +kernel
theorem d_Ms_run_4 : decode prog_1_method_4_code 4 = .ok (.invokevirtual 43, 3) := by decide +kernel
theorem d_Ms_run_7 : decode prog_1_method_4_code 7 = .ok (.aload_n 0, 1) := by decide +kernel
theorem d_Ms_run_8 : decode prog_1_method_4_code 8 = .ok (.getfield 10, 3) := by decide +kernel
theorem d_Ms_run_11 : decode prog_1_method_4_code 11 = .ok (.invokevirtual 46, 3) := by decide +kernel
theorem d_Ms_run_14 : decode prog_1_method_4_code 14 = .ok (.goto 11, 3) := by decide +kernel
theorem d_Ms_run_25 : decode prog_1_method_4_code 25 = .ok (.iconst 0, 1) := by decide +kernel
theorem d_Ms_run_26 : decode prog_1_method_4_code 26 = .ok (.istore_n 1, 1) := by decide +kernel
theorem d_Ms_run_27 : decode prog_1_method_4_code 27 = .ok (.iload_n 1, 1) := by decide +kernel
theorem d_Ms_run_28 : decode prog_1_method_4_code 28 = .ok (.aload_n 0, 1) := by decide +kernel
theorem d_Ms_run_29 : decode prog_1_method_4_code 29 = .ok (.getfield 10, 3) := by decide +kernel
theorem d_Ms_run_32 : decode prog_1_method_4_code 32 = .ok (.getfield 52, 3) := by decide +kernel
theorem d_Ms_run_35 : decode prog_1_method_4_code 35 = .ok (.if_icmp .ge 27, 3) := by decide +kernel
theorem d_Ms_run_62 : decode prog_1_method_4_code 62 = .ok (.aload_n 0, 1) := by decide +kernel
theorem d_Ms_run_63 : decode prog_1_method_4_code 63 = .ok (.getfield 20, 3) := by decide +kernel
theorem d_Ms_run_66 : decode prog_1_method_4_code 66 = .ok (.iconst 0, 1) := by decide +kernel
theorem d_Ms_run_67 : decode prog_1_method_4_code 67 = .ok (.putfield 26, 3) := by decide +kernel
theorem d_Ms_run_70 : decode prog_1_method_4_code 70 = .ok (.aload_n 0, 1) := by decide +kernel
theorem d_Ms_run_71 : decode prog_1_method_4_code 71 = .ok (.getfield 10, 3) := by decide +kernel
theorem d_Ms_run_74 : decode prog_1_method_4_code 74 = .ok (.getfield 55, 3) := by decide +kernel
theorem d_Ms_run_77 : decode prog_1_method_4_code 77 = .ok (.ifCond .ne 13, 3) := by decide +kernel
theorem d_Ms_run_80 : decode prog_1_method_4_code 80 = .ok (.aload_n 0, 1) := by decide +kernel
theorem d_Ms_run_81 : decode prog_1_method_4_code 81 = .ok (.getfield 10, 3) := by decide +kernel
theorem d_Ms_run_84 : decode prog_1_method_4_code 84 = .ok (.getfield 61, 3) := by decide +kernel
theorem d_Ms_run_87 : decode prog_1_method_4_code 87 = .ok (.goto 13, 3) := by decide +kernel
theorem d_Ms_run_100 : decode prog_1_method_4_code 100 = .ok (.ireturn, 1) := by decide +kernel
theorem d_Script_advance_0 : decode prog_12_method_13_code 0 = .ok (.aload_n 0, 1) := by decide +kernel
theorem d_Script_advance_1 : decode prog_12_method_13_code 1 = .ok (.getfield 12, 3) := by decide +kernel
theorem d_Script_advance_4 : decode prog_12_method_13_code 4 = .ok (.invokevirtual 129, 3) := by decide +kernel
theorem d_Script_advance_7 : decode prog_12_method_13_code 7 = .ok (.ifCond .ne 15, 3) := by decide +kernel
theorem d_Script_advance_22 : decode prog_12_method_13_code 22 = .ok (.return_, 1) := by decide +kernel
theorem d_Script_read_0 : decode prog_12_method_4_code 0 = .ok (.aload_n 0, 1) := by decide +kernel
theorem d_Script_read_1 : decode prog_12_method_4_code 1 = .ok (.invokevirtual 86, 3) := by decide +kernel
theorem d_Script_read_4 : decode prog_12_method_4_code 4 = .ok (.iconst 0, 1) := by decide +kernel
theorem d_Script_read_5 : decode prog_12_method_4_code 5 = .ok (.istore_n 1, 1) := by decide +kernel
theorem d_Script_read_6 : decode prog_12_method_4_code 6 = .ok (.iload_n 1, 1) := by decide +kernel
theorem d_Script_read_7 : decode prog_12_method_4_code 7 = .ok (.ldc 89, 2) := by decide +kernel
theorem d_Script_read_9 : decode prog_12_method_4_code 9 = .ok (.if_icmp .gt 132, 3) := by decide +kernel
theorem d_Script_read_12 : decode prog_12_method_4_code 12 = .ok (.aload_n 0, 1) := by decide +kernel
theorem d_Script_read_13 : decode prog_12_method_4_code 13 = .ok (.getfield 12, 3) := by decide +kernel
theorem d_Script_read_16 : decode prog_12_method_4_code 16 = .ok (.getfield 90, 3) := by decide +kernel
theorem d_Script_read_19 : decode prog_12_method_4_code 19 = .ok (.ifCond .eq 122, 3) := by decide +kernel
theorem d_Script_read_141 : decode prog_12_method_4_code 141 = .ok (.return_, 1) := by decide +kernel
theorem d_Tape_behindBlanks_0 : decode prog_13_method_7_code 0 = .ok (.iconst 0, 1) := by decide +kernel
theorem d_Tape_behindBlanks_1 : decode prog_13_method_7_code 1 = .ok (.istore_n 2, 1) := by decide +kernel
theorem d_Tape_behindBlanks_2 : decode prog_13_method_7_code 2 = .ok (.iload_n 1, 1) := by decide +kernel
theorem d_Tape_behindBlanks_3 : decode prog_13_method_7_code 3 = .ok (.istore_n 3, 1) := by decide +kernel
theorem d_Tape_behindBlanks_4 : decode prog_13_method_7_code 4 = .ok (.iload_n 3, 1) := by decide +kernel
theorem d_Tape_behindBlanks_5 : decode prog_13_method_7_code 5 = .ok (.aload_n 0, 1) := by decide +kernel
theorem d_Tape_behindBlanks_6 : decode prog_13_method_7_code 6 = .ok (.getfield 15, 3) := by decide +kernel
theorem d_Tape_behindBlanks_9 : decode prog_13_method_7_code 9 = .ok (.if_icmp .ge 79, 3) := by decide +kernel
theorem d_Tape_behindBlanks_88 : decode prog_13_method_7_code 88 = .ok (.iload_n 3, 1) := by decide +kernel
theorem d_Tape_behindBlanks_89 : decode prog_13_method_7_code 89 = .ok (.ireturn, 1) := by decide +kernel
theorem d_Tape_byteAt_0 : decode prog_13_method_3_code 0 = .ok (.iload_n 1, 1) := by decide +kernel
theorem d_Tape_byteAt_1 : decode prog_13_method_3_code 1 = .ok (.ifCond .lt 11, 3) := by decide +kernel
theorem d_Tape_byteAt_4 : decode prog_13_method_3_code 4 = .ok (.iload_n 1, 1) := by decide +kernel
theorem d_Tape_byteAt_5 : decode prog_13_method_3_code 5 = .ok (.aload_n 0, 1) := by decide +kernel
theorem d_Tape_byteAt_6 : decode prog_13_method_3_code 6 = .ok (.getfield 15, 3) := by decide +kernel
theorem d_Tape_byteAt_9 : decode prog_13_method_3_code 9 = .ok (.if_icmp .lt 7, 3) := by decide +kernel
theorem d_Tape_byteAt_12 : decode prog_13_method_3_code 12 = .ok (.iconst (-1), 1) := by decide +kernel
theorem d_Tape_byteAt_13 : decode prog_13_method_3_code 13 = .ok (.goto 25, 3) := by decide +kernel
theorem d_Tape_byteAt_16 : decode prog_13_method_3_code 16 = .ok (.aload_n 0, 1) := by decide +kernel
theorem d_Tape_byteAt_17 : decode prog_13_method_3_code 17 = .ok (.getfield 9, 3) := by decide +kernel
theorem d_Tape_byteAt_20 : decode prog_13_method_3_code 20 = .ok (.iload_n 1, 1) := by decide +kernel
theorem d_Tape_byteAt_21 : decode prog_13_method_3_code 21 = .ok (.iconst 2, 1) := by decide +kernel
theorem d_Tape_byteAt_22 : decode prog_13_method_3_code 22 = .ok (.ishr, 1) := by decide +kernel
theorem d_Tape_byteAt_23 : decode prog_13_method_3_code 23 = .ok (.iaload, 1) := by decide +kernel
theorem d_Tape_byteAt_24 : decode prog_13_method_3_code 24 = .ok (.bipush 24, 2) := by decide +kernel
theorem d_Tape_byteAt_26 : decode prog_13_method_3_code 26 = .ok (.bipush 8, 2) := by decide +kernel
theorem d_Tape_byteAt_28 : decode prog_13_method_3_code 28 = .ok (.iload_n 1, 1) := by decide +kernel
theorem d_Tape_byteAt_29 : decode prog_13_method_3_code 29 = .ok (.iconst 3, 1) := by decide +kernel
theorem d_Tape_byteAt_30 : decode prog_13_method_3_code 30 = .ok (.iand, 1) := by decide +kernel
theorem d_Tape_byteAt_31 : decode prog_13_method_3_code 31 = .ok (.imul, 1) := by decide +kernel
theorem d_Tape_byteAt_32 : decode prog_13_method_3_code 32 = .ok (.isub, 1) := by decide +kernel
theorem d_Tape_byteAt_33 : decode prog_13_method_3_code 33 = .ok (.iushr, 1) := by decide +kernel
theorem d_Tape_byteAt_34 : decode prog_13_method_3_code 34 = .ok (.sipush 255, 3) := by decide +kernel
theorem d_Tape_byteAt_37 : decode prog_13_method_3_code 37 = .ok (.iand, 1) := by decide +kernel
theorem d_Tape_byteAt_38 : decode prog_13_method_3_code 38 = .ok (.ireturn, 1) := by decide +kernel
theorem d_Tape_next_0 : decode prog_13_method_4_code 0 = .ok (.aload_n 0, 1) := by decide +kernel
theorem d_Tape_next_1 : decode prog_13_method_4_code 1 = .ok (.aload_n 0, 1) := by decide +kernel
theorem d_Tape_next_2 : decode prog_13_method_4_code 2 = .ok (.aload_n 0, 1) := by decide +kernel
theorem d_Tape_next_3 : decode prog_13_method_4_code 3 = .ok (.getfield 25, 3) := by decide +kernel
theorem d_Tape_next_6 : decode prog_13_method_4_code 6 = .ok (.invokevirtual 28, 3) := by decide +kernel
theorem d_Tape_next_9 : decode prog_13_method_4_code 9 = .ok (.putfield 32, 3) := by decide +kernel
theorem d_Tape_next_12 : decode prog_13_method_4_code 12 = .ok (.aload_n 0, 1) := by decide +kernel
theorem d_Tape_next_13 : decode prog_13_method_4_code 13 = .ok (.aload_n 0, 1) := by decide +kernel
theorem d_Tape_next_14 : decode prog_13_method_4_code 14 = .ok (.getfield 32, 3) := by decide +kernel
theorem d_Tape_next_17 : decode prog_13_method_4_code 17 = .ok (.putfield 25, 3) := by decide +kernel
theorem d_Tape_next_20 : decode prog_13_method_4_code 20 = .ok (.aload_n 0, 1) := by decide +kernel
theorem d_Tape_next_21 : decode prog_13_method_4_code 21 = .ok (.aload_n 0, 1) := by decide +kernel
theorem d_Tape_next_22 : decode prog_13_method_4_code 22 = .ok (.getfield 32, 3) := by decide +kernel
theorem d_Tape_next_25 : decode prog_13_method_4_code 25 = .ok (.invokevirtual 35, 3) := by decide +kernel
theorem d_Tape_next_28 : decode prog_13_method_4_code 28 = .ok (.istore_n 1, 1) := by decide +kernel
theorem d_Tape_next_29 : decode prog_13_method_4_code 29 = .ok (.iload_n 1, 1) := by decide +kernel
theorem d_Tape_next_30 : decode prog_13_method_4_code 30 = .ok (.iconst (-1), 1) := by decide +kernel
theorem d_Tape_next_31 : decode prog_13_method_4_code 31 = .ok (.if_icmp .ne 10, 3) := by decide +kernel
theorem d_Tape_next_34 : decode prog_13_method_4_code 34 = .ok (.aload_n 0, 1) := by decide +kernel
theorem d_Tape_next_35 : decode prog_13_method_4_code 35 = .ok (.iconst 0, 1) := by decide +kernel
theorem d_Tape_next_36 : decode prog_13_method_4_code 36 = .ok (.putfield 38, 3) := by decide +kernel
theorem d_Tape_next_39 : decode prog_13_method_4_code 39 = .ok (.iconst 1, 1) := by decide +kernel
theorem d_Tape_next_40 : decode prog_13_method_4_code 40 = .ok (.ireturn, 1) := by decide +kernel
