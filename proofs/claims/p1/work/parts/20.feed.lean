theorem tw_2049 : (Jvm.Cond.codeWith ({ cls := "MatrixScriptsLaw", name := "feed", desc := "(LMatrixScripts;IIIII[J)I" } : Jvm.MethodName) method_3_code (8 : Nat) (Option.some Jvm.ClassFile.FieldType.int) [((0 : Nat), (16 : Nat), (19 : Nat), (13 : Nat))]) ∈ wd_all := wd_i 2049 (by decide +kernel) (by decide +kernel)
theorem tw_2051 : (Jvm.Cond.methodLink "MatrixScriptsLaw" (7 : Nat) ({ cls := "MatrixScripts", name := "feed", desc := "(IIIII)I" } : Jvm.MethodName)) ∈ wd_all := wd_i 2051 (by decide +kernel) (by decide +kernel)
theorem tw_2052 : (Jvm.Cond.instanceMethod ({ cls := "MatrixScripts", name := "feed", desc := "(IIIII)I" } : Jvm.MethodName)) ∈ wd_all := wd_i 2052 (by decide +kernel) (by decide +kernel)
theorem tw_2053 : (Jvm.Cond.selects "MatrixScripts" ({ cls := "MatrixScripts", name := "feed", desc := "(IIIII)I" } : Jvm.MethodName) ({ cls := "MatrixScripts", name := "feed", desc := "(IIIII)I" } : Jvm.MethodName)) ∈ wd_all := wd_i 2053 (by decide +kernel) (by decide +kernel)
theorem tw_2054 : (Jvm.Cond.code ({ cls := "MatrixScripts", name := "feed", desc := "(IIIII)I" } : Jvm.MethodName) prog_1_method_2_code (6 : Nat) (Option.some Jvm.ClassFile.FieldType.int)) ∈ wd_all := wd_i 2054 (by decide +kernel) (by decide +kernel)
theorem tw_2055 : (Jvm.Cond.constant "MatrixScripts" (32 : Nat) (65536 : Int32)) ∈ wd_all := wd_i 2055 (by decide +kernel) (by decide +kernel)
theorem tw_2057 : (Jvm.Cond.methodLink "MatrixScripts" (36 : Nat) ({ cls := "MatrixScripts$Tape", name := "put", desc := "(I)V" } : Jvm.MethodName)) ∈ wd_all := wd_i 2057 (by decide +kernel) (by decide +kernel)
theorem tw_2058 : (Jvm.Cond.instanceMethod ({ cls := "MatrixScripts$Tape", name := "put", desc := "(I)V" } : Jvm.MethodName)) ∈ wd_all := wd_i 2058 (by decide +kernel) (by decide +kernel)
theorem tw_2059 : (Jvm.Cond.selects "MatrixScripts$Tape" ({ cls := "MatrixScripts$Tape", name := "put", desc := "(I)V" } : Jvm.MethodName) ({ cls := "MatrixScripts$Tape", name := "put", desc := "(I)V" } : Jvm.MethodName)) ∈ wd_all := wd_i 2059 (by decide +kernel) (by decide +kernel)
theorem tw_2060 : (Jvm.Cond.code ({ cls := "MatrixScripts$Tape", name := "put", desc := "(I)V" } : Jvm.MethodName) prog_13_method_2_code (5 : Nat) (Option.none : Option Jvm.ClassFile.FieldType)) ∈ wd_all := wd_i 2060 (by decide +kernel) (by decide +kernel)
theorem tw_2334 : (Jvm.Cond.code ({ cls := "MatrixScriptsModel", name := "feed", desc := "(IIIII)I" } : Jvm.MethodName) prog_17_method_61_code (9 : Nat) (Option.some Jvm.ClassFile.FieldType.int)) ∈ wd_all := wd_i 2334 (by decide +kernel) (by decide +kernel)
theorem d_Law_feed_0 : decode method_3_code 0 = .ok (.aload 6, 2) := by decide +kernel
theorem d_Law_feed_2 : decode method_3_code 2 = .ok (.iconst 0, 1) := by decide +kernel
theorem d_Law_feed_3 : decode method_3_code 3 = .ok (.aload_n 0, 1) := by decide +kernel
theorem d_Law_feed_4 : decode method_3_code 4 = .ok (.iload_n 1, 1) := by decide +kernel
theorem d_Law_feed_5 : decode method_3_code 5 = .ok (.iload_n 2, 1) := by decide +kernel
theorem d_Law_feed_6 : decode method_3_code 6 = .ok (.iload_n 3, 1) := by decide +kernel
theorem d_Law_feed_7 : decode method_3_code 7 = .ok (.iload 4, 2) := by decide +kernel
theorem d_Law_feed_9 : decode method_3_code 9 = .ok (.iload 5, 2) := by decide +kernel
theorem d_Law_feed_11 : decode method_3_code 11 = .ok (.invokevirtual 7, 3) := by decide +kernel
theorem d_Law_feed_14 : decode method_3_code 14 = .ok (.i2l, 1) := by decide +kernel
theorem d_Law_feed_15 : decode method_3_code 15 = .ok (.lastore, 1) := by decide +kernel
theorem d_Law_feed_16 : decode method_3_code 16 = .ok (.goto 7, 3) := by decide +kernel
theorem d_Law_feed_23 : decode method_3_code 23 = .ok (.iconst 0, 1) := by decide +kernel
theorem d_Law_feed_24 : decode method_3_code 24 = .ok (.ireturn, 1) := by decide +kernel
theorem d_Mdl_feed_0 : decode prog_17_method_61_code 0 = .ok (.aload_n 0, 1) := by decide +kernel
theorem d_Mdl_feed_1 : decode prog_17_method_61_code 1 = .ok (.aload_n 0, 1) := by decide +kernel
theorem d_Mdl_feed_2 : decode prog_17_method_61_code 2 = .ok (.getfield 91, 3) := by decide +kernel
theorem d_Mdl_feed_5 : decode prog_17_method_61_code 5 = .ok (.bipush 20, 2) := by decide +kernel
theorem d_Mdl_feed_7 : decode prog_17_method_61_code 7 = .ok (.iadd, 1) := by decide +kernel
theorem d_Mdl_feed_8 : decode prog_17_method_61_code 8 = .ok (.ldc 9, 2) := by decide +kernel
theorem d_Mdl_feed_10 : decode prog_17_method_61_code 10 = .ok (.if_icmp .le 7, 3) := by decide +kernel
theorem d_Mdl_feed_17 : decode prog_17_method_61_code 17 = .ok (.iconst 0, 1) := by decide +kernel
theorem d_Mdl_feed_18 : decode prog_17_method_61_code 18 = .ok (.putfield 69, 3) := by decide +kernel
theorem d_Mdl_feed_21 : decode prog_17_method_61_code 21 = .ok (.aload_n 0, 1) := by decide +kernel
theorem d_Mdl_feed_22 : decode prog_17_method_61_code 22 = .ok (.getfield 69, 3) := by decide +kernel
theorem d_Mdl_feed_25 : decode prog_17_method_61_code 25 = .ok (.ifCond .le 5, 3) := by decide +kernel
theorem d_Mdl_feed_30 : decode prog_17_method_61_code 30 = .ok (.iconst 0, 1) := by decide +kernel
theorem d_Mdl_feed_31 : decode prog_17_method_61_code 31 = .ok (.istore 6, 2) := by decide +kernel
theorem d_Mdl_feed_33 : decode prog_17_method_61_code 33 = .ok (.iload 6, 2) := by decide +kernel
theorem d_Mdl_feed_35 : decode prog_17_method_61_code 35 = .ok (.iconst 5, 1) := by decide +kernel
theorem d_Mdl_feed_36 : decode prog_17_method_61_code 36 = .ok (.if_icmp .ge 93, 3) := by decide +kernel
theorem d_Mdl_feed_39 : decode prog_17_method_61_code 39 = .ok (.iload 6, 2) := by decide +kernel
theorem d_Mdl_feed_41 : decode prog_17_method_61_code 41 = .ok (.ifCond .ne 7, 3) := by decide +kernel
theorem d_Mdl_feed_44 : decode prog_17_method_61_code 44 = .ok (.iload_n 1, 1) := by decide +kernel
theorem d_Mdl_feed_45 : decode prog_17_method_61_code 45 = .ok (.goto 36, 3) := by decide +kernel
theorem d_Mdl_feed_48 : decode prog_17_method_61_code 48 = .ok (.iload 6, 2) := by decide +kernel
theorem d_Mdl_feed_50 : decode prog_17_method_61_code 50 = .ok (.iconst 1, 1) := by decide +kernel
theorem d_Mdl_feed_51 : decode prog_17_method_61_code 51 = .ok (.if_icmp .ne 7, 3) := by decide +kernel
theorem d_Mdl_feed_54 : decode prog_17_method_61_code 54 = .ok (.iload_n 2, 1) := by decide +kernel
theorem d_Mdl_feed_55 : decode prog_17_method_61_code 55 = .ok (.goto 26, 3) := by decide +kernel
theorem d_Mdl_feed_58 : decode prog_17_method_61_code 58 = .ok (.iload 6, 2) := by decide +kernel
theorem d_Mdl_feed_60 : decode prog_17_method_61_code 60 = .ok (.iconst 2, 1) := by decide +kernel
theorem d_Mdl_feed_61 : decode prog_17_method_61_code 61 = .ok (.if_icmp .ne 7, 3) := by decide +kernel
theorem d_Mdl_feed_64 : decode prog_17_method_61_code 64 = .ok (.iload_n 3, 1) := by decide +kernel
theorem d_Mdl_feed_65 : decode prog_17_method_61_code 65 = .ok (.goto 16, 3) := by decide +kernel
theorem d_Mdl_feed_68 : decode prog_17_method_61_code 68 = .ok (.iload 6, 2) := by decide +kernel
theorem d_Mdl_feed_70 : decode prog_17_method_61_code 70 = .ok (.iconst 3, 1) := by decide +kernel
theorem d_Mdl_feed_71 : decode prog_17_method_61_code 71 = .ok (.if_icmp .ne 8, 3) := by decide +kernel
theorem d_Mdl_feed_74 : decode prog_17_method_61_code 74 = .ok (.iload 4, 2) := by decide +kernel
theorem d_Mdl_feed_76 : decode prog_17_method_61_code 76 = .ok (.goto 5, 3) := by decide +kernel
theorem d_Mdl_feed_79 : decode prog_17_method_61_code 79 = .ok (.iload 5, 2) := by decide +kernel
theorem d_Mdl_feed_81 : decode prog_17_method_61_code 81 = .ok (.istore 7, 2) := by decide +kernel
theorem d_Mdl_feed_83 : decode prog_17_method_61_code 83 = .ok (.bipush 24, 2) := by decide +kernel
theorem d_Mdl_feed_85 : decode prog_17_method_61_code 85 = .ok (.istore 8, 2) := by decide +kernel
theorem d_Mdl_feed_87 : decode prog_17_method_61_code 87 = .ok (.iload 8, 2) := by decide +kernel
theorem d_Mdl_feed_89 : decode prog_17_method_61_code 89 = .ok (.ifCond .lt 34, 3) := by decide +kernel
theorem d_Mdl_feed_92 : decode prog_17_method_61_code 92 = .ok (.aload_n 0, 1) := by decide +kernel
theorem d_Mdl_feed_93 : decode prog_17_method_61_code 93 = .ok (.getfield 10, 3) := by decide +kernel
theorem d_Mdl_feed_96 : decode prog_17_method_61_code 96 = .ok (.aload_n 0, 1) := by decide +kernel
theorem d_Mdl_feed_97 : decode prog_17_method_61_code 97 = .ok (.getfield 91, 3) := by decide +kernel
theorem d_Mdl_feed_100 : decode prog_17_method_61_code 100 = .ok (.iload 7, 2) := by decide +kernel
theorem d_Mdl_feed_102 : decode prog_17_method_61_code 102 = .ok (.iload 8, 2) := by decide +kernel
theorem d_Mdl_feed_104 : decode prog_17_method_61_code 104 = .ok (.ishr, 1) := by decide +kernel
theorem d_Mdl_feed_105 : decode prog_17_method_61_code 105 = .ok (.i2b, 1) := by decide +kernel
theorem d_Mdl_feed_106 : decode prog_17_method_61_code 106 = .ok (.bastore, 1) := by decide +kernel
theorem d_Mdl_feed_107 : decode prog_17_method_61_code 107 = .ok (.aload_n 0, 1) := by decide +kernel
theorem d_Mdl_feed_108 : decode prog_17_method_61_code 108 = .ok (.dup, 1) := by decide +kernel
theorem d_Mdl_feed_109 : decode prog_17_method_61_code 109 = .ok (.getfield 91, 3) := by decide +kernel
theorem d_Mdl_feed_112 : decode prog_17_method_61_code 112 = .ok (.iconst 1, 1) := by decide +kernel
theorem d_Mdl_feed_113 : decode prog_17_method_61_code 113 = .ok (.iadd, 1) := by decide +kernel
theorem d_Mdl_feed_114 : decode prog_17_method_61_code 114 = .ok (.putfield 91, 3) := by decide +kernel
theorem d_Mdl_feed_117 : decode prog_17_method_61_code 117 = .ok (.iinc 8 (-8), 3) := by decide +kernel
theorem d_Mdl_feed_120 : decode prog_17_method_61_code 120 = .ok (.goto (-33), 3) := by decide +kernel
theorem d_Mdl_feed_123 : decode prog_17_method_61_code 123 = .ok (.iinc 6 1, 3) := by decide +kernel
theorem d_Mdl_feed_126 : decode prog_17_method_61_code 126 = .ok (.goto (-93), 3) := by decide +kernel
theorem d_Mdl_feed_129 : decode prog_17_method_61_code 129 = .ok (.aload_n 0, 1) := by decide +kernel
theorem d_Mdl_feed_130 : decode prog_17_method_61_code 130 = .ok (.getfield 91, 3) := by decide +kernel
theorem d_Mdl_feed_133 : decode prog_17_method_61_code 133 = .ok (.ireturn, 1) := by decide +kernel
theorem d_Ms_feed_0 : decode prog_1_method_2_code 0 = .ok (.aload_n 0, 1) := by decide +kernel
theorem d_Ms_feed_1 : decode prog_1_method_2_code 1 = .ok (.getfield 20, 3) := by decide +kernel
theorem d_Ms_feed_4 : decode prog_1_method_2_code 4 = .ok (.getfield 26, 3) := by decide +kernel
theorem d_Ms_feed_7 : decode prog_1_method_2_code 7 = .ok (.bipush 20, 2) := by decide +kernel
theorem d_Ms_feed_9 : decode prog_1_method_2_code 9 = .ok (.iadd, 1) := by decide +kernel
theorem d_Ms_feed_10 : decode prog_1_method_2_code 10 = .ok (.ldc 32, 2) := by decide +kernel
theorem d_Ms_feed_12 : decode prog_1_method_2_code 12 = .ok (.if_icmp .le 11, 3) := by decide +kernel
theorem d_Ms_feed_23 : decode prog_1_method_2_code 23 = .ok (.aload_n 0, 1) := by decide +kernel
theorem d_Ms_feed_24 : decode prog_1_method_2_code 24 = .ok (.getfield 20, 3) := by decide +kernel
theorem d_Ms_feed_27 : decode prog_1_method_2_code 27 = .ok (.iload_n 1, 1) := by decide +kernel
theorem d_Ms_feed_28 : decode prog_1_method_2_code 28 = .ok (.invokevirtual 36, 3) := by decide +kernel
theorem d_Ms_feed_31 : decode prog_1_method_2_code 31 = .ok (.aload_n 0, 1) := by decide +kernel
theorem d_Ms_feed_32 : decode prog_1_method_2_code 32 = .ok (.getfield 20, 3) := by decide +kernel
theorem d_Ms_feed_35 : decode prog_1_method_2_code 35 = .ok (.iload_n 2, 1) := by decide +kernel
theorem d_Ms_feed_36 : decode prog_1_method_2_code 36 = .ok (.invokevirtual 36, 3) := by decide +kernel
theorem d_Ms_feed_39 : decode prog_1_method_2_code 39 = .ok (.aload_n 0, 1) := by decide +kernel
theorem d_Ms_feed_40 : decode prog_1_method_2_code 40 = .ok (.getfield 20, 3) := by decide +kernel
theorem d_Ms_feed_43 : decode prog_1_method_2_code 43 = .ok (.iload_n 3, 1) := by decide +kernel
theorem d_Ms_feed_44 : decode prog_1_method_2_code 44 = .ok (.invokevirtual 36, 3) := by decide +kernel
theorem d_Ms_feed_47 : decode prog_1_method_2_code 47 = .ok (.aload_n 0, 1) := by decide +kernel
theorem d_Ms_feed_48 : decode prog_1_method_2_code 48 = .ok (.getfield 20, 3) := by decide +kernel
theorem d_Ms_feed_51 : decode prog_1_method_2_code 51 = .ok (.iload 4, 2) := by decide +kernel
theorem d_Ms_feed_53 : decode prog_1_method_2_code 53 = .ok (.invokevirtual 36, 3) := by decide +kernel
theorem d_Ms_feed_56 : decode prog_1_method_2_code 56 = .ok (.aload_n 0, 1) := by decide +kernel
theorem d_Ms_feed_57 : decode prog_1_method_2_code 57 = .ok (.getfield 20, 3) := by decide +kernel
theorem d_Ms_feed_60 : decode prog_1_method_2_code 60 = .ok (.iload 5, 2) := by decide +kernel
theorem d_Ms_feed_62 : decode prog_1_method_2_code 62 = .ok (.invokevirtual 36, 3) := by decide +kernel
theorem d_Ms_feed_65 : decode prog_1_method_2_code 65 = .ok (.aload_n 0, 1) := by decide +kernel
theorem d_Ms_feed_66 : decode prog_1_method_2_code 66 = .ok (.getfield 20, 3) := by decide +kernel
theorem d_Ms_feed_69 : decode prog_1_method_2_code 69 = .ok (.getfield 26, 3) := by decide +kernel
theorem d_Ms_feed_72 : decode prog_1_method_2_code 72 = .ok (.ireturn, 1) := by decide +kernel
theorem d_Tape_put_0 : decode prog_13_method_2_code 0 = .ok (.aload_n 0, 1) := by decide +kernel
theorem d_Tape_put_1 : decode prog_13_method_2_code 1 = .ok (.getfield 9, 3) := by decide +kernel
theorem d_Tape_put_4 : decode prog_13_method_2_code 4 = .ok (.arraylength, 1) := by decide +kernel
theorem d_Tape_put_5 : decode prog_13_method_2_code 5 = .ok (.aload_n 0, 1) := by decide +kernel
theorem d_Tape_put_6 : decode prog_13_method_2_code 6 = .ok (.getfield 15, 3) := by decide +kernel
theorem d_Tape_put_9 : decode prog_13_method_2_code 9 = .ok (.iconst 3, 1) := by decide +kernel
theorem d_Tape_put_10 : decode prog_13_method_2_code 10 = .ok (.iadd, 1) := by decide +kernel
theorem d_Tape_put_11 : decode prog_13_method_2_code 11 = .ok (.iconst 2, 1) := by decide +kernel
theorem d_Tape_put_12 : decode prog_13_method_2_code 12 = .ok (.ishr, 1) := by decide +kernel
theorem d_Tape_put_13 : decode prog_13_method_2_code 13 = .ok (.if_icmp .gt 21, 3) := by decide +kernel
theorem d_Tape_put_34 : decode prog_13_method_2_code 34 = .ok (.bipush 24, 2) := by decide +kernel
theorem d_Tape_put_36 : decode prog_13_method_2_code 36 = .ok (.istore_n 2, 1) := by decide +kernel
theorem d_Tape_put_37 : decode prog_13_method_2_code 37 = .ok (.iload_n 2, 1) := by decide +kernel
theorem d_Tape_put_38 : decode prog_13_method_2_code 38 = .ok (.ifCond .lt 76, 3) := by decide +kernel
theorem d_Tape_put_41 : decode prog_13_method_2_code 41 = .ok (.bipush 24, 2) := by decide +kernel
theorem d_Tape_put_43 : decode prog_13_method_2_code 43 = .ok (.bipush 8, 2) := by decide +kernel
theorem d_Tape_put_45 : decode prog_13_method_2_code 45 = .ok (.aload_n 0, 1) := by decide +kernel
theorem d_Tape_put_46 : decode prog_13_method_2_code 46 = .ok (.getfield 15, 3) := by decide +kernel
theorem d_Tape_put_49 : decode prog_13_method_2_code 49 = .ok (.iconst 3, 1) := by decide +kernel
theorem d_Tape_put_50 : decode prog_13_method_2_code 50 = .ok (.iand, 1) := by decide +kernel
theorem d_Tape_put_51 : decode prog_13_method_2_code 51 = .ok (.imul, 1) := by decide +kernel
theorem d_Tape_put_52 : decode prog_13_method_2_code 52 = .ok (.isub, 1) := by decide +kernel
theorem d_Tape_put_53 : decode prog_13_method_2_code 53 = .ok (.istore_n 3, 1) := by decide +kernel
theorem d_Tape_put_54 : decode prog_13_method_2_code 54 = .ok (.aload_n 0, 1) := by decide +kernel
theorem d_Tape_put_55 : decode prog_13_method_2_code 55 = .ok (.getfield 9, 3) := by decide +kernel
theorem d_Tape_put_58 : decode prog_13_method_2_code 58 = .ok (.aload_n 0, 1) := by decide +kernel
theorem d_Tape_put_59 : decode prog_13_method_2_code 59 = .ok (.getfield 15, 3) := by decide +kernel
theorem d_Tape_put_62 : decode prog_13_method_2_code 62 = .ok (.iconst 2, 1) := by decide +kernel
theorem d_Tape_put_63 : decode prog_13_method_2_code 63 = .ok (.ishr, 1) := by decide +kernel
theorem d_Tape_put_64 : decode prog_13_method_2_code 64 = .ok (.iaload, 1) := by decide +kernel
theorem d_Tape_put_65 : decode prog_13_method_2_code 65 = .ok (.sipush 255, 3) := by decide +kernel
theorem d_Tape_put_68 : decode prog_13_method_2_code 68 = .ok (.iload_n 3, 1) := by decide +kernel
theorem d_Tape_put_69 : decode prog_13_method_2_code 69 = .ok (.ishl, 1) := by decide +kernel
theorem d_Tape_put_70 : decode prog_13_method_2_code 70 = .ok (.iconst (-1), 1) := by decide +kernel
theorem d_Tape_put_71 : decode prog_13_method_2_code 71 = .ok (.ixor, 1) := by decide +kernel
theorem d_Tape_put_72 : decode prog_13_method_2_code 72 = .ok (.iand, 1) := by decide +kernel
theorem d_Tape_put_73 : decode prog_13_method_2_code 73 = .ok (.istore 4, 2) := by decide +kernel
theorem d_Tape_put_75 : decode prog_13_method_2_code 75 = .ok (.aload_n 0, 1) := by decide +kernel
theorem d_Tape_put_76 : decode prog_13_method_2_code 76 = .ok (.getfield 9, 3) := by decide +kernel
theorem d_Tape_put_79 : decode prog_13_method_2_code 79 = .ok (.aload_n 0, 1) := by decide +kernel
theorem d_Tape_put_80 : decode prog_13_method_2_code 80 = .ok (.getfield 15, 3) := by decide +kernel
theorem d_Tape_put_83 : decode prog_13_method_2_code 83 = .ok (.iconst 2, 1) := by decide +kernel
theorem d_Tape_put_84 : decode prog_13_method_2_code 84 = .ok (.ishr, 1) := by decide +kernel
theorem d_Tape_put_85 : decode prog_13_method_2_code 85 = .ok (.iload 4, 2) := by decide +kernel
theorem d_Tape_put_87 : decode prog_13_method_2_code 87 = .ok (.iload_n 1, 1) := by decide +kernel
theorem d_Tape_put_88 : decode prog_13_method_2_code 88 = .ok (.iload_n 2, 1) := by decide +kernel
theorem d_Tape_put_89 : decode prog_13_method_2_code 89 = .ok (.iushr, 1) := by decide +kernel
theorem d_Tape_put_90 : decode prog_13_method_2_code 90 = .ok (.sipush 255, 3) := by decide +kernel
theorem d_Tape_put_93 : decode prog_13_method_2_code 93 = .ok (.iand, 1) := by decide +kernel
theorem d_Tape_put_94 : decode prog_13_method_2_code 94 = .ok (.iload_n 3, 1) := by decide +kernel
theorem d_Tape_put_95 : decode prog_13_method_2_code 95 = .ok (.ishl, 1) := by decide +kernel
theorem d_Tape_put_96 : decode prog_13_method_2_code 96 = .ok (.ior, 1) := by decide +kernel
theorem d_Tape_put_97 : decode prog_13_method_2_code 97 = .ok (.iastore, 1) := by decide +kernel
theorem d_Tape_put_98 : decode prog_13_method_2_code 98 = .ok (.aload_n 0, 1) := by decide +kernel
theorem d_Tape_put_99 : decode prog_13_method_2_code 99 = .ok (.dup, 1) := by decide +kernel
theorem d_Tape_put_100 : decode prog_13_method_2_code 100 = .ok (.getfield 15, 3) := by decide +kernel
theorem d_Tape_put_103 : decode prog_13_method_2_code 103 = .ok (.iconst 1, 1) := by decide +kernel
theorem d_Tape_put_104 : decode prog_13_method_2_code 104 = .ok (.iadd, 1) := by decide +kernel
theorem d_Tape_put_105 : decode prog_13_method_2_code 105 = .ok (.putfield 15, 3) := by decide +kernel
theorem d_Tape_put_108 : decode prog_13_method_2_code 108 = .ok (.iinc 2 (-8), 3) := by decide +kernel
theorem d_Tape_put_111 : decode prog_13_method_2_code 111 = .ok (.goto (-74), 3) := by decide +kernel
theorem d_Tape_put_114 : decode prog_13_method_2_code 114 = .ok (.return_, 1) := by decide +kernel
def w_Tape_put : List Cond := .code ⟨"MatrixScripts$Tape", "put", "(I)V"⟩ prog_13_method_2_code 5 none :: wd_all
theorem gd_Tape_put : GoodIn wd_all w_Tape_put := gd_of tw_2060
set_option maxHeartbeats 4000000 in
set_option maxRecDepth 100000 in
theorem c_Tape_put_0 (l : Launch) (D : va_G) (g : Nat → ClassId) (h0 : Nat) (t0 : Nat) (t2 : Int32) (t3 : Int32) (t4 : Int32) (af : Nat → Int32) (n : Int32) (sz : Nat) : Met l ⟨"MatrixScripts$Tape", "put", "(I)V"⟩ w_Tape_put { frames := 0, cells := 0, slots := 0, locals := 0 } (cp D g [.ref h0, .int n] [(h0, .inr (9, [.ref t0, .int 0, .int t2, .int t3, .int t4])), (t0, .inl (g 0, 64, .inl af))] sz) (cw D (va_A [(h0, .inr (9, [.ref t0, .int 0, .int t2, .int t3, .int t4])), (t0, .inl (g 0, 64, .inl af))] sz) (fun _ => True) (fun u : Nat → Int32 => [(h0, .inr (9, [.ref t0, .int 4, .int t2, .int t3, .int t4])), (t0, .inl (g 0, 64, .inl u))])) 0 0 (va_A [(h0, .inr (9, [.ref t0, .int 0, .int t2, .int t3, .int t4])), (t0, .inl (g 0, 64, .inl af))] sz) := by
  refine Met.ofW (cc := prog_13_method_2_code) (maxL := 5) (ret := none) (by decide) rfl ?_
  intro p e s m args below meth c s₁ B0 hml hv
  obtain ⟨rfl, hsz, hP, hK, hD0, hN⟩ := hv
  have hx := B0.exec
  have hb := B0.bytes
  have hr := B0.returns
  have hts := atoms_spec (ws := w_Tape_put) B0.pre
  have hT := fun (w : Cond) (h : w ∈ wd_all) => hts w (List.mem_cons_of_mem _ h)
  have hown : s.vm.findClass "MatrixScripts$Tape" = some m.cls := findClass_of_methodNamed B0.named
  have hlocks := B0.notSynchronized
  subst hsz
  have hD := hD0.self (sz := s.heap.size)
  generalize hAe : va_A [(h0, .inr (9, [.ref t0, .int 0, .int t2, .int t3, .int t4])), (t0, .inl (g 0, 64, .inl af))] s.heap.size = A at hD ⊢
  have hA : ∀ q : Nat, s.heap.size ≤ q → A q := fun q h => by rw [← hAe]; exact Or.inr h
  have hS : va_S A s.heap s.heap [] := va_S.rf
  have hP : va_P D vC ([(h0, .inr (9, [.ref t0, .int 0, .int t2, .int t3, .int t4])), (t0, .inl (g 0, 64, .inl af))] ++ ([] : va_W)) s.heap := hP
  have hD : va_D A ([(h0, .inr (9, [.ref t0, .int 0, .int t2, .int t3, .int t4])), (t0, .inl (g 0, 64, .inl af))] ++ ([] : va_W)) := hD
  have hl := lv_entry ([.ref h0, .int n]) (n := 5) (Nat.le_of_ble_eq_true rfl)
  rw [lg_entry_eq]
  generalize (lg_sl ([.ref h0, .int n]) ++ List.replicate (5 - (lg_sl ([.ref h0, .int n])).length) Slot.unset).toArray = ls at hl ⊢
  have hl : lv_has ls 5 [(0, .ref h0), (1, .int n)] := hl
  refine lv_aload_n hx hb d_Tape_put_0 rfl (lv_at hl 0 rfl) ?_
  refine va_get (D := D) (ci := 9) (v := .ref t0) (C := "MatrixScripts$Tape") (T := T_Tape) (N := 5) hx hb hT in_Tape hown hK hP 0 rfl rfl 0 (by decide) (hT _ tw_213) (fun _ h9 => h9) rfl d_Tape_put_1 ?_
  refine va_alen hx hb hK hP 1 0 rfl rfl (v := 64) (show Int32.ofNat 64 = 64 by decide) d_Tape_put_4 ?_
  refine lv_aload_n hx hb d_Tape_put_5 rfl (lv_at hl 0 rfl) ?_
  refine va_get (D := D) (ci := 9) (v := .int 0) (C := "MatrixScripts$Tape") (T := T_Tape) (N := 5) hx hb hT in_Tape hown hK hP 0 rfl rfl 1 (by decide) (hT _ tw_215) (fun _ h9 => h9) rfl d_Tape_put_6 ?_
  refine lv_iconst (v := 3) hx hb d_Tape_put_9 (by decide) ?_
  refine lv_iadd hx hb d_Tape_put_10 ?_
  refine lv_topi (fun v10 ev10 => ?_)
  obtain rfl : v10 = 3 := ev10.trans (by decide)
  refine lv_iconst (v := 2) hx hb d_Tape_put_11 (by decide) ?_
  refine lv_ishr hx hb d_Tape_put_12 ?_
  refine lv_topi (fun v12 ev12 => ?_)
  obtain rfl : v12 = 0 := ev12.trans (by decide)
  refine lv_icmp_gt (tgt := 34) hx hb d_Tape_put_13 (by decide) (fun c13 => ?_) (fun c13 => absurd (by decide) c13)
  refine lv_bipush (v := 24) hx hb d_Tape_put_34 (by decide) ?_
  refine lv_istore_n (lv' := [(2, .int 24), (0, .ref h0), (1, .int n)]) hx hb d_Tape_put_36 rfl hl (by decide) rfl (fun ls hl => ?_)
  refine lv_iload_n hx hb d_Tape_put_37 rfl (lv_at hl 0 rfl) ?_
  refine lv_if_lt (tgt := 114) hx hb d_Tape_put_38 (by decide) (fun c38 => absurd c38 (by decide)) (fun c38 => ?_)
  refine lv_bipush (v := 24) hx hb d_Tape_put_41 (by decide) ?_
  refine lv_bipush (v := 8) hx hb d_Tape_put_43 (by decide) ?_
  refine lv_aload_n hx hb d_Tape_put_45 rfl (lv_at hl 1 rfl) ?_
  refine va_get (D := D) (ci := 9) (v := .int 0) (C := "MatrixScripts$Tape") (T := T_Tape) (N := 5) hx hb hT in_Tape hown hK hP 0 rfl rfl 1 (by decide) (hT _ tw_215) (fun _ h9 => h9) rfl d_Tape_put_46 ?_
  refine lv_iconst (v := 3) hx hb d_Tape_put_49 (by decide) ?_
  refine lv_iand hx hb d_Tape_put_50 ?_
  refine lv_topi (fun v50 ev50 => ?_)
  obtain rfl : v50 = 0 := ev50.trans (by decide)
  refine lv_imul hx hb d_Tape_put_51 ?_
  refine lv_topi (fun v51 ev51 => ?_)
  obtain rfl : v51 = 0 := ev51.trans (by decide)
  refine lv_isub hx hb d_Tape_put_52 ?_
  refine lv_topi (fun v52 ev52 => ?_)
  obtain rfl : v52 = 24 := ev52.trans (by decide)
  refine lv_istore_n (lv' := [(3, .int 24), (2, .int 24), (0, .ref h0), (1, .int n)]) hx hb d_Tape_put_53 rfl hl (by decide) rfl (fun ls hl => ?_)
  refine lv_aload_n hx hb d_Tape_put_54 rfl (lv_at hl 2 rfl) ?_
  refine va_get (D := D) (ci := 9) (v := .ref t0) (C := "MatrixScripts$Tape") (T := T_Tape) (N := 5) hx hb hT in_Tape hown hK hP 0 rfl rfl 0 (by decide) (hT _ tw_213) (fun _ h9 => h9) rfl d_Tape_put_55 ?_
  refine lv_aload_n hx hb d_Tape_put_58 rfl (lv_at hl 2 rfl) ?_
  refine va_get (D := D) (ci := 9) (v := .int 0) (C := "MatrixScripts$Tape") (T := T_Tape) (N := 5) hx hb hT in_Tape hown hK hP 0 rfl rfl 1 (by decide) (hT _ tw_215) (fun _ h9 => h9) rfl d_Tape_put_59 ?_
  refine lv_iconst (v := 2) hx hb d_Tape_put_62 (by decide) ?_
  refine lv_ishr hx hb d_Tape_put_63 ?_
  refine lv_topi (fun v63 ev63 => ?_)
  obtain rfl : v63 = 0 := ev63.trans (by decide)
  refine va_iald hx hb hK hP 1 0 rfl rfl (i := 0) (by unfold vp_in; decide) d_Tape_put_64 ?_
  refine lv_topi (fun v64 ev64 => ?_)
  refine lv_sipush (v := 255) hx hb d_Tape_put_65 (by decide) ?_
  refine lv_iload_n hx hb d_Tape_put_68 rfl (lv_at hl 0 rfl) ?_
  refine lv_ishl hx hb d_Tape_put_69 ?_
  refine lv_topi (fun v69 ev69 => ?_)
  obtain rfl : v69 = (-16777216) := ev69.trans (by decide)
  refine lv_iconst (v := -1) hx hb d_Tape_put_70 (by decide) ?_
  refine lv_ixor hx hb d_Tape_put_71 ?_
  refine lv_topi (fun v71 ev71 => ?_)
  obtain rfl : v71 = 16777215 := ev71.trans (by decide)
  refine lv_iand hx hb d_Tape_put_72 ?_
  refine lv_topi (fun v72 ev72 => ?_)
  refine lv_istore (lv' := [(4, .int v72), (3, .int 24), (2, .int 24), (0, .ref h0), (1, .int n)]) hx hb d_Tape_put_73 hl (by decide) rfl (fun ls hl => ?_)
  refine lv_aload_n hx hb d_Tape_put_75 rfl (lv_at hl 3 rfl) ?_
  refine va_get (D := D) (ci := 9) (v := .ref t0) (C := "MatrixScripts$Tape") (T := T_Tape) (N := 5) hx hb hT in_Tape hown hK hP 0 rfl rfl 0 (by decide) (hT _ tw_213) (fun _ h9 => h9) rfl d_Tape_put_76 ?_
  refine lv_aload_n hx hb d_Tape_put_79 rfl (lv_at hl 3 rfl) ?_
  refine va_get (D := D) (ci := 9) (v := .int 0) (C := "MatrixScripts$Tape") (T := T_Tape) (N := 5) hx hb hT in_Tape hown hK hP 0 rfl rfl 1 (by decide) (hT _ tw_215) (fun _ h9 => h9) rfl d_Tape_put_80 ?_
  refine lv_iconst (v := 2) hx hb d_Tape_put_83 (by decide) ?_
  refine lv_ishr hx hb d_Tape_put_84 ?_
  refine lv_topi (fun v84 ev84 => ?_)
  obtain rfl : v84 = 0 := ev84.trans (by decide)
  refine lv_iload hx hb d_Tape_put_85 (lv_at hl 0 rfl) ?_
  refine lv_iload_n hx hb d_Tape_put_87 rfl (lv_at hl 4 rfl) ?_
  refine lv_iload_n hx hb d_Tape_put_88 rfl (lv_at hl 2 rfl) ?_
  refine lv_iushr hx hb d_Tape_put_89 rfl ?_
  refine lv_topi (fun v89 ev89 => ?_)
  refine lv_sipush (v := 255) hx hb d_Tape_put_90 (by decide) ?_
  refine lv_iand hx hb d_Tape_put_93 ?_
  refine lv_topi (fun v93 ev93 => ?_)
  refine lv_iload_n hx hb d_Tape_put_94 rfl (lv_at hl 1 rfl) ?_
  refine lv_ishl hx hb d_Tape_put_95 ?_
  refine lv_topi (fun v95 ev95 => ?_)
  refine lv_ior hx hb d_Tape_put_96 ?_
  refine lv_topi (fun v96 ev96 => ?_)
  refine va_iast hx hb hK hP hD hS 1 0 rfl rfl (i := 0) (x := v96) (by unfold vp_in; decide) d_Tape_put_97 (fun H locs hP hD hS => ?_)
  have hP : va_P D vC ([(h0, .inr (9, [.ref t0, .int 0, .int t2, .int t3, .int t4])), (t0, .inl (g 0, 64, .inl (upd af 0 v96)))] ++ ([] : va_W)) H := hP
  have hD : va_D A ([(h0, .inr (9, [.ref t0, .int 0, .int t2, .int t3, .int t4])), (t0, .inl (g 0, 64, .inl (upd af 0 v96)))] ++ ([] : va_W)) := hD
  generalize upd af 0 v96 = f97 at hP hD
  refine lv_aload_n hx hb d_Tape_put_98 rfl (lv_at hl 3 rfl) ?_
  refine lv_dup hx hb d_Tape_put_99 rfl ?_
  refine va_get (D := D) (ci := 9) (v := .int 0) (C := "MatrixScripts$Tape") (T := T_Tape) (N := 5) hx hb hT in_Tape hown hK hP 0 rfl rfl 1 (by decide) (hT _ tw_215) (fun _ h9 => h9) rfl d_Tape_put_100 ?_
  refine lv_iconst (v := 1) hx hb d_Tape_put_103 (by decide) ?_
  refine lv_iadd hx hb d_Tape_put_104 ?_
  refine lv_topi (fun v104 ev104 => ?_)
  obtain rfl : v104 = 1 := ev104.trans (by decide)
  refine va_put (D := D) (ci := 9) (v := .int 1) (ty := .int) (C := "MatrixScripts$Tape") (T := T_Tape) (N := 5) hx hb hT in_Tape ty_Tape ty_Tape_ok nm_Tape hown hK hP hD hS 0 rfl rfl 1 (by decide) (hT _ tw_215) (fun _ h9 => h9) rfl (by decide +kernel) rfl rfl (Nat.le_of_ble_eq_true rfl) d_Tape_put_105 (fun H locs hP hD hS => ?_)
  have hP : va_P D vC ([(h0, .inr (9, [.ref t0, .int 1, .int t2, .int t3, .int t4])), (t0, .inl (g 0, 64, .inl f97))] ++ ([] : va_W)) H := hP
  have hD : va_D A ([(h0, .inr (9, [.ref t0, .int 1, .int t2, .int t3, .int t4])), (t0, .inl (g 0, 64, .inl f97))] ++ ([] : va_W)) := hD
  refine lv_iinc (v := 16) (lv' := [(2, .int 16), (4, .int v72), (3, .int 24), (0, .ref h0), (1, .int n)]) hx hb d_Tape_put_108 hl (k := 2) rfl (by decide) (by decide) rfl (fun ls hl => ?_)
  refine lv_goto (tgt := 37) hx hb d_Tape_put_111 (by decide) ?_
  refine lv_iload_n hx hb d_Tape_put_37 rfl (lv_at hl 0 rfl) ?_
  refine lv_if_lt (tgt := 114) hx hb d_Tape_put_38 (by decide) (fun c38 => absurd c38 (by decide)) (fun c38 => ?_)
  refine lv_bipush (v := 24) hx hb d_Tape_put_41 (by decide) ?_
  refine lv_bipush (v := 8) hx hb d_Tape_put_43 (by decide) ?_
  refine lv_aload_n hx hb d_Tape_put_45 rfl (lv_at hl 3 rfl) ?_
  refine va_get (D := D) (ci := 9) (v := .int 1) (C := "MatrixScripts$Tape") (T := T_Tape) (N := 5) hx hb hT in_Tape hown hK hP 0 rfl rfl 1 (by decide) (hT _ tw_215) (fun _ h9 => h9) rfl d_Tape_put_46 ?_
  refine lv_iconst (v := 3) hx hb d_Tape_put_49 (by decide) ?_
  refine lv_iand hx hb d_Tape_put_50 ?_
  refine lv_topi (fun v50_1 ev50_1 => ?_)
  obtain rfl : v50_1 = 1 := ev50_1.trans (by decide)
  refine lv_imul hx hb d_Tape_put_51 ?_
  refine lv_topi (fun v51_1 ev51_1 => ?_)
  obtain rfl : v51_1 = 8 := ev51_1.trans (by decide)
  refine lv_isub hx hb d_Tape_put_52 ?_
  refine lv_topi (fun v52_1 ev52_1 => ?_)
  obtain rfl : v52_1 = 16 := ev52_1.trans (by decide)
  refine lv_istore_n (lv' := [(3, .int 16), (2, .int 16), (4, .int v72), (0, .ref h0), (1, .int n)]) hx hb d_Tape_put_53 rfl hl (by decide) rfl (fun ls hl => ?_)
  refine lv_aload_n hx hb d_Tape_put_54 rfl (lv_at hl 3 rfl) ?_
  refine va_get (D := D) (ci := 9) (v := .ref t0) (C := "MatrixScripts$Tape") (T := T_Tape) (N := 5) hx hb hT in_Tape hown hK hP 0 rfl rfl 0 (by decide) (hT _ tw_213) (fun _ h9 => h9) rfl d_Tape_put_55 ?_
  refine lv_aload_n hx hb d_Tape_put_58 rfl (lv_at hl 3 rfl) ?_
  refine va_get (D := D) (ci := 9) (v := .int 1) (C := "MatrixScripts$Tape") (T := T_Tape) (N := 5) hx hb hT in_Tape hown hK hP 0 rfl rfl 1 (by decide) (hT _ tw_215) (fun _ h9 => h9) rfl d_Tape_put_59 ?_
  refine lv_iconst (v := 2) hx hb d_Tape_put_62 (by decide) ?_
  refine lv_ishr hx hb d_Tape_put_63 ?_
  refine lv_topi (fun v63_1 ev63_1 => ?_)
  obtain rfl : v63_1 = 0 := ev63_1.trans (by decide)
  refine va_iald hx hb hK hP 1 0 rfl rfl (i := 0) (by unfold vp_in; decide) d_Tape_put_64 ?_
  refine lv_topi (fun v64_1 ev64_1 => ?_)
  refine lv_sipush (v := 255) hx hb d_Tape_put_65 (by decide) ?_
  refine lv_iload_n hx hb d_Tape_put_68 rfl (lv_at hl 0 rfl) ?_
  refine lv_ishl hx hb d_Tape_put_69 ?_
  refine lv_topi (fun v69_1 ev69_1 => ?_)
  obtain rfl : v69_1 = 16711680 := ev69_1.trans (by decide)
  refine lv_iconst (v := -1) hx hb d_Tape_put_70 (by decide) ?_
  refine lv_ixor hx hb d_Tape_put_71 ?_
  refine lv_topi (fun v71_1 ev71_1 => ?_)
  obtain rfl : v71_1 = (-16711681) := ev71_1.trans (by decide)
  refine lv_iand hx hb d_Tape_put_72 ?_
  refine lv_topi (fun v72_1 ev72_1 => ?_)
  refine lv_istore (lv' := [(4, .int v72_1), (3, .int 16), (2, .int 16), (0, .ref h0), (1, .int n)]) hx hb d_Tape_put_73 hl (by decide) rfl (fun ls hl => ?_)
  refine lv_aload_n hx hb d_Tape_put_75 rfl (lv_at hl 3 rfl) ?_
  refine va_get (D := D) (ci := 9) (v := .ref t0) (C := "MatrixScripts$Tape") (T := T_Tape) (N := 5) hx hb hT in_Tape hown hK hP 0 rfl rfl 0 (by decide) (hT _ tw_213) (fun _ h9 => h9) rfl d_Tape_put_76 ?_
  refine lv_aload_n hx hb d_Tape_put_79 rfl (lv_at hl 3 rfl) ?_
  refine va_get (D := D) (ci := 9) (v := .int 1) (C := "MatrixScripts$Tape") (T := T_Tape) (N := 5) hx hb hT in_Tape hown hK hP 0 rfl rfl 1 (by decide) (hT _ tw_215) (fun _ h9 => h9) rfl d_Tape_put_80 ?_
  refine lv_iconst (v := 2) hx hb d_Tape_put_83 (by decide) ?_
  refine lv_ishr hx hb d_Tape_put_84 ?_
  refine lv_topi (fun v84_1 ev84_1 => ?_)
  obtain rfl : v84_1 = 0 := ev84_1.trans (by decide)
  refine lv_iload hx hb d_Tape_put_85 (lv_at hl 0 rfl) ?_
  refine lv_iload_n hx hb d_Tape_put_87 rfl (lv_at hl 4 rfl) ?_
  refine lv_iload_n hx hb d_Tape_put_88 rfl (lv_at hl 2 rfl) ?_
  refine lv_iushr hx hb d_Tape_put_89 rfl ?_
  refine lv_topi (fun v89_1 ev89_1 => ?_)
  refine lv_sipush (v := 255) hx hb d_Tape_put_90 (by decide) ?_
  refine lv_iand hx hb d_Tape_put_93 ?_
  refine lv_topi (fun v93_1 ev93_1 => ?_)
  refine lv_iload_n hx hb d_Tape_put_94 rfl (lv_at hl 1 rfl) ?_
  refine lv_ishl hx hb d_Tape_put_95 ?_
  refine lv_topi (fun v95_1 ev95_1 => ?_)
  refine lv_ior hx hb d_Tape_put_96 ?_
  refine lv_topi (fun v96_1 ev96_1 => ?_)
  refine va_iast hx hb hK hP hD hS 1 0 rfl rfl (i := 0) (x := v96_1) (by unfold vp_in; decide) d_Tape_put_97 (fun H locs hP hD hS => ?_)
  have hP : va_P D vC ([(h0, .inr (9, [.ref t0, .int 1, .int t2, .int t3, .int t4])), (t0, .inl (g 0, 64, .inl (upd f97 0 v96_1)))] ++ ([] : va_W)) H := hP
  have hD : va_D A ([(h0, .inr (9, [.ref t0, .int 1, .int t2, .int t3, .int t4])), (t0, .inl (g 0, 64, .inl (upd f97 0 v96_1)))] ++ ([] : va_W)) := hD
  generalize upd f97 0 v96_1 = f97_1 at hP hD
  refine lv_aload_n hx hb d_Tape_put_98 rfl (lv_at hl 3 rfl) ?_
  refine lv_dup hx hb d_Tape_put_99 rfl ?_
  refine va_get (D := D) (ci := 9) (v := .int 1) (C := "MatrixScripts$Tape") (T := T_Tape) (N := 5) hx hb hT in_Tape hown hK hP 0 rfl rfl 1 (by decide) (hT _ tw_215) (fun _ h9 => h9) rfl d_Tape_put_100 ?_
  refine lv_iconst (v := 1) hx hb d_Tape_put_103 (by decide) ?_
  refine lv_iadd hx hb d_Tape_put_104 ?_
  refine lv_topi (fun v104_1 ev104_1 => ?_)
  obtain rfl : v104_1 = 2 := ev104_1.trans (by decide)
  refine va_put (D := D) (ci := 9) (v := .int 2) (ty := .int) (C := "MatrixScripts$Tape") (T := T_Tape) (N := 5) hx hb hT in_Tape ty_Tape ty_Tape_ok nm_Tape hown hK hP hD hS 0 rfl rfl 1 (by decide) (hT _ tw_215) (fun _ h9 => h9) rfl (by decide +kernel) rfl rfl (Nat.le_of_ble_eq_true rfl) d_Tape_put_105 (fun H locs hP hD hS => ?_)
  have hP : va_P D vC ([(h0, .inr (9, [.ref t0, .int 2, .int t2, .int t3, .int t4])), (t0, .inl (g 0, 64, .inl f97_1))] ++ ([] : va_W)) H := hP
  have hD : va_D A ([(h0, .inr (9, [.ref t0, .int 2, .int t2, .int t3, .int t4])), (t0, .inl (g 0, 64, .inl f97_1))] ++ ([] : va_W)) := hD
  refine lv_iinc (v := 8) (lv' := [(2, .int 8), (4, .int v72_1), (3, .int 16), (0, .ref h0), (1, .int n)]) hx hb d_Tape_put_108 hl (k := 2) rfl (by decide) (by decide) rfl (fun ls hl => ?_)
  refine lv_goto (tgt := 37) hx hb d_Tape_put_111 (by decide) ?_
  refine lv_iload_n hx hb d_Tape_put_37 rfl (lv_at hl 0 rfl) ?_
  refine lv_if_lt (tgt := 114) hx hb d_Tape_put_38 (by decide) (fun c38 => absurd c38 (by decide)) (fun c38 => ?_)
  refine lv_bipush (v := 24) hx hb d_Tape_put_41 (by decide) ?_
  refine lv_bipush (v := 8) hx hb d_Tape_put_43 (by decide) ?_
  refine lv_aload_n hx hb d_Tape_put_45 rfl (lv_at hl 3 rfl) ?_
  refine va_get (D := D) (ci := 9) (v := .int 2) (C := "MatrixScripts$Tape") (T := T_Tape) (N := 5) hx hb hT in_Tape hown hK hP 0 rfl rfl 1 (by decide) (hT _ tw_215) (fun _ h9 => h9) rfl d_Tape_put_46 ?_
  refine lv_iconst (v := 3) hx hb d_Tape_put_49 (by decide) ?_
  refine lv_iand hx hb d_Tape_put_50 ?_
  refine lv_topi (fun v50_2 ev50_2 => ?_)
  obtain rfl : v50_2 = 2 := ev50_2.trans (by decide)
  refine lv_imul hx hb d_Tape_put_51 ?_
  refine lv_topi (fun v51_2 ev51_2 => ?_)
  obtain rfl : v51_2 = 16 := ev51_2.trans (by decide)
  refine lv_isub hx hb d_Tape_put_52 ?_
  refine lv_topi (fun v52_2 ev52_2 => ?_)
  obtain rfl : v52_2 = 8 := ev52_2.trans (by decide)
  refine lv_istore_n (lv' := [(3, .int 8), (2, .int 8), (4, .int v72_1), (0, .ref h0), (1, .int n)]) hx hb d_Tape_put_53 rfl hl (by decide) rfl (fun ls hl => ?_)
  refine lv_aload_n hx hb d_Tape_put_54 rfl (lv_at hl 3 rfl) ?_
  refine va_get (D := D) (ci := 9) (v := .ref t0) (C := "MatrixScripts$Tape") (T := T_Tape) (N := 5) hx hb hT in_Tape hown hK hP 0 rfl rfl 0 (by decide) (hT _ tw_213) (fun _ h9 => h9) rfl d_Tape_put_55 ?_
  refine lv_aload_n hx hb d_Tape_put_58 rfl (lv_at hl 3 rfl) ?_
  refine va_get (D := D) (ci := 9) (v := .int 2) (C := "MatrixScripts$Tape") (T := T_Tape) (N := 5) hx hb hT in_Tape hown hK hP 0 rfl rfl 1 (by decide) (hT _ tw_215) (fun _ h9 => h9) rfl d_Tape_put_59 ?_
  refine lv_iconst (v := 2) hx hb d_Tape_put_62 (by decide) ?_
  refine lv_ishr hx hb d_Tape_put_63 ?_
  refine lv_topi (fun v63_2 ev63_2 => ?_)
  obtain rfl : v63_2 = 0 := ev63_2.trans (by decide)
  refine va_iald hx hb hK hP 1 0 rfl rfl (i := 0) (by unfold vp_in; decide) d_Tape_put_64 ?_
  refine lv_topi (fun v64_2 ev64_2 => ?_)
  refine lv_sipush (v := 255) hx hb d_Tape_put_65 (by decide) ?_
  refine lv_iload_n hx hb d_Tape_put_68 rfl (lv_at hl 0 rfl) ?_
  refine lv_ishl hx hb d_Tape_put_69 ?_
  refine lv_topi (fun v69_2 ev69_2 => ?_)
  obtain rfl : v69_2 = 65280 := ev69_2.trans (by decide)
  refine lv_iconst (v := -1) hx hb d_Tape_put_70 (by decide) ?_
  refine lv_ixor hx hb d_Tape_put_71 ?_
  refine lv_topi (fun v71_2 ev71_2 => ?_)
  obtain rfl : v71_2 = (-65281) := ev71_2.trans (by decide)
  refine lv_iand hx hb d_Tape_put_72 ?_
  refine lv_topi (fun v72_2 ev72_2 => ?_)
  refine lv_istore (lv' := [(4, .int v72_2), (3, .int 8), (2, .int 8), (0, .ref h0), (1, .int n)]) hx hb d_Tape_put_73 hl (by decide) rfl (fun ls hl => ?_)
  refine lv_aload_n hx hb d_Tape_put_75 rfl (lv_at hl 3 rfl) ?_
  refine va_get (D := D) (ci := 9) (v := .ref t0) (C := "MatrixScripts$Tape") (T := T_Tape) (N := 5) hx hb hT in_Tape hown hK hP 0 rfl rfl 0 (by decide) (hT _ tw_213) (fun _ h9 => h9) rfl d_Tape_put_76 ?_
  refine lv_aload_n hx hb d_Tape_put_79 rfl (lv_at hl 3 rfl) ?_
  refine va_get (D := D) (ci := 9) (v := .int 2) (C := "MatrixScripts$Tape") (T := T_Tape) (N := 5) hx hb hT in_Tape hown hK hP 0 rfl rfl 1 (by decide) (hT _ tw_215) (fun _ h9 => h9) rfl d_Tape_put_80 ?_
  refine lv_iconst (v := 2) hx hb d_Tape_put_83 (by decide) ?_
  refine lv_ishr hx hb d_Tape_put_84 ?_
  refine lv_topi (fun v84_2 ev84_2 => ?_)
  obtain rfl : v84_2 = 0 := ev84_2.trans (by decide)
  refine lv_iload hx hb d_Tape_put_85 (lv_at hl 0 rfl) ?_
  refine lv_iload_n hx hb d_Tape_put_87 rfl (lv_at hl 4 rfl) ?_
  refine lv_iload_n hx hb d_Tape_put_88 rfl (lv_at hl 2 rfl) ?_
  refine lv_iushr hx hb d_Tape_put_89 rfl ?_
  refine lv_topi (fun v89_2 ev89_2 => ?_)
  refine lv_sipush (v := 255) hx hb d_Tape_put_90 (by decide) ?_
  refine lv_iand hx hb d_Tape_put_93 ?_
  refine lv_topi (fun v93_2 ev93_2 => ?_)
  refine lv_iload_n hx hb d_Tape_put_94 rfl (lv_at hl 1 rfl) ?_
  refine lv_ishl hx hb d_Tape_put_95 ?_
  refine lv_topi (fun v95_2 ev95_2 => ?_)
  refine lv_ior hx hb d_Tape_put_96 ?_
  refine lv_topi (fun v96_2 ev96_2 => ?_)
  refine va_iast hx hb hK hP hD hS 1 0 rfl rfl (i := 0) (x := v96_2) (by unfold vp_in; decide) d_Tape_put_97 (fun H locs hP hD hS => ?_)
  have hP : va_P D vC ([(h0, .inr (9, [.ref t0, .int 2, .int t2, .int t3, .int t4])), (t0, .inl (g 0, 64, .inl (upd f97_1 0 v96_2)))] ++ ([] : va_W)) H := hP
  have hD : va_D A ([(h0, .inr (9, [.ref t0, .int 2, .int t2, .int t3, .int t4])), (t0, .inl (g 0, 64, .inl (upd f97_1 0 v96_2)))] ++ ([] : va_W)) := hD
  generalize upd f97_1 0 v96_2 = f97_2 at hP hD
  refine lv_aload_n hx hb d_Tape_put_98 rfl (lv_at hl 3 rfl) ?_
  refine lv_dup hx hb d_Tape_put_99 rfl ?_
  refine va_get (D := D) (ci := 9) (v := .int 2) (C := "MatrixScripts$Tape") (T := T_Tape) (N := 5) hx hb hT in_Tape hown hK hP 0 rfl rfl 1 (by decide) (hT _ tw_215) (fun _ h9 => h9) rfl d_Tape_put_100 ?_
  refine lv_iconst (v := 1) hx hb d_Tape_put_103 (by decide) ?_
  refine lv_iadd hx hb d_Tape_put_104 ?_
  refine lv_topi (fun v104_2 ev104_2 => ?_)
  obtain rfl : v104_2 = 3 := ev104_2.trans (by decide)
  refine va_put (D := D) (ci := 9) (v := .int 3) (ty := .int) (C := "MatrixScripts$Tape") (T := T_Tape) (N := 5) hx hb hT in_Tape ty_Tape ty_Tape_ok nm_Tape hown hK hP hD hS 0 rfl rfl 1 (by decide) (hT _ tw_215) (fun _ h9 => h9) rfl (by decide +kernel) rfl rfl (Nat.le_of_ble_eq_true rfl) d_Tape_put_105 (fun H locs hP hD hS => ?_)
  have hP : va_P D vC ([(h0, .inr (9, [.ref t0, .int 3, .int t2, .int t3, .int t4])), (t0, .inl (g 0, 64, .inl f97_2))] ++ ([] : va_W)) H := hP
  have hD : va_D A ([(h0, .inr (9, [.ref t0, .int 3, .int t2, .int t3, .int t4])), (t0, .inl (g 0, 64, .inl f97_2))] ++ ([] : va_W)) := hD
  refine lv_iinc (v := 0) (lv' := [(2, .int 0), (4, .int v72_2), (3, .int 8), (0, .ref h0), (1, .int n)]) hx hb d_Tape_put_108 hl (k := 2) rfl (by decide) (by decide) rfl (fun ls hl => ?_)
  refine lv_goto (tgt := 37) hx hb d_Tape_put_111 (by decide) ?_
  refine lv_iload_n hx hb d_Tape_put_37 rfl (lv_at hl 0 rfl) ?_
  refine lv_if_lt (tgt := 114) hx hb d_Tape_put_38 (by decide) (fun c38 => absurd c38 (by decide)) (fun c38 => ?_)
  refine lv_bipush (v := 24) hx hb d_Tape_put_41 (by decide) ?_
  refine lv_bipush (v := 8) hx hb d_Tape_put_43 (by decide) ?_
  refine lv_aload_n hx hb d_Tape_put_45 rfl (lv_at hl 3 rfl) ?_
  refine va_get (D := D) (ci := 9) (v := .int 3) (C := "MatrixScripts$Tape") (T := T_Tape) (N := 5) hx hb hT in_Tape hown hK hP 0 rfl rfl 1 (by decide) (hT _ tw_215) (fun _ h9 => h9) rfl d_Tape_put_46 ?_
  refine lv_iconst (v := 3) hx hb d_Tape_put_49 (by decide) ?_
  refine lv_iand hx hb d_Tape_put_50 ?_
  refine lv_topi (fun v50_3 ev50_3 => ?_)
  obtain rfl : v50_3 = 3 := ev50_3.trans (by decide)
  refine lv_imul hx hb d_Tape_put_51 ?_
  refine lv_topi (fun v51_3 ev51_3 => ?_)
  obtain rfl : v51_3 = 24 := ev51_3.trans (by decide)
  refine lv_isub hx hb d_Tape_put_52 ?_
  refine lv_topi (fun v52_3 ev52_3 => ?_)
  obtain rfl : v52_3 = 0 := ev52_3.trans (by decide)
  refine lv_istore_n (lv' := [(3, .int 0), (2, .int 0), (4, .int v72_2), (0, .ref h0), (1, .int n)]) hx hb d_Tape_put_53 rfl hl (by decide) rfl (fun ls hl => ?_)
  refine lv_aload_n hx hb d_Tape_put_54 rfl (lv_at hl 3 rfl) ?_
  refine va_get (D := D) (ci := 9) (v := .ref t0) (C := "MatrixScripts$Tape") (T := T_Tape) (N := 5) hx hb hT in_Tape hown hK hP 0 rfl rfl 0 (by decide) (hT _ tw_213) (fun _ h9 => h9) rfl d_Tape_put_55 ?_
  refine lv_aload_n hx hb d_Tape_put_58 rfl (lv_at hl 3 rfl) ?_
  refine va_get (D := D) (ci := 9) (v := .int 3) (C := "MatrixScripts$Tape") (T := T_Tape) (N := 5) hx hb hT in_Tape hown hK hP 0 rfl rfl 1 (by decide) (hT _ tw_215) (fun _ h9 => h9) rfl d_Tape_put_59 ?_
  refine lv_iconst (v := 2) hx hb d_Tape_put_62 (by decide) ?_
  refine lv_ishr hx hb d_Tape_put_63 ?_
  refine lv_topi (fun v63_3 ev63_3 => ?_)
  obtain rfl : v63_3 = 0 := ev63_3.trans (by decide)
  refine va_iald hx hb hK hP 1 0 rfl rfl (i := 0) (by unfold vp_in; decide) d_Tape_put_64 ?_
  refine lv_topi (fun v64_3 ev64_3 => ?_)
  refine lv_sipush (v := 255) hx hb d_Tape_put_65 (by decide) ?_
  refine lv_iload_n hx hb d_Tape_put_68 rfl (lv_at hl 0 rfl) ?_
  refine lv_ishl hx hb d_Tape_put_69 ?_
  refine lv_topi (fun v69_3 ev69_3 => ?_)
  obtain rfl : v69_3 = 255 := ev69_3.trans (by decide)
  refine lv_iconst (v := -1) hx hb d_Tape_put_70 (by decide) ?_
  refine lv_ixor hx hb d_Tape_put_71 ?_
  refine lv_topi (fun v71_3 ev71_3 => ?_)
  obtain rfl : v71_3 = (-256) := ev71_3.trans (by decide)
  refine lv_iand hx hb d_Tape_put_72 ?_
  refine lv_topi (fun v72_3 ev72_3 => ?_)
  refine lv_istore (lv' := [(4, .int v72_3), (3, .int 0), (2, .int 0), (0, .ref h0), (1, .int n)]) hx hb d_Tape_put_73 hl (by decide) rfl (fun ls hl => ?_)
  refine lv_aload_n hx hb d_Tape_put_75 rfl (lv_at hl 3 rfl) ?_
  refine va_get (D := D) (ci := 9) (v := .ref t0) (C := "MatrixScripts$Tape") (T := T_Tape) (N := 5) hx hb hT in_Tape hown hK hP 0 rfl rfl 0 (by decide) (hT _ tw_213) (fun _ h9 => h9) rfl d_Tape_put_76 ?_
  refine lv_aload_n hx hb d_Tape_put_79 rfl (lv_at hl 3 rfl) ?_
  refine va_get (D := D) (ci := 9) (v := .int 3) (C := "MatrixScripts$Tape") (T := T_Tape) (N := 5) hx hb hT in_Tape hown hK hP 0 rfl rfl 1 (by decide) (hT _ tw_215) (fun _ h9 => h9) rfl d_Tape_put_80 ?_
  refine lv_iconst (v := 2) hx hb d_Tape_put_83 (by decide) ?_
  refine lv_ishr hx hb d_Tape_put_84 ?_
  refine lv_topi (fun v84_3 ev84_3 => ?_)
  obtain rfl : v84_3 = 0 := ev84_3.trans (by decide)
  refine lv_iload hx hb d_Tape_put_85 (lv_at hl 0 rfl) ?_
  refine lv_iload_n hx hb d_Tape_put_87 rfl (lv_at hl 4 rfl) ?_
  refine lv_iload_n hx hb d_Tape_put_88 rfl (lv_at hl 2 rfl) ?_
  refine lv_iushr hx hb d_Tape_put_89 rfl ?_
  refine lv_topi (fun v89_3 ev89_3 => ?_)
  refine lv_sipush (v := 255) hx hb d_Tape_put_90 (by decide) ?_
  refine lv_iand hx hb d_Tape_put_93 ?_
  refine lv_topi (fun v93_3 ev93_3 => ?_)
  refine lv_iload_n hx hb d_Tape_put_94 rfl (lv_at hl 1 rfl) ?_
  refine lv_ishl hx hb d_Tape_put_95 ?_
  refine lv_topi (fun v95_3 ev95_3 => ?_)
  refine lv_ior hx hb d_Tape_put_96 ?_
  refine lv_topi (fun v96_3 ev96_3 => ?_)
  refine va_iast hx hb hK hP hD hS 1 0 rfl rfl (i := 0) (x := v96_3) (by unfold vp_in; decide) d_Tape_put_97 (fun H locs hP hD hS => ?_)
  have hP : va_P D vC ([(h0, .inr (9, [.ref t0, .int 3, .int t2, .int t3, .int t4])), (t0, .inl (g 0, 64, .inl (upd f97_2 0 v96_3)))] ++ ([] : va_W)) H := hP
  have hD : va_D A ([(h0, .inr (9, [.ref t0, .int 3, .int t2, .int t3, .int t4])), (t0, .inl (g 0, 64, .inl (upd f97_2 0 v96_3)))] ++ ([] : va_W)) := hD
  generalize upd f97_2 0 v96_3 = f97_3 at hP hD
  refine lv_aload_n hx hb d_Tape_put_98 rfl (lv_at hl 3 rfl) ?_
  refine lv_dup hx hb d_Tape_put_99 rfl ?_
  refine va_get (D := D) (ci := 9) (v := .int 3) (C := "MatrixScripts$Tape") (T := T_Tape) (N := 5) hx hb hT in_Tape hown hK hP 0 rfl rfl 1 (by decide) (hT _ tw_215) (fun _ h9 => h9) rfl d_Tape_put_100 ?_
  refine lv_iconst (v := 1) hx hb d_Tape_put_103 (by decide) ?_
  refine lv_iadd hx hb d_Tape_put_104 ?_
  refine lv_topi (fun v104_3 ev104_3 => ?_)
  obtain rfl : v104_3 = 4 := ev104_3.trans (by decide)
  refine va_put (D := D) (ci := 9) (v := .int 4) (ty := .int) (C := "MatrixScripts$Tape") (T := T_Tape) (N := 5) hx hb hT in_Tape ty_Tape ty_Tape_ok nm_Tape hown hK hP hD hS 0 rfl rfl 1 (by decide) (hT _ tw_215) (fun _ h9 => h9) rfl (by decide +kernel) rfl rfl (Nat.le_of_ble_eq_true rfl) d_Tape_put_105 (fun H locs hP hD hS => ?_)
  have hP : va_P D vC ([(h0, .inr (9, [.ref t0, .int 4, .int t2, .int t3, .int t4])), (t0, .inl (g 0, 64, .inl f97_3))] ++ ([] : va_W)) H := hP
  have hD : va_D A ([(h0, .inr (9, [.ref t0, .int 4, .int t2, .int t3, .int t4])), (t0, .inl (g 0, 64, .inl f97_3))] ++ ([] : va_W)) := hD
  refine lv_iinc (v := (-8)) (lv' := [(2, .int (-8)), (4, .int v72_3), (3, .int 0), (0, .ref h0), (1, .int n)]) hx hb d_Tape_put_108 hl (k := 2) rfl (by decide) (by decide) rfl (fun ls hl => ?_)
  refine lv_goto (tgt := 37) hx hb d_Tape_put_111 (by decide) ?_
  refine lv_iload_n hx hb d_Tape_put_37 rfl (lv_at hl 0 rfl) ?_
  refine lv_if_lt (tgt := 114) hx hb d_Tape_put_38 (by decide) (fun c38 => ?_) (fun c38 => absurd (by decide) c38)
  have hP9 := pm_subP (a' := [(h0, .inr (9, [.ref t0, .int 4, .int t2, .int t3, .int t4])), (t0, .inl (g 0, 64, .inl f97_3))]) hP [0, 1] rfl
  have hD9 := pm_subD (a' := [(h0, .inr (9, [.ref t0, .int 4, .int t2, .int t3, .int t4])), (t0, .inl (g 0, 64, .inl f97_3))]) hD [0, 1] (by decide) rfl
  refine W.widen (k := 0) (n := 0) (Nat.le_of_ble_eq_true rfl) (Nat.le_of_ble_eq_true rfl) ?_
  exact W.vret hx hb hr (fun t ht1 hW => ⟨⟨f97_3, rfl, trivial, by rw [ht1]; exact hP9, hD9⟩, hS.F ht1⟩) hS.2.2 d_Tape_put_114
set_option maxHeartbeats 4000000 in
set_option maxRecDepth 100000 in
theorem c_Tape_put_4 (l : Launch) (D : va_G) (g : Nat → ClassId) (h0 : Nat) (t0 : Nat) (t2 : Int32) (t3 : Int32) (t4 : Int32) (af : Nat → Int32) (n : Int32) (sz : Nat) : Met l ⟨"MatrixScripts$Tape", "put", "(I)V"⟩ w_Tape_put { frames := 0, cells := 0, slots := 0, locals := 0 } (cp D g [.ref h0, .int n] [(h0, .inr (9, [.ref t0, .int 4, .int t2, .int t3, .int t4])), (t0, .inl (g 0, 64, .inl af))] sz) (cw D (va_A [(h0, .inr (9, [.ref t0, .int 4, .int t2, .int t3, .int t4])), (t0, .inl (g 0, 64, .inl af))] sz) (fun _ => True) (fun u : Nat → Int32 => [(h0, .inr (9, [.ref t0, .int 8, .int t2, .int t3, .int t4])), (t0, .inl (g 0, 64, .inl u))])) 0 0 (va_A [(h0, .inr (9, [.ref t0, .int 4, .int t2, .int t3, .int t4])), (t0, .inl (g 0, 64, .inl af))] sz) := by
  refine Met.ofW (cc := prog_13_method_2_code) (maxL := 5) (ret := none) (by decide) rfl ?_
  intro p e s m args below meth c s₁ B0 hml hv
  obtain ⟨rfl, hsz, hP, hK, hD0, hN⟩ := hv
  have hx := B0.exec
  have hb := B0.bytes
  have hr := B0.returns
  have hts := atoms_spec (ws := w_Tape_put) B0.pre
  have hT := fun (w : Cond) (h : w ∈ wd_all) => hts w (List.mem_cons_of_mem _ h)
  have hown : s.vm.findClass "MatrixScripts$Tape" = some m.cls := findClass_of_methodNamed B0.named
  have hlocks := B0.notSynchronized
  subst hsz
  have hD := hD0.self (sz := s.heap.size)
  generalize hAe : va_A [(h0, .inr (9, [.ref t0, .int 4, .int t2, .int t3, .int t4])), (t0, .inl (g 0, 64, .inl af))] s.heap.size = A at hD ⊢
  have hA : ∀ q : Nat, s.heap.size ≤ q → A q := fun q h => by rw [← hAe]; exact Or.inr h
  have hS : va_S A s.heap s.heap [] := va_S.rf
  have hP : va_P D vC ([(h0, .inr (9, [.ref t0, .int 4, .int t2, .int t3, .int t4])), (t0, .inl (g 0, 64, .inl af))] ++ ([] : va_W)) s.heap := hP
  have hD : va_D A ([(h0, .inr (9, [.ref t0, .int 4, .int t2, .int t3, .int t4])), (t0, .inl (g 0, 64, .inl af))] ++ ([] : va_W)) := hD
  have hl := lv_entry ([.ref h0, .int n]) (n := 5) (Nat.le_of_ble_eq_true rfl)
  rw [lg_entry_eq]
  generalize (lg_sl ([.ref h0, .int n]) ++ List.replicate (5 - (lg_sl ([.ref h0, .int n])).length) Slot.unset).toArray = ls at hl ⊢
  have hl : lv_has ls 5 [(0, .ref h0), (1, .int n)] := hl
  refine lv_aload_n hx hb d_Tape_put_0 rfl (lv_at hl 0 rfl) ?_
  refine va_get (D := D) (ci := 9) (v := .ref t0) (C := "MatrixScripts$Tape") (T := T_Tape) (N := 5) hx hb hT in_Tape hown hK hP 0 rfl rfl 0 (by decide) (hT _ tw_213) (fun _ h9 => h9) rfl d_Tape_put_1 ?_
  refine va_alen hx hb hK hP 1 0 rfl rfl (v := 64) (show Int32.ofNat 64 = 64 by decide) d_Tape_put_4 ?_
  refine lv_aload_n hx hb d_Tape_put_5 rfl (lv_at hl 0 rfl) ?_
  refine va_get (D := D) (ci := 9) (v := .int 4) (C := "MatrixScripts$Tape") (T := T_Tape) (N := 5) hx hb hT in_Tape hown hK hP 0 rfl rfl 1 (by decide) (hT _ tw_215) (fun _ h9 => h9) rfl d_Tape_put_6 ?_
  refine lv_iconst (v := 3) hx hb d_Tape_put_9 (by decide) ?_
  refine lv_iadd hx hb d_Tape_put_10 ?_
  refine lv_topi (fun v10 ev10 => ?_)
  obtain rfl : v10 = 7 := ev10.trans (by decide)
  refine lv_iconst (v := 2) hx hb d_Tape_put_11 (by decide) ?_
  refine lv_ishr hx hb d_Tape_put_12 ?_
  refine lv_topi (fun v12 ev12 => ?_)
  obtain rfl : v12 = 1 := ev12.trans (by decide)
  refine lv_icmp_gt (tgt := 34) hx hb d_Tape_put_13 (by decide) (fun c13 => ?_) (fun c13 => absurd (by decide) c13)
  refine lv_bipush (v := 24) hx hb d_Tape_put_34 (by decide) ?_
  refine lv_istore_n (lv' := [(2, .int 24), (0, .ref h0), (1, .int n)]) hx hb d_Tape_put_36 rfl hl (by decide) rfl (fun ls hl => ?_)
  refine lv_iload_n hx hb d_Tape_put_37 rfl (lv_at hl 0 rfl) ?_
  refine lv_if_lt (tgt := 114) hx hb d_Tape_put_38 (by decide) (fun c38 => absurd c38 (by decide)) (fun c38 => ?_)
  refine lv_bipush (v := 24) hx hb d_Tape_put_41 (by decide) ?_
  refine lv_bipush (v := 8) hx hb d_Tape_put_43 (by decide) ?_
  refine lv_aload_n hx hb d_Tape_put_45 rfl (lv_at hl 1 rfl) ?_
  refine va_get (D := D) (ci := 9) (v := .int 4) (C := "MatrixScripts$Tape") (T := T_Tape) (N := 5) hx hb hT in_Tape hown hK hP 0 rfl rfl 1 (by decide) (hT _ tw_215) (fun _ h9 => h9) rfl d_Tape_put_46 ?_
  refine lv_iconst (v := 3) hx hb d_Tape_put_49 (by decide) ?_
  refine lv_iand hx hb d_Tape_put_50 ?_
  refine lv_topi (fun v50 ev50 => ?_)
  obtain rfl : v50 = 0 := ev50.trans (by decide)
  refine lv_imul hx hb d_Tape_put_51 ?_
  refine lv_topi (fun v51 ev51 => ?_)
  obtain rfl : v51 = 0 := ev51.trans (by decide)
  refine lv_isub hx hb d_Tape_put_52 ?_
  refine lv_topi (fun v52 ev52 => ?_)
  obtain rfl : v52 = 24 := ev52.trans (by decide)
  refine lv_istore_n (lv' := [(3, .int 24), (2, .int 24), (0, .ref h0), (1, .int n)]) hx hb d_Tape_put_53 rfl hl (by decide) rfl (fun ls hl => ?_)
  refine lv_aload_n hx hb d_Tape_put_54 rfl (lv_at hl 2 rfl) ?_
  refine va_get (D := D) (ci := 9) (v := .ref t0) (C := "MatrixScripts$Tape") (T := T_Tape) (N := 5) hx hb hT in_Tape hown hK hP 0 rfl rfl 0 (by decide) (hT _ tw_213) (fun _ h9 => h9) rfl d_Tape_put_55 ?_
  refine lv_aload_n hx hb d_Tape_put_58 rfl (lv_at hl 2 rfl) ?_
  refine va_get (D := D) (ci := 9) (v := .int 4) (C := "MatrixScripts$Tape") (T := T_Tape) (N := 5) hx hb hT in_Tape hown hK hP 0 rfl rfl 1 (by decide) (hT _ tw_215) (fun _ h9 => h9) rfl d_Tape_put_59 ?_
  refine lv_iconst (v := 2) hx hb d_Tape_put_62 (by decide) ?_
  refine lv_ishr hx hb d_Tape_put_63 ?_
  refine lv_topi (fun v63 ev63 => ?_)
  obtain rfl : v63 = 1 := ev63.trans (by decide)
  refine va_iald hx hb hK hP 1 0 rfl rfl (i := 1) (by unfold vp_in; decide) d_Tape_put_64 ?_
  refine lv_topi (fun v64 ev64 => ?_)
  refine lv_sipush (v := 255) hx hb d_Tape_put_65 (by decide) ?_
  refine lv_iload_n hx hb d_Tape_put_68 rfl (lv_at hl 0 rfl) ?_
  refine lv_ishl hx hb d_Tape_put_69 ?_
  refine lv_topi (fun v69 ev69 => ?_)
  obtain rfl : v69 = (-16777216) := ev69.trans (by decide)
  refine lv_iconst (v := -1) hx hb d_Tape_put_70 (by decide) ?_
  refine lv_ixor hx hb d_Tape_put_71 ?_
  refine lv_topi (fun v71 ev71 => ?_)
  obtain rfl : v71 = 16777215 := ev71.trans (by decide)
  refine lv_iand hx hb d_Tape_put_72 ?_
  refine lv_topi (fun v72 ev72 => ?_)
  refine lv_istore (lv' := [(4, .int v72), (3, .int 24), (2, .int 24), (0, .ref h0), (1, .int n)]) hx hb d_Tape_put_73 hl (by decide) rfl (fun ls hl => ?_)
  refine lv_aload_n hx hb d_Tape_put_75 rfl (lv_at hl 3 rfl) ?_
  refine va_get (D := D) (ci := 9) (v := .ref t0) (C := "MatrixScripts$Tape") (T := T_Tape) (N := 5) hx hb hT in_Tape hown hK hP 0 rfl rfl 0 (by decide) (hT _ tw_213) (fun _ h9 => h9) rfl d_Tape_put_76 ?_
  refine lv_aload_n hx hb d_Tape_put_79 rfl (lv_at hl 3 rfl) ?_
  refine va_get (D := D) (ci := 9) (v := .int 4) (C := "MatrixScripts$Tape") (T := T_Tape) (N := 5) hx hb hT in_Tape hown hK hP 0 rfl rfl 1 (by decide) (hT _ tw_215) (fun _ h9 => h9) rfl d_Tape_put_80 ?_
  refine lv_iconst (v := 2) hx hb d_Tape_put_83 (by decide) ?_
  refine lv_ishr hx hb d_Tape_put_84 ?_
  refine lv_topi (fun v84 ev84 => ?_)
  obtain rfl : v84 = 1 := ev84.trans (by decide)
  refine lv_iload hx hb d_Tape_put_85 (lv_at hl 0 rfl) ?_
  refine lv_iload_n hx hb d_Tape_put_87 rfl (lv_at hl 4 rfl) ?_
  refine lv_iload_n hx hb d_Tape_put_88 rfl (lv_at hl 2 rfl) ?_
  refine lv_iushr hx hb d_Tape_put_89 rfl ?_
  refine lv_topi (fun v89 ev89 => ?_)
  refine lv_sipush (v := 255) hx hb d_Tape_put_90 (by decide) ?_
  refine lv_iand hx hb d_Tape_put_93 ?_
  refine lv_topi (fun v93 ev93 => ?_)
  refine lv_iload_n hx hb d_Tape_put_94 rfl (lv_at hl 1 rfl) ?_
  refine lv_ishl hx hb d_Tape_put_95 ?_
  refine lv_topi (fun v95 ev95 => ?_)
  refine lv_ior hx hb d_Tape_put_96 ?_
  refine lv_topi (fun v96 ev96 => ?_)
  refine va_iast hx hb hK hP hD hS 1 0 rfl rfl (i := 1) (x := v96) (by unfold vp_in; decide) d_Tape_put_97 (fun H locs hP hD hS => ?_)
  have hP : va_P D vC ([(h0, .inr (9, [.ref t0, .int 4, .int t2, .int t3, .int t4])), (t0, .inl (g 0, 64, .inl (upd af 1 v96)))] ++ ([] : va_W)) H := hP
  have hD : va_D A ([(h0, .inr (9, [.ref t0, .int 4, .int t2, .int t3, .int t4])), (t0, .inl (g 0, 64, .inl (upd af 1 v96)))] ++ ([] : va_W)) := hD
  generalize upd af 1 v96 = f97 at hP hD
  refine lv_aload_n hx hb d_Tape_put_98 rfl (lv_at hl 3 rfl) ?_
  refine lv_dup hx hb d_Tape_put_99 rfl ?_
  refine va_get (D := D) (ci := 9) (v := .int 4) (C := "MatrixScripts$Tape") (T := T_Tape) (N := 5) hx hb hT in_Tape hown hK hP 0 rfl rfl 1 (by decide) (hT _ tw_215) (fun _ h9 => h9) rfl d_Tape_put_100 ?_
  refine lv_iconst (v := 1) hx hb d_Tape_put_103 (by decide) ?_
  refine lv_iadd hx hb d_Tape_put_104 ?_
  refine lv_topi (fun v104 ev104 => ?_)
  obtain rfl : v104 = 5 := ev104.trans (by decide)
  refine va_put (D := D) (ci := 9) (v := .int 5) (ty := .int) (C := "MatrixScripts$Tape") (T := T_Tape) (N := 5) hx hb hT in_Tape ty_Tape ty_Tape_ok nm_Tape hown hK hP hD hS 0 rfl rfl 1 (by decide) (hT _ tw_215) (fun _ h9 => h9) rfl (by decide +kernel) rfl rfl (Nat.le_of_ble_eq_true rfl) d_Tape_put_105 (fun H locs hP hD hS => ?_)
  have hP : va_P D vC ([(h0, .inr (9, [.ref t0, .int 5, .int t2, .int t3, .int t4])), (t0, .inl (g 0, 64, .inl f97))] ++ ([] : va_W)) H := hP
  have hD : va_D A ([(h0, .inr (9, [.ref t0, .int 5, .int t2, .int t3, .int t4])), (t0, .inl (g 0, 64, .inl f97))] ++ ([] : va_W)) := hD
  refine lv_iinc (v := 16) (lv' := [(2, .int 16), (4, .int v72), (3, .int 24), (0, .ref h0), (1, .int n)]) hx hb d_Tape_put_108 hl (k := 2) rfl (by decide) (by decide) rfl (fun ls hl => ?_)
  refine lv_goto (tgt := 37) hx hb d_Tape_put_111 (by decide) ?_
  refine lv_iload_n hx hb d_Tape_put_37 rfl (lv_at hl 0 rfl) ?_
  refine lv_if_lt (tgt := 114) hx hb d_Tape_put_38 (by decide) (fun c38 => absurd c38 (by decide)) (fun c38 => ?_)
  refine lv_bipush (v := 24) hx hb d_Tape_put_41 (by decide) ?_
  refine lv_bipush (v := 8) hx hb d_Tape_put_43 (by decide) ?_
  refine lv_aload_n hx hb d_Tape_put_45 rfl (lv_at hl 3 rfl) ?_
  refine va_get (D := D) (ci := 9) (v := .int 5) (C := "MatrixScripts$Tape") (T := T_Tape) (N := 5) hx hb hT in_Tape hown hK hP 0 rfl rfl 1 (by decide) (hT _ tw_215) (fun _ h9 => h9) rfl d_Tape_put_46 ?_
  refine lv_iconst (v := 3) hx hb d_Tape_put_49 (by decide) ?_
  refine lv_iand hx hb d_Tape_put_50 ?_
  refine lv_topi (fun v50_1 ev50_1 => ?_)
  obtain rfl : v50_1 = 1 := ev50_1.trans (by decide)
  refine lv_imul hx hb d_Tape_put_51 ?_
  refine lv_topi (fun v51_1 ev51_1 => ?_)
  obtain rfl : v51_1 = 8 := ev51_1.trans (by decide)
  refine lv_isub hx hb d_Tape_put_52 ?_
  refine lv_topi (fun v52_1 ev52_1 => ?_)
  obtain rfl : v52_1 = 16 := ev52_1.trans (by decide)
  refine lv_istore_n (lv' := [(3, .int 16), (2, .int 16), (4, .int v72), (0, .ref h0), (1, .int n)]) hx hb d_Tape_put_53 rfl hl (by decide) rfl (fun ls hl => ?_)
  refine lv_aload_n hx hb d_Tape_put_54 rfl (lv_at hl 3 rfl) ?_
  refine va_get (D := D) (ci := 9) (v := .ref t0) (C := "MatrixScripts$Tape") (T := T_Tape) (N := 5) hx hb hT in_Tape hown hK hP 0 rfl rfl 0 (by decide) (hT _ tw_213) (fun _ h9 => h9) rfl d_Tape_put_55 ?_
  refine lv_aload_n hx hb d_Tape_put_58 rfl (lv_at hl 3 rfl) ?_
  refine va_get (D := D) (ci := 9) (v := .int 5) (C := "MatrixScripts$Tape") (T := T_Tape) (N := 5) hx hb hT in_Tape hown hK hP 0 rfl rfl 1 (by decide) (hT _ tw_215) (fun _ h9 => h9) rfl d_Tape_put_59 ?_
  refine lv_iconst (v := 2) hx hb d_Tape_put_62 (by decide) ?_
  refine lv_ishr hx hb d_Tape_put_63 ?_
  refine lv_topi (fun v63_1 ev63_1 => ?_)
  obtain rfl : v63_1 = 1 := ev63_1.trans (by decide)
  refine va_iald hx hb hK hP 1 0 rfl rfl (i := 1) (by unfold vp_in; decide) d_Tape_put_64 ?_
  refine lv_topi (fun v64_1 ev64_1 => ?_)
  refine lv_sipush (v := 255) hx hb d_Tape_put_65 (by decide) ?_
  refine lv_iload_n hx hb d_Tape_put_68 rfl (lv_at hl 0 rfl) ?_
  refine lv_ishl hx hb d_Tape_put_69 ?_
  refine lv_topi (fun v69_1 ev69_1 => ?_)
  obtain rfl : v69_1 = 16711680 := ev69_1.trans (by decide)
  refine lv_iconst (v := -1) hx hb d_Tape_put_70 (by decide) ?_
  refine lv_ixor hx hb d_Tape_put_71 ?_
  refine lv_topi (fun v71_1 ev71_1 => ?_)
  obtain rfl : v71_1 = (-16711681) := ev71_1.trans (by decide)
  refine lv_iand hx hb d_Tape_put_72 ?_
  refine lv_topi (fun v72_1 ev72_1 => ?_)
  refine lv_istore (lv' := [(4, .int v72_1), (3, .int 16), (2, .int 16), (0, .ref h0), (1, .int n)]) hx hb d_Tape_put_73 hl (by decide) rfl (fun ls hl => ?_)
  refine lv_aload_n hx hb d_Tape_put_75 rfl (lv_at hl 3 rfl) ?_
  refine va_get (D := D) (ci := 9) (v := .ref t0) (C := "MatrixScripts$Tape") (T := T_Tape) (N := 5) hx hb hT in_Tape hown hK hP 0 rfl rfl 0 (by decide) (hT _ tw_213) (fun _ h9 => h9) rfl d_Tape_put_76 ?_
  refine lv_aload_n hx hb d_Tape_put_79 rfl (lv_at hl 3 rfl) ?_
  refine va_get (D := D) (ci := 9) (v := .int 5) (C := "MatrixScripts$Tape") (T := T_Tape) (N := 5) hx hb hT in_Tape hown hK hP 0 rfl rfl 1 (by decide) (hT _ tw_215) (fun _ h9 => h9) rfl d_Tape_put_80 ?_
  refine lv_iconst (v := 2) hx hb d_Tape_put_83 (by decide) ?_
  refine lv_ishr hx hb d_Tape_put_84 ?_
  refine lv_topi (fun v84_1 ev84_1 => ?_)
  obtain rfl : v84_1 = 1 := ev84_1.trans (by decide)
  refine lv_iload hx hb d_Tape_put_85 (lv_at hl 0 rfl) ?_
  refine lv_iload_n hx hb d_Tape_put_87 rfl (lv_at hl 4 rfl) ?_
  refine lv_iload_n hx hb d_Tape_put_88 rfl (lv_at hl 2 rfl) ?_
  refine lv_iushr hx hb d_Tape_put_89 rfl ?_
  refine lv_topi (fun v89_1 ev89_1 => ?_)
  refine lv_sipush (v := 255) hx hb d_Tape_put_90 (by decide) ?_
  refine lv_iand hx hb d_Tape_put_93 ?_
  refine lv_topi (fun v93_1 ev93_1 => ?_)
  refine lv_iload_n hx hb d_Tape_put_94 rfl (lv_at hl 1 rfl) ?_
  refine lv_ishl hx hb d_Tape_put_95 ?_
  refine lv_topi (fun v95_1 ev95_1 => ?_)
  refine lv_ior hx hb d_Tape_put_96 ?_
  refine lv_topi (fun v96_1 ev96_1 => ?_)
  refine va_iast hx hb hK hP hD hS 1 0 rfl rfl (i := 1) (x := v96_1) (by unfold vp_in; decide) d_Tape_put_97 (fun H locs hP hD hS => ?_)
  have hP : va_P D vC ([(h0, .inr (9, [.ref t0, .int 5, .int t2, .int t3, .int t4])), (t0, .inl (g 0, 64, .inl (upd f97 1 v96_1)))] ++ ([] : va_W)) H := hP
  have hD : va_D A ([(h0, .inr (9, [.ref t0, .int 5, .int t2, .int t3, .int t4])), (t0, .inl (g 0, 64, .inl (upd f97 1 v96_1)))] ++ ([] : va_W)) := hD
  generalize upd f97 1 v96_1 = f97_1 at hP hD
  refine lv_aload_n hx hb d_Tape_put_98 rfl (lv_at hl 3 rfl) ?_
  refine lv_dup hx hb d_Tape_put_99 rfl ?_
  refine va_get (D := D) (ci := 9) (v := .int 5) (C := "MatrixScripts$Tape") (T := T_Tape) (N := 5) hx hb hT in_Tape hown hK hP 0 rfl rfl 1 (by decide) (hT _ tw_215) (fun _ h9 => h9) rfl d_Tape_put_100 ?_
  refine lv_iconst (v := 1) hx hb d_Tape_put_103 (by decide) ?_
  refine lv_iadd hx hb d_Tape_put_104 ?_
  refine lv_topi (fun v104_1 ev104_1 => ?_)
  obtain rfl : v104_1 = 6 := ev104_1.trans (by decide)
  refine va_put (D := D) (ci := 9) (v := .int 6) (ty := .int) (C := "MatrixScripts$Tape") (T := T_Tape) (N := 5) hx hb hT in_Tape ty_Tape ty_Tape_ok nm_Tape hown hK hP hD hS 0 rfl rfl 1 (by decide) (hT _ tw_215) (fun _ h9 => h9) rfl (by decide +kernel) rfl rfl (Nat.le_of_ble_eq_true rfl) d_Tape_put_105 (fun H locs hP hD hS => ?_)
  have hP : va_P D vC ([(h0, .inr (9, [.ref t0, .int 6, .int t2, .int t3, .int t4])), (t0, .inl (g 0, 64, .inl f97_1))] ++ ([] : va_W)) H := hP
  have hD : va_D A ([(h0, .inr (9, [.ref t0, .int 6, .int t2, .int t3, .int t4])), (t0, .inl (g 0, 64, .inl f97_1))] ++ ([] : va_W)) := hD
  refine lv_iinc (v := 8) (lv' := [(2, .int 8), (4, .int v72_1), (3, .int 16), (0, .ref h0), (1, .int n)]) hx hb d_Tape_put_108 hl (k := 2) rfl (by decide) (by decide) rfl (fun ls hl => ?_)
  refine lv_goto (tgt := 37) hx hb d_Tape_put_111 (by decide) ?_
  refine lv_iload_n hx hb d_Tape_put_37 rfl (lv_at hl 0 rfl) ?_
  refine lv_if_lt (tgt := 114) hx hb d_Tape_put_38 (by decide) (fun c38 => absurd c38 (by decide)) (fun c38 => ?_)
  refine lv_bipush (v := 24) hx hb d_Tape_put_41 (by decide) ?_
  refine lv_bipush (v := 8) hx hb d_Tape_put_43 (by decide) ?_
  refine lv_aload_n hx hb d_Tape_put_45 rfl (lv_at hl 3 rfl) ?_
  refine va_get (D := D) (ci := 9) (v := .int 6) (C := "MatrixScripts$Tape") (T := T_Tape) (N := 5) hx hb hT in_Tape hown hK hP 0 rfl rfl 1 (by decide) (hT _ tw_215) (fun _ h9 => h9) rfl d_Tape_put_46 ?_
  refine lv_iconst (v := 3) hx hb d_Tape_put_49 (by decide) ?_
  refine lv_iand hx hb d_Tape_put_50 ?_
  refine lv_topi (fun v50_2 ev50_2 => ?_)
  obtain rfl : v50_2 = 2 := ev50_2.trans (by decide)
  refine lv_imul hx hb d_Tape_put_51 ?_
  refine lv_topi (fun v51_2 ev51_2 => ?_)
  obtain rfl : v51_2 = 16 := ev51_2.trans (by decide)
  refine lv_isub hx hb d_Tape_put_52 ?_
  refine lv_topi (fun v52_2 ev52_2 => ?_)
  obtain rfl : v52_2 = 8 := ev52_2.trans (by decide)
  refine lv_istore_n (lv' := [(3, .int 8), (2, .int 8), (4, .int v72_1), (0, .ref h0), (1, .int n)]) hx hb d_Tape_put_53 rfl hl (by decide) rfl (fun ls hl => ?_)
  refine lv_aload_n hx hb d_Tape_put_54 rfl (lv_at hl 3 rfl) ?_
  refine va_get (D := D) (ci := 9) (v := .ref t0) (C := "MatrixScripts$Tape") (T := T_Tape) (N := 5) hx hb hT in_Tape hown hK hP 0 rfl rfl 0 (by decide) (hT _ tw_213) (fun _ h9 => h9) rfl d_Tape_put_55 ?_
  refine lv_aload_n hx hb d_Tape_put_58 rfl (lv_at hl 3 rfl) ?_
  refine va_get (D := D) (ci := 9) (v := .int 6) (C := "MatrixScripts$Tape") (T := T_Tape) (N := 5) hx hb hT in_Tape hown hK hP 0 rfl rfl 1 (by decide) (hT _ tw_215) (fun _ h9 => h9) rfl d_Tape_put_59 ?_
  refine lv_iconst (v := 2) hx hb d_Tape_put_62 (by decide) ?_
  refine lv_ishr hx hb d_Tape_put_63 ?_
  refine lv_topi (fun v63_2 ev63_2 => ?_)
  obtain rfl : v63_2 = 1 := ev63_2.trans (by decide)
  refine va_iald hx hb hK hP 1 0 rfl rfl (i := 1) (by unfold vp_in; decide) d_Tape_put_64 ?_
  refine lv_topi (fun v64_2 ev64_2 => ?_)
  refine lv_sipush (v := 255) hx hb d_Tape_put_65 (by decide) ?_
  refine lv_iload_n hx hb d_Tape_put_68 rfl (lv_at hl 0 rfl) ?_
  refine lv_ishl hx hb d_Tape_put_69 ?_
  refine lv_topi (fun v69_2 ev69_2 => ?_)
  obtain rfl : v69_2 = 65280 := ev69_2.trans (by decide)
  refine lv_iconst (v := -1) hx hb d_Tape_put_70 (by decide) ?_
  refine lv_ixor hx hb d_Tape_put_71 ?_
  refine lv_topi (fun v71_2 ev71_2 => ?_)
  obtain rfl : v71_2 = (-65281) := ev71_2.trans (by decide)
  refine lv_iand hx hb d_Tape_put_72 ?_
  refine lv_topi (fun v72_2 ev72_2 => ?_)
  refine lv_istore (lv' := [(4, .int v72_2), (3, .int 8), (2, .int 8), (0, .ref h0), (1, .int n)]) hx hb d_Tape_put_73 hl (by decide) rfl (fun ls hl => ?_)
  refine lv_aload_n hx hb d_Tape_put_75 rfl (lv_at hl 3 rfl) ?_
  refine va_get (D := D) (ci := 9) (v := .ref t0) (C := "MatrixScripts$Tape") (T := T_Tape) (N := 5) hx hb hT in_Tape hown hK hP 0 rfl rfl 0 (by decide) (hT _ tw_213) (fun _ h9 => h9) rfl d_Tape_put_76 ?_
  refine lv_aload_n hx hb d_Tape_put_79 rfl (lv_at hl 3 rfl) ?_
  refine va_get (D := D) (ci := 9) (v := .int 6) (C := "MatrixScripts$Tape") (T := T_Tape) (N := 5) hx hb hT in_Tape hown hK hP 0 rfl rfl 1 (by decide) (hT _ tw_215) (fun _ h9 => h9) rfl d_Tape_put_80 ?_
  refine lv_iconst (v := 2) hx hb d_Tape_put_83 (by decide) ?_
  refine lv_ishr hx hb d_Tape_put_84 ?_
  refine lv_topi (fun v84_2 ev84_2 => ?_)
  obtain rfl : v84_2 = 1 := ev84_2.trans (by decide)
  refine lv_iload hx hb d_Tape_put_85 (lv_at hl 0 rfl) ?_
  refine lv_iload_n hx hb d_Tape_put_87 rfl (lv_at hl 4 rfl) ?_
  refine lv_iload_n hx hb d_Tape_put_88 rfl (lv_at hl 2 rfl) ?_
  refine lv_iushr hx hb d_Tape_put_89 rfl ?_
  refine lv_topi (fun v89_2 ev89_2 => ?_)
  refine lv_sipush (v := 255) hx hb d_Tape_put_90 (by decide) ?_
  refine lv_iand hx hb d_Tape_put_93 ?_
  refine lv_topi (fun v93_2 ev93_2 => ?_)
  refine lv_iload_n hx hb d_Tape_put_94 rfl (lv_at hl 1 rfl) ?_
  refine lv_ishl hx hb d_Tape_put_95 ?_
  refine lv_topi (fun v95_2 ev95_2 => ?_)
  refine lv_ior hx hb d_Tape_put_96 ?_
  refine lv_topi (fun v96_2 ev96_2 => ?_)
  refine va_iast hx hb hK hP hD hS 1 0 rfl rfl (i := 1) (x := v96_2) (by unfold vp_in; decide) d_Tape_put_97 (fun H locs hP hD hS => ?_)
  have hP : va_P D vC ([(h0, .inr (9, [.ref t0, .int 6, .int t2, .int t3, .int t4])), (t0, .inl (g 0, 64, .inl (upd f97_1 1 v96_2)))] ++ ([] : va_W)) H := hP
  have hD : va_D A ([(h0, .inr (9, [.ref t0, .int 6, .int t2, .int t3, .int t4])), (t0, .inl (g 0, 64, .inl (upd f97_1 1 v96_2)))] ++ ([] : va_W)) := hD
  generalize upd f97_1 1 v96_2 = f97_2 at hP hD
  refine lv_aload_n hx hb d_Tape_put_98 rfl (lv_at hl 3 rfl) ?_
  refine lv_dup hx hb d_Tape_put_99 rfl ?_
  refine va_get (D := D) (ci := 9) (v := .int 6) (C := "MatrixScripts$Tape") (T := T_Tape) (N := 5) hx hb hT in_Tape hown hK hP 0 rfl rfl 1 (by decide) (hT _ tw_215) (fun _ h9 => h9) rfl d_Tape_put_100 ?_
  refine lv_iconst (v := 1) hx hb d_Tape_put_103 (by decide) ?_
  refine lv_iadd hx hb d_Tape_put_104 ?_
  refine lv_topi (fun v104_2 ev104_2 => ?_)
  obtain rfl : v104_2 = 7 := ev104_2.trans (by decide)
  refine va_put (D := D) (ci := 9) (v := .int 7) (ty := .int) (C := "MatrixScripts$Tape") (T := T_Tape) (N := 5) hx hb hT in_Tape ty_Tape ty_Tape_ok nm_Tape hown hK hP hD hS 0 rfl rfl 1 (by decide) (hT _ tw_215) (fun _ h9 => h9) rfl (by decide +kernel) rfl rfl (Nat.le_of_ble_eq_true rfl) d_Tape_put_105 (fun H locs hP hD hS => ?_)
  have hP : va_P D vC ([(h0, .inr (9, [.ref t0, .int 7, .int t2, .int t3, .int t4])), (t0, .inl (g 0, 64, .inl f97_2))] ++ ([] : va_W)) H := hP
  have hD : va_D A ([(h0, .inr (9, [.ref t0, .int 7, .int t2, .int t3, .int t4])), (t0, .inl (g 0, 64, .inl f97_2))] ++ ([] : va_W)) := hD
  refine lv_iinc (v := 0) (lv' := [(2, .int 0), (4, .int v72_2), (3, .int 8), (0, .ref h0), (1, .int n)]) hx hb d_Tape_put_108 hl (k := 2) rfl (by decide) (by decide) rfl (fun ls hl => ?_)
  refine lv_goto (tgt := 37) hx hb d_Tape_put_111 (by decide) ?_
  refine lv_iload_n hx hb d_Tape_put_37 rfl (lv_at hl 0 rfl) ?_
  refine lv_if_lt (tgt := 114) hx hb d_Tape_put_38 (by decide) (fun c38 => absurd c38 (by decide)) (fun c38 => ?_)
  refine lv_bipush (v := 24) hx hb d_Tape_put_41 (by decide) ?_
  refine lv_bipush (v := 8) hx hb d_Tape_put_43 (by decide) ?_
  refine lv_aload_n hx hb d_Tape_put_45 rfl (lv_at hl 3 rfl) ?_
  refine va_get (D := D) (ci := 9) (v := .int 7) (C := "MatrixScripts$Tape") (T := T_Tape) (N := 5) hx hb hT in_Tape hown hK hP 0 rfl rfl 1 (by decide) (hT _ tw_215) (fun _ h9 => h9) rfl d_Tape_put_46 ?_
  refine lv_iconst (v := 3) hx hb d_Tape_put_49 (by decide) ?_
  refine lv_iand hx hb d_Tape_put_50 ?_
  refine lv_topi (fun v50_3 ev50_3 => ?_)
  obtain rfl : v50_3 = 3 := ev50_3.trans (by decide)
  refine lv_imul hx hb d_Tape_put_51 ?_
  refine lv_topi (fun v51_3 ev51_3 => ?_)
  obtain rfl : v51_3 = 24 := ev51_3.trans (by decide)
  refine lv_isub hx hb d_Tape_put_52 ?_
  refine lv_topi (fun v52_3 ev52_3 => ?_)
  obtain rfl : v52_3 = 0 := ev52_3.trans (by decide)
  refine lv_istore_n (lv' := [(3, .int 0), (2, .int 0), (4, .int v72_2), (0, .ref h0), (1, .int n)]) hx hb d_Tape_put_53 rfl hl (by decide) rfl (fun ls hl => ?_)
  refine lv_aload_n hx hb d_Tape_put_54 rfl (lv_at hl 3 rfl) ?_
  refine va_get (D := D) (ci := 9) (v := .ref t0) (C := "MatrixScripts$Tape") (T := T_Tape) (N := 5) hx hb hT in_Tape hown hK hP 0 rfl rfl 0 (by decide) (hT _ tw_213) (fun _ h9 => h9) rfl d_Tape_put_55 ?_
  refine lv_aload_n hx hb d_Tape_put_58 rfl (lv_at hl 3 rfl) ?_
  refine va_get (D := D) (ci := 9) (v := .int 7) (C := "MatrixScripts$Tape") (T := T_Tape) (N := 5) hx hb hT in_Tape hown hK hP 0 rfl rfl 1 (by decide) (hT _ tw_215) (fun _ h9 => h9) rfl d_Tape_put_59 ?_
  refine lv_iconst (v := 2) hx hb d_Tape_put_62 (by decide) ?_
  refine lv_ishr hx hb d_Tape_put_63 ?_
  refine lv_topi (fun v63_3 ev63_3 => ?_)
  obtain rfl : v63_3 = 1 := ev63_3.trans (by decide)
  refine va_iald hx hb hK hP 1 0 rfl rfl (i := 1) (by unfold vp_in; decide) d_Tape_put_64 ?_
  refine lv_topi (fun v64_3 ev64_3 => ?_)
  refine lv_sipush (v := 255) hx hb d_Tape_put_65 (by decide) ?_
  refine lv_iload_n hx hb d_Tape_put_68 rfl (lv_at hl 0 rfl) ?_
  refine lv_ishl hx hb d_Tape_put_69 ?_
  refine lv_topi (fun v69_3 ev69_3 => ?_)
  obtain rfl : v69_3 = 255 := ev69_3.trans (by decide)
  refine lv_iconst (v := -1) hx hb d_Tape_put_70 (by decide) ?_
  refine lv_ixor hx hb d_Tape_put_71 ?_
  refine lv_topi (fun v71_3 ev71_3 => ?_)
  obtain rfl : v71_3 = (-256) := ev71_3.trans (by decide)
  refine lv_iand hx hb d_Tape_put_72 ?_
  refine lv_topi (fun v72_3 ev72_3 => ?_)
  refine lv_istore (lv' := [(4, .int v72_3), (3, .int 0), (2, .int 0), (0, .ref h0), (1, .int n)]) hx hb d_Tape_put_73 hl (by decide) rfl (fun ls hl => ?_)
  refine lv_aload_n hx hb d_Tape_put_75 rfl (lv_at hl 3 rfl) ?_
  refine va_get (D := D) (ci := 9) (v := .ref t0) (C := "MatrixScripts$Tape") (T := T_Tape) (N := 5) hx hb hT in_Tape hown hK hP 0 rfl rfl 0 (by decide) (hT _ tw_213) (fun _ h9 => h9) rfl d_Tape_put_76 ?_
  refine lv_aload_n hx hb d_Tape_put_79 rfl (lv_at hl 3 rfl) ?_
  refine va_get (D := D) (ci := 9) (v := .int 7) (C := "MatrixScripts$Tape") (T := T_Tape) (N := 5) hx hb hT in_Tape hown hK hP 0 rfl rfl 1 (by decide) (hT _ tw_215) (fun _ h9 => h9) rfl d_Tape_put_80 ?_
  refine lv_iconst (v := 2) hx hb d_Tape_put_83 (by decide) ?_
  refine lv_ishr hx hb d_Tape_put_84 ?_
  refine lv_topi (fun v84_3 ev84_3 => ?_)
  obtain rfl : v84_3 = 1 := ev84_3.trans (by decide)
  refine lv_iload hx hb d_Tape_put_85 (lv_at hl 0 rfl) ?_
  refine lv_iload_n hx hb d_Tape_put_87 rfl (lv_at hl 4 rfl) ?_
  refine lv_iload_n hx hb d_Tape_put_88 rfl (lv_at hl 2 rfl) ?_
  refine lv_iushr hx hb d_Tape_put_89 rfl ?_
  refine lv_topi (fun v89_3 ev89_3 => ?_)
  refine lv_sipush (v := 255) hx hb d_Tape_put_90 (by decide) ?_
  refine lv_iand hx hb d_Tape_put_93 ?_
  refine lv_topi (fun v93_3 ev93_3 => ?_)
  refine lv_iload_n hx hb d_Tape_put_94 rfl (lv_at hl 1 rfl) ?_
  refine lv_ishl hx hb d_Tape_put_95 ?_
  refine lv_topi (fun v95_3 ev95_3 => ?_)
  refine lv_ior hx hb d_Tape_put_96 ?_
  refine lv_topi (fun v96_3 ev96_3 => ?_)
  refine va_iast hx hb hK hP hD hS 1 0 rfl rfl (i := 1) (x := v96_3) (by unfold vp_in; decide) d_Tape_put_97 (fun H locs hP hD hS => ?_)
  have hP : va_P D vC ([(h0, .inr (9, [.ref t0, .int 7, .int t2, .int t3, .int t4])), (t0, .inl (g 0, 64, .inl (upd f97_2 1 v96_3)))] ++ ([] : va_W)) H := hP
  have hD : va_D A ([(h0, .inr (9, [.ref t0, .int 7, .int t2, .int t3, .int t4])), (t0, .inl (g 0, 64, .inl (upd f97_2 1 v96_3)))] ++ ([] : va_W)) := hD
  generalize upd f97_2 1 v96_3 = f97_3 at hP hD
  refine lv_aload_n hx hb d_Tape_put_98 rfl (lv_at hl 3 rfl) ?_
  refine lv_dup hx hb d_Tape_put_99 rfl ?_
  refine va_get (D := D) (ci := 9) (v := .int 7) (C := "MatrixScripts$Tape") (T := T_Tape) (N := 5) hx hb hT in_Tape hown hK hP 0 rfl rfl 1 (by decide) (hT _ tw_215) (fun _ h9 => h9) rfl d_Tape_put_100 ?_
  refine lv_iconst (v := 1) hx hb d_Tape_put_103 (by decide) ?_
  refine lv_iadd hx hb d_Tape_put_104 ?_
  refine lv_topi (fun v104_3 ev104_3 => ?_)
  obtain rfl : v104_3 = 8 := ev104_3.trans (by decide)
  refine va_put (D := D) (ci := 9) (v := .int 8) (ty := .int) (C := "MatrixScripts$Tape") (T := T_Tape) (N := 5) hx hb hT in_Tape ty_Tape ty_Tape_ok nm_Tape hown hK hP hD hS 0 rfl rfl 1 (by decide) (hT _ tw_215) (fun _ h9 => h9) rfl (by decide +kernel) rfl rfl (Nat.le_of_ble_eq_true rfl) d_Tape_put_105 (fun H locs hP hD hS => ?_)
  have hP : va_P D vC ([(h0, .inr (9, [.ref t0, .int 8, .int t2, .int t3, .int t4])), (t0, .inl (g 0, 64, .inl f97_3))] ++ ([] : va_W)) H := hP
  have hD : va_D A ([(h0, .inr (9, [.ref t0, .int 8, .int t2, .int t3, .int t4])), (t0, .inl (g 0, 64, .inl f97_3))] ++ ([] : va_W)) := hD
  refine lv_iinc (v := (-8)) (lv' := [(2, .int (-8)), (4, .int v72_3), (3, .int 0), (0, .ref h0), (1, .int n)]) hx hb d_Tape_put_108 hl (k := 2) rfl (by decide) (by decide) rfl (fun ls hl => ?_)
  refine lv_goto (tgt := 37) hx hb d_Tape_put_111 (by decide) ?_
  refine lv_iload_n hx hb d_Tape_put_37 rfl (lv_at hl 0 rfl) ?_
  refine lv_if_lt (tgt := 114) hx hb d_Tape_put_38 (by decide) (fun c38 => ?_) (fun c38 => absurd (by decide) c38)
  have hP9 := pm_subP (a' := [(h0, .inr (9, [.ref t0, .int 8, .int t2, .int t3, .int t4])), (t0, .inl (g 0, 64, .inl f97_3))]) hP [0, 1] rfl
  have hD9 := pm_subD (a' := [(h0, .inr (9, [.ref t0, .int 8, .int t2, .int t3, .int t4])), (t0, .inl (g 0, 64, .inl f97_3))]) hD [0, 1] (by decide) rfl
  refine W.widen (k := 0) (n := 0) (Nat.le_of_ble_eq_true rfl) (Nat.le_of_ble_eq_true rfl) ?_
  exact W.vret hx hb hr (fun t ht1 hW => ⟨⟨f97_3, rfl, trivial, by rw [ht1]; exact hP9, hD9⟩, hS.F ht1⟩) hS.2.2 d_Tape_put_114
set_option maxHeartbeats 4000000 in
set_option maxRecDepth 100000 in
theorem c_Tape_put_8 (l : Launch) (D : va_G) (g : Nat → ClassId) (h0 : Nat) (t0 : Nat) (t2 : Int32) (t3 : Int32) (t4 : Int32) (af : Nat → Int32) (n : Int32) (sz : Nat) : Met l ⟨"MatrixScripts$Tape", "put", "(I)V"⟩ w_Tape_put { frames := 0, cells := 0, slots := 0, locals := 0 } (cp D g [.ref h0, .int n] [(h0, .inr (9, [.ref t0, .int 8, .int t2, .int t3, .int t4])), (t0, .inl (g 0, 64, .inl af))] sz) (cw D (va_A [(h0, .inr (9, [.ref t0, .int 8, .int t2, .int t3, .int t4])), (t0, .inl (g 0, 64, .inl af))] sz) (fun _ => True) (fun u : Nat → Int32 => [(h0, .inr (9, [.ref t0, .int 12, .int t2, .int t3, .int t4])), (t0, .inl (g 0, 64, .inl u))])) 0 0 (va_A [(h0, .inr (9, [.ref t0, .int 8, .int t2, .int t3, .int t4])), (t0, .inl (g 0, 64, .inl af))] sz) := by
  refine Met.ofW (cc := prog_13_method_2_code) (maxL := 5) (ret := none) (by decide) rfl ?_
  intro p e s m args below meth c s₁ B0 hml hv
  obtain ⟨rfl, hsz, hP, hK, hD0, hN⟩ := hv
  have hx := B0.exec
  have hb := B0.bytes
  have hr := B0.returns
  have hts := atoms_spec (ws := w_Tape_put) B0.pre
  have hT := fun (w : Cond) (h : w ∈ wd_all) => hts w (List.mem_cons_of_mem _ h)
  have hown : s.vm.findClass "MatrixScripts$Tape" = some m.cls := findClass_of_methodNamed B0.named
  have hlocks := B0.notSynchronized
  subst hsz
  have hD := hD0.self (sz := s.heap.size)
  generalize hAe : va_A [(h0, .inr (9, [.ref t0, .int 8, .int t2, .int t3, .int t4])), (t0, .inl (g 0, 64, .inl af))] s.heap.size = A at hD ⊢
  have hA : ∀ q : Nat, s.heap.size ≤ q → A q := fun q h => by rw [← hAe]; exact Or.inr h
  have hS : va_S A s.heap s.heap [] := va_S.rf
  have hP : va_P D vC ([(h0, .inr (9, [.ref t0, .int 8, .int t2, .int t3, .int t4])), (t0, .inl (g 0, 64, .inl af))] ++ ([] : va_W)) s.heap := hP
  have hD : va_D A ([(h0, .inr (9, [.ref t0, .int 8, .int t2, .int t3, .int t4])), (t0, .inl (g 0, 64, .inl af))] ++ ([] : va_W)) := hD
  have hl := lv_entry ([.ref h0, .int n]) (n := 5) (Nat.le_of_ble_eq_true rfl)
  rw [lg_entry_eq]
  generalize (lg_sl ([.ref h0, .int n]) ++ List.replicate (5 - (lg_sl ([.ref h0, .int n])).length) Slot.unset).toArray = ls at hl ⊢
  have hl : lv_has ls 5 [(0, .ref h0), (1, .int n)] := hl
  refine lv_aload_n hx hb d_Tape_put_0 rfl (lv_at hl 0 rfl) ?_
  refine va_get (D := D) (ci := 9) (v := .ref t0) (C := "MatrixScripts$Tape") (T := T_Tape) (N := 5) hx hb hT in_Tape hown hK hP 0 rfl rfl 0 (by decide) (hT _ tw_213) (fun _ h9 => h9) rfl d_Tape_put_1 ?_
  refine va_alen hx hb hK hP 1 0 rfl rfl (v := 64) (show Int32.ofNat 64 = 64 by decide) d_Tape_put_4 ?_
  refine lv_aload_n hx hb d_Tape_put_5 rfl (lv_at hl 0 rfl) ?_
  refine va_get (D := D) (ci := 9) (v := .int 8) (C := "MatrixScripts$Tape") (T := T_Tape) (N := 5) hx hb hT in_Tape hown hK hP 0 rfl rfl 1 (by decide) (hT _ tw_215) (fun _ h9 => h9) rfl d_Tape_put_6 ?_
  refine lv_iconst (v := 3) hx hb d_Tape_put_9 (by decide) ?_
  refine lv_iadd hx hb d_Tape_put_10 ?_
  refine lv_topi (fun v10 ev10 => ?_)
  obtain rfl : v10 = 11 := ev10.trans (by decide)
  refine lv_iconst (v := 2) hx hb d_Tape_put_11 (by decide) ?_
  refine lv_ishr hx hb d_Tape_put_12 ?_
  refine lv_topi (fun v12 ev12 => ?_)
  obtain rfl : v12 = 2 := ev12.trans (by decide)
  refine lv_icmp_gt (tgt := 34) hx hb d_Tape_put_13 (by decide) (fun c13 => ?_) (fun c13 => absurd (by decide) c13)
  refine lv_bipush (v := 24) hx hb d_Tape_put_34 (by decide) ?_
  refine lv_istore_n (lv' := [(2, .int 24), (0, .ref h0), (1, .int n)]) hx hb d_Tape_put_36 rfl hl (by decide) rfl (fun ls hl => ?_)
  refine lv_iload_n hx hb d_Tape_put_37 rfl (lv_at hl 0 rfl) ?_
  refine lv_if_lt (tgt := 114) hx hb d_Tape_put_38 (by decide) (fun c38 => absurd c38 (by decide)) (fun c38 => ?_)
  refine lv_bipush (v := 24) hx hb d_Tape_put_41 (by decide) ?_
  refine lv_bipush (v := 8) hx hb d_Tape_put_43 (by decide) ?_
  refine lv_aload_n hx hb d_Tape_put_45 rfl (lv_at hl 1 rfl) ?_
  refine va_get (D := D) (ci := 9) (v := .int 8) (C := "MatrixScripts$Tape") (T := T_Tape) (N := 5) hx hb hT in_Tape hown hK hP 0 rfl rfl 1 (by decide) (hT _ tw_215) (fun _ h9 => h9) rfl d_Tape_put_46 ?_
  refine lv_iconst (v := 3) hx hb d_Tape_put_49 (by decide) ?_
  refine lv_iand hx hb d_Tape_put_50 ?_
  refine lv_topi (fun v50 ev50 => ?_)
  obtain rfl : v50 = 0 := ev50.trans (by decide)
  refine lv_imul hx hb d_Tape_put_51 ?_
  refine lv_topi (fun v51 ev51 => ?_)
  obtain rfl : v51 = 0 := ev51.trans (by decide)
  refine lv_isub hx hb d_Tape_put_52 ?_
  refine lv_topi (fun v52 ev52 => ?_)
  obtain rfl : v52 = 24 := ev52.trans (by decide)
  refine lv_istore_n (lv' := [(3, .int 24), (2, .int 24), (0, .ref h0), (1, .int n)]) hx hb d_Tape_put_53 rfl hl (by decide) rfl (fun ls hl => ?_)
  refine lv_aload_n hx hb d_Tape_put_54 rfl (lv_at hl 2 rfl) ?_
  refine va_get (D := D) (ci := 9) (v := .ref t0) (C := "MatrixScripts$Tape") (T := T_Tape) (N := 5) hx hb hT in_Tape hown hK hP 0 rfl rfl 0 (by decide) (hT _ tw_213) (fun _ h9 => h9) rfl d_Tape_put_55 ?_
  refine lv_aload_n hx hb d_Tape_put_58 rfl (lv_at hl 2 rfl) ?_
  refine va_get (D := D) (ci := 9) (v := .int 8) (C := "MatrixScripts$Tape") (T := T_Tape) (N := 5) hx hb hT in_Tape hown hK hP 0 rfl rfl 1 (by decide) (hT _ tw_215) (fun _ h9 => h9) rfl d_Tape_put_59 ?_
  refine lv_iconst (v := 2) hx hb d_Tape_put_62 (by decide) ?_
  refine lv_ishr hx hb d_Tape_put_63 ?_
  refine lv_topi (fun v63 ev63 => ?_)
  obtain rfl : v63 = 2 := ev63.trans (by decide)
  refine va_iald hx hb hK hP 1 0 rfl rfl (i := 2) (by unfold vp_in; decide) d_Tape_put_64 ?_
  refine lv_topi (fun v64 ev64 => ?_)
  refine lv_sipush (v := 255) hx hb d_Tape_put_65 (by decide) ?_
  refine lv_iload_n hx hb d_Tape_put_68 rfl (lv_at hl 0 rfl) ?_
  refine lv_ishl hx hb d_Tape_put_69 ?_
  refine lv_topi (fun v69 ev69 => ?_)
  obtain rfl : v69 = (-16777216) := ev69.trans (by decide)
  refine lv_iconst (v := -1) hx hb d_Tape_put_70 (by decide) ?_
  refine lv_ixor hx hb d_Tape_put_71 ?_
  refine lv_topi (fun v71 ev71 => ?_)
  obtain rfl : v71 = 16777215 := ev71.trans (by decide)
  refine lv_iand hx hb d_Tape_put_72 ?_
  refine lv_topi (fun v72 ev72 => ?_)
  refine lv_istore (lv' := [(4, .int v72), (3, .int 24), (2, .int 24), (0, .ref h0), (1, .int n)]) hx hb d_Tape_put_73 hl (by decide) rfl (fun ls hl => ?_)
  refine lv_aload_n hx hb d_Tape_put_75 rfl (lv_at hl 3 rfl) ?_
  refine va_get (D := D) (ci := 9) (v := .ref t0) (C := "MatrixScripts$Tape") (T := T_Tape) (N := 5) hx hb hT in_Tape hown hK hP 0 rfl rfl 0 (by decide) (hT _ tw_213) (fun _ h9 => h9) rfl d_Tape_put_76 ?_
  refine lv_aload_n hx hb d_Tape_put_79 rfl (lv_at hl 3 rfl) ?_
  refine va_get (D := D) (ci := 9) (v := .int 8) (C := "MatrixScripts$Tape") (T := T_Tape) (N := 5) hx hb hT in_Tape hown hK hP 0 rfl rfl 1 (by decide) (hT _ tw_215) (fun _ h9 => h9) rfl d_Tape_put_80 ?_
  refine lv_iconst (v := 2) hx hb d_Tape_put_83 (by decide) ?_
  refine lv_ishr hx hb d_Tape_put_84 ?_
  refine lv_topi (fun v84 ev84 => ?_)
  obtain rfl : v84 = 2 := ev84.trans (by decide)
  refine lv_iload hx hb d_Tape_put_85 (lv_at hl 0 rfl) ?_
  refine lv_iload_n hx hb d_Tape_put_87 rfl (lv_at hl 4 rfl) ?_
  refine lv_iload_n hx hb d_Tape_put_88 rfl (lv_at hl 2 rfl) ?_
  refine lv_iushr hx hb d_Tape_put_89 rfl ?_
  refine lv_topi (fun v89 ev89 => ?_)
  refine lv_sipush (v := 255) hx hb d_Tape_put_90 (by decide) ?_
  refine lv_iand hx hb d_Tape_put_93 ?_
  refine lv_topi (fun v93 ev93 => ?_)
  refine lv_iload_n hx hb d_Tape_put_94 rfl (lv_at hl 1 rfl) ?_
  refine lv_ishl hx hb d_Tape_put_95 ?_
  refine lv_topi (fun v95 ev95 => ?_)
  refine lv_ior hx hb d_Tape_put_96 ?_
  refine lv_topi (fun v96 ev96 => ?_)
  refine va_iast hx hb hK hP hD hS 1 0 rfl rfl (i := 2) (x := v96) (by unfold vp_in; decide) d_Tape_put_97 (fun H locs hP hD hS => ?_)
  have hP : va_P D vC ([(h0, .inr (9, [.ref t0, .int 8, .int t2, .int t3, .int t4])), (t0, .inl (g 0, 64, .inl (upd af 2 v96)))] ++ ([] : va_W)) H := hP
  have hD : va_D A ([(h0, .inr (9, [.ref t0, .int 8, .int t2, .int t3, .int t4])), (t0, .inl (g 0, 64, .inl (upd af 2 v96)))] ++ ([] : va_W)) := hD
  generalize upd af 2 v96 = f97 at hP hD
  refine lv_aload_n hx hb d_Tape_put_98 rfl (lv_at hl 3 rfl) ?_
  refine lv_dup hx hb d_Tape_put_99 rfl ?_
  refine va_get (D := D) (ci := 9) (v := .int 8) (C := "MatrixScripts$Tape") (T := T_Tape) (N := 5) hx hb hT in_Tape hown hK hP 0 rfl rfl 1 (by decide) (hT _ tw_215) (fun _ h9 => h9) rfl d_Tape_put_100 ?_
  refine lv_iconst (v := 1) hx hb d_Tape_put_103 (by decide) ?_
  refine lv_iadd hx hb d_Tape_put_104 ?_
  refine lv_topi (fun v104 ev104 => ?_)
  obtain rfl : v104 = 9 := ev104.trans (by decide)
  refine va_put (D := D) (ci := 9) (v := .int 9) (ty := .int) (C := "MatrixScripts$Tape") (T := T_Tape) (N := 5) hx hb hT in_Tape ty_Tape ty_Tape_ok nm_Tape hown hK hP hD hS 0 rfl rfl 1 (by decide) (hT _ tw_215) (fun _ h9 => h9) rfl (by decide +kernel) rfl rfl (Nat.le_of_ble_eq_true rfl) d_Tape_put_105 (fun H locs hP hD hS => ?_)
  have hP : va_P D vC ([(h0, .inr (9, [.ref t0, .int 9, .int t2, .int t3, .int t4])), (t0, .inl (g 0, 64, .inl f97))] ++ ([] : va_W)) H := hP
  have hD : va_D A ([(h0, .inr (9, [.ref t0, .int 9, .int t2, .int t3, .int t4])), (t0, .inl (g 0, 64, .inl f97))] ++ ([] : va_W)) := hD
  refine lv_iinc (v := 16) (lv' := [(2, .int 16), (4, .int v72), (3, .int 24), (0, .ref h0), (1, .int n)]) hx hb d_Tape_put_108 hl (k := 2) rfl (by decide) (by decide) rfl (fun ls hl => ?_)
  refine lv_goto (tgt := 37) hx hb d_Tape_put_111 (by decide) ?_
  refine lv_iload_n hx hb d_Tape_put_37 rfl (lv_at hl 0 rfl) ?_
  refine lv_if_lt (tgt := 114) hx hb d_Tape_put_38 (by decide) (fun c38 => absurd c38 (by decide)) (fun c38 => ?_)
  refine lv_bipush (v := 24) hx hb d_Tape_put_41 (by decide) ?_
  refine lv_bipush (v := 8) hx hb d_Tape_put_43 (by decide) ?_
  refine lv_aload_n hx hb d_Tape_put_45 rfl (lv_at hl 3 rfl) ?_
  refine va_get (D := D) (ci := 9) (v := .int 9) (C := "MatrixScripts$Tape") (T := T_Tape) (N := 5) hx hb hT in_Tape hown hK hP 0 rfl rfl 1 (by decide) (hT _ tw_215) (fun _ h9 => h9) rfl d_Tape_put_46 ?_
  refine lv_iconst (v := 3) hx hb d_Tape_put_49 (by decide) ?_
  refine lv_iand hx hb d_Tape_put_50 ?_
  refine lv_topi (fun v50_1 ev50_1 => ?_)
  obtain rfl : v50_1 = 1 := ev50_1.trans (by decide)
  refine lv_imul hx hb d_Tape_put_51 ?_
  refine lv_topi (fun v51_1 ev51_1 => ?_)
  obtain rfl : v51_1 = 8 := ev51_1.trans (by decide)
  refine lv_isub hx hb d_Tape_put_52 ?_
  refine lv_topi (fun v52_1 ev52_1 => ?_)
  obtain rfl : v52_1 = 16 := ev52_1.trans (by decide)
  refine lv_istore_n (lv' := [(3, .int 16), (2, .int 16), (4, .int v72), (0, .ref h0), (1, .int n)]) hx hb d_Tape_put_53 rfl hl (by decide) rfl (fun ls hl => ?_)
  refine lv_aload_n hx hb d_Tape_put_54 rfl (lv_at hl 3 rfl) ?_
  refine va_get (D := D) (ci := 9) (v := .ref t0) (C := "MatrixScripts$Tape") (T := T_Tape) (N := 5) hx hb hT in_Tape hown hK hP 0 rfl rfl 0 (by decide) (hT _ tw_213) (fun _ h9 => h9) rfl d_Tape_put_55 ?_
  refine lv_aload_n hx hb d_Tape_put_58 rfl (lv_at hl 3 rfl) ?_
  refine va_get (D := D) (ci := 9) (v := .int 9) (C := "MatrixScripts$Tape") (T := T_Tape) (N := 5) hx hb hT in_Tape hown hK hP 0 rfl rfl 1 (by decide) (hT _ tw_215) (fun _ h9 => h9) rfl d_Tape_put_59 ?_
  refine lv_iconst (v := 2) hx hb d_Tape_put_62 (by decide) ?_
  refine lv_ishr hx hb d_Tape_put_63 ?_
  refine lv_topi (fun v63_1 ev63_1 => ?_)
  obtain rfl : v63_1 = 2 := ev63_1.trans (by decide)
  refine va_iald hx hb hK hP 1 0 rfl rfl (i := 2) (by unfold vp_in; decide) d_Tape_put_64 ?_
  refine lv_topi (fun v64_1 ev64_1 => ?_)
  refine lv_sipush (v := 255) hx hb d_Tape_put_65 (by decide) ?_
  refine lv_iload_n hx hb d_Tape_put_68 rfl (lv_at hl 0 rfl) ?_
  refine lv_ishl hx hb d_Tape_put_69 ?_
  refine lv_topi (fun v69_1 ev69_1 => ?_)
  obtain rfl : v69_1 = 16711680 := ev69_1.trans (by decide)
  refine lv_iconst (v := -1) hx hb d_Tape_put_70 (by decide) ?_
  refine lv_ixor hx hb d_Tape_put_71 ?_
  refine lv_topi (fun v71_1 ev71_1 => ?_)
  obtain rfl : v71_1 = (-16711681) := ev71_1.trans (by decide)
  refine lv_iand hx hb d_Tape_put_72 ?_
  refine lv_topi (fun v72_1 ev72_1 => ?_)
  refine lv_istore (lv' := [(4, .int v72_1), (3, .int 16), (2, .int 16), (0, .ref h0), (1, .int n)]) hx hb d_Tape_put_73 hl (by decide) rfl (fun ls hl => ?_)
  refine lv_aload_n hx hb d_Tape_put_75 rfl (lv_at hl 3 rfl) ?_
  refine va_get (D := D) (ci := 9) (v := .ref t0) (C := "MatrixScripts$Tape") (T := T_Tape) (N := 5) hx hb hT in_Tape hown hK hP 0 rfl rfl 0 (by decide) (hT _ tw_213) (fun _ h9 => h9) rfl d_Tape_put_76 ?_
  refine lv_aload_n hx hb d_Tape_put_79 rfl (lv_at hl 3 rfl) ?_
  refine va_get (D := D) (ci := 9) (v := .int 9) (C := "MatrixScripts$Tape") (T := T_Tape) (N := 5) hx hb hT in_Tape hown hK hP 0 rfl rfl 1 (by decide) (hT _ tw_215) (fun _ h9 => h9) rfl d_Tape_put_80 ?_
  refine lv_iconst (v := 2) hx hb d_Tape_put_83 (by decide) ?_
  refine lv_ishr hx hb d_Tape_put_84 ?_
  refine lv_topi (fun v84_1 ev84_1 => ?_)
  obtain rfl : v84_1 = 2 := ev84_1.trans (by decide)
  refine lv_iload hx hb d_Tape_put_85 (lv_at hl 0 rfl) ?_
  refine lv_iload_n hx hb d_Tape_put_87 rfl (lv_at hl 4 rfl) ?_
  refine lv_iload_n hx hb d_Tape_put_88 rfl (lv_at hl 2 rfl) ?_
  refine lv_iushr hx hb d_Tape_put_89 rfl ?_
  refine lv_topi (fun v89_1 ev89_1 => ?_)
  refine lv_sipush (v := 255) hx hb d_Tape_put_90 (by decide) ?_
  refine lv_iand hx hb d_Tape_put_93 ?_
  refine lv_topi (fun v93_1 ev93_1 => ?_)
  refine lv_iload_n hx hb d_Tape_put_94 rfl (lv_at hl 1 rfl) ?_
  refine lv_ishl hx hb d_Tape_put_95 ?_
  refine lv_topi (fun v95_1 ev95_1 => ?_)
  refine lv_ior hx hb d_Tape_put_96 ?_
  refine lv_topi (fun v96_1 ev96_1 => ?_)
  refine va_iast hx hb hK hP hD hS 1 0 rfl rfl (i := 2) (x := v96_1) (by unfold vp_in; decide) d_Tape_put_97 (fun H locs hP hD hS => ?_)
  have hP : va_P D vC ([(h0, .inr (9, [.ref t0, .int 9, .int t2, .int t3, .int t4])), (t0, .inl (g 0, 64, .inl (upd f97 2 v96_1)))] ++ ([] : va_W)) H := hP
  have hD : va_D A ([(h0, .inr (9, [.ref t0, .int 9, .int t2, .int t3, .int t4])), (t0, .inl (g 0, 64, .inl (upd f97 2 v96_1)))] ++ ([] : va_W)) := hD
  generalize upd f97 2 v96_1 = f97_1 at hP hD
  refine lv_aload_n hx hb d_Tape_put_98 rfl (lv_at hl 3 rfl) ?_
  refine lv_dup hx hb d_Tape_put_99 rfl ?_
  refine va_get (D := D) (ci := 9) (v := .int 9) (C := "MatrixScripts$Tape") (T := T_Tape) (N := 5) hx hb hT in_Tape hown hK hP 0 rfl rfl 1 (by decide) (hT _ tw_215) (fun _ h9 => h9) rfl d_Tape_put_100 ?_
  refine lv_iconst (v := 1) hx hb d_Tape_put_103 (by decide) ?_
  refine lv_iadd hx hb d_Tape_put_104 ?_
  refine lv_topi (fun v104_1 ev104_1 => ?_)
  obtain rfl : v104_1 = 10 := ev104_1.trans (by decide)
  refine va_put (D := D) (ci := 9) (v := .int 10) (ty := .int) (C := "MatrixScripts$Tape") (T := T_Tape) (N := 5) hx hb hT in_Tape ty_Tape ty_Tape_ok nm_Tape hown hK hP hD hS 0 rfl rfl 1 (by decide) (hT _ tw_215) (fun _ h9 => h9) rfl (by decide +kernel) rfl rfl (Nat.le_of_ble_eq_true rfl) d_Tape_put_105 (fun H locs hP hD hS => ?_)
  have hP : va_P D vC ([(h0, .inr (9, [.ref t0, .int 10, .int t2, .int t3, .int t4])), (t0, .inl (g 0, 64, .inl f97_1))] ++ ([] : va_W)) H := hP
  have hD : va_D A ([(h0, .inr (9, [.ref t0, .int 10, .int t2, .int t3, .int t4])), (t0, .inl (g 0, 64, .inl f97_1))] ++ ([] : va_W)) := hD
  refine lv_iinc (v := 8) (lv' := [(2, .int 8), (4, .int v72_1), (3, .int 16), (0, .ref h0), (1, .int n)]) hx hb d_Tape_put_108 hl (k := 2) rfl (by decide) (by decide) rfl (fun ls hl => ?_)
  refine lv_goto (tgt := 37) hx hb d_Tape_put_111 (by decide) ?_
  refine lv_iload_n hx hb d_Tape_put_37 rfl (lv_at hl 0 rfl) ?_
  refine lv_if_lt (tgt := 114) hx hb d_Tape_put_38 (by decide) (fun c38 => absurd c38 (by decide)) (fun c38 => ?_)
  refine lv_bipush (v := 24) hx hb d_Tape_put_41 (by decide) ?_
  refine lv_bipush (v := 8) hx hb d_Tape_put_43 (by decide) ?_
  refine lv_aload_n hx hb d_Tape_put_45 rfl (lv_at hl 3 rfl) ?_
  refine va_get (D := D) (ci := 9) (v := .int 10) (C := "MatrixScripts$Tape") (T := T_Tape) (N := 5) hx hb hT in_Tape hown hK hP 0 rfl rfl 1 (by decide) (hT _ tw_215) (fun _ h9 => h9) rfl d_Tape_put_46 ?_
  refine lv_iconst (v := 3) hx hb d_Tape_put_49 (by decide) ?_
  refine lv_iand hx hb d_Tape_put_50 ?_
  refine lv_topi (fun v50_2 ev50_2 => ?_)
  obtain rfl : v50_2 = 2 := ev50_2.trans (by decide)
  refine lv_imul hx hb d_Tape_put_51 ?_
  refine lv_topi (fun v51_2 ev51_2 => ?_)
  obtain rfl : v51_2 = 16 := ev51_2.trans (by decide)
  refine lv_isub hx hb d_Tape_put_52 ?_
  refine lv_topi (fun v52_2 ev52_2 => ?_)
  obtain rfl : v52_2 = 8 := ev52_2.trans (by decide)
  refine lv_istore_n (lv' := [(3, .int 8), (2, .int 8), (4, .int v72_1), (0, .ref h0), (1, .int n)]) hx hb d_Tape_put_53 rfl hl (by decide) rfl (fun ls hl => ?_)
  refine lv_aload_n hx hb d_Tape_put_54 rfl (lv_at hl 3 rfl) ?_
  refine va_get (D := D) (ci := 9) (v := .ref t0) (C := "MatrixScripts$Tape") (T := T_Tape) (N := 5) hx hb hT in_Tape hown hK hP 0 rfl rfl 0 (by decide) (hT _ tw_213) (fun _ h9 => h9) rfl d_Tape_put_55 ?_
  refine lv_aload_n hx hb d_Tape_put_58 rfl (lv_at hl 3 rfl) ?_
  refine va_get (D := D) (ci := 9) (v := .int 10) (C := "MatrixScripts$Tape") (T := T_Tape) (N := 5) hx hb hT in_Tape hown hK hP 0 rfl rfl 1 (by decide) (hT _ tw_215) (fun _ h9 => h9) rfl d_Tape_put_59 ?_
  refine lv_iconst (v := 2) hx hb d_Tape_put_62 (by decide) ?_
  refine lv_ishr hx hb d_Tape_put_63 ?_
  refine lv_topi (fun v63_2 ev63_2 => ?_)
  obtain rfl : v63_2 = 2 := ev63_2.trans (by decide)
  refine va_iald hx hb hK hP 1 0 rfl rfl (i := 2) (by unfold vp_in; decide) d_Tape_put_64 ?_
  refine lv_topi (fun v64_2 ev64_2 => ?_)
  refine lv_sipush (v := 255) hx hb d_Tape_put_65 (by decide) ?_
  refine lv_iload_n hx hb d_Tape_put_68 rfl (lv_at hl 0 rfl) ?_
  refine lv_ishl hx hb d_Tape_put_69 ?_
  refine lv_topi (fun v69_2 ev69_2 => ?_)
  obtain rfl : v69_2 = 65280 := ev69_2.trans (by decide)
  refine lv_iconst (v := -1) hx hb d_Tape_put_70 (by decide) ?_
  refine lv_ixor hx hb d_Tape_put_71 ?_
  refine lv_topi (fun v71_2 ev71_2 => ?_)
  obtain rfl : v71_2 = (-65281) := ev71_2.trans (by decide)
  refine lv_iand hx hb d_Tape_put_72 ?_
  refine lv_topi (fun v72_2 ev72_2 => ?_)
  refine lv_istore (lv' := [(4, .int v72_2), (3, .int 8), (2, .int 8), (0, .ref h0), (1, .int n)]) hx hb d_Tape_put_73 hl (by decide) rfl (fun ls hl => ?_)
  refine lv_aload_n hx hb d_Tape_put_75 rfl (lv_at hl 3 rfl) ?_
  refine va_get (D := D) (ci := 9) (v := .ref t0) (C := "MatrixScripts$Tape") (T := T_Tape) (N := 5) hx hb hT in_Tape hown hK hP 0 rfl rfl 0 (by decide) (hT _ tw_213) (fun _ h9 => h9) rfl d_Tape_put_76 ?_
  refine lv_aload_n hx hb d_Tape_put_79 rfl (lv_at hl 3 rfl) ?_
  refine va_get (D := D) (ci := 9) (v := .int 10) (C := "MatrixScripts$Tape") (T := T_Tape) (N := 5) hx hb hT in_Tape hown hK hP 0 rfl rfl 1 (by decide) (hT _ tw_215) (fun _ h9 => h9) rfl d_Tape_put_80 ?_
  refine lv_iconst (v := 2) hx hb d_Tape_put_83 (by decide) ?_
  refine lv_ishr hx hb d_Tape_put_84 ?_
  refine lv_topi (fun v84_2 ev84_2 => ?_)
  obtain rfl : v84_2 = 2 := ev84_2.trans (by decide)
  refine lv_iload hx hb d_Tape_put_85 (lv_at hl 0 rfl) ?_
  refine lv_iload_n hx hb d_Tape_put_87 rfl (lv_at hl 4 rfl) ?_
  refine lv_iload_n hx hb d_Tape_put_88 rfl (lv_at hl 2 rfl) ?_
  refine lv_iushr hx hb d_Tape_put_89 rfl ?_
  refine lv_topi (fun v89_2 ev89_2 => ?_)
  refine lv_sipush (v := 255) hx hb d_Tape_put_90 (by decide) ?_
  refine lv_iand hx hb d_Tape_put_93 ?_
  refine lv_topi (fun v93_2 ev93_2 => ?_)
  refine lv_iload_n hx hb d_Tape_put_94 rfl (lv_at hl 1 rfl) ?_
  refine lv_ishl hx hb d_Tape_put_95 ?_
  refine lv_topi (fun v95_2 ev95_2 => ?_)
  refine lv_ior hx hb d_Tape_put_96 ?_
  refine lv_topi (fun v96_2 ev96_2 => ?_)
  refine va_iast hx hb hK hP hD hS 1 0 rfl rfl (i := 2) (x := v96_2) (by unfold vp_in; decide) d_Tape_put_97 (fun H locs hP hD hS => ?_)
  have hP : va_P D vC ([(h0, .inr (9, [.ref t0, .int 10, .int t2, .int t3, .int t4])), (t0, .inl (g 0, 64, .inl (upd f97_1 2 v96_2)))] ++ ([] : va_W)) H := hP
  have hD : va_D A ([(h0, .inr (9, [.ref t0, .int 10, .int t2, .int t3, .int t4])), (t0, .inl (g 0, 64, .inl (upd f97_1 2 v96_2)))] ++ ([] : va_W)) := hD
  generalize upd f97_1 2 v96_2 = f97_2 at hP hD
  refine lv_aload_n hx hb d_Tape_put_98 rfl (lv_at hl 3 rfl) ?_
  refine lv_dup hx hb d_Tape_put_99 rfl ?_
  refine va_get (D := D) (ci := 9) (v := .int 10) (C := "MatrixScripts$Tape") (T := T_Tape) (N := 5) hx hb hT in_Tape hown hK hP 0 rfl rfl 1 (by decide) (hT _ tw_215) (fun _ h9 => h9) rfl d_Tape_put_100 ?_
  refine lv_iconst (v := 1) hx hb d_Tape_put_103 (by decide) ?_
  refine lv_iadd hx hb d_Tape_put_104 ?_
  refine lv_topi (fun v104_2 ev104_2 => ?_)
  obtain rfl : v104_2 = 11 := ev104_2.trans (by decide)
  refine va_put (D := D) (ci := 9) (v := .int 11) (ty := .int) (C := "MatrixScripts$Tape") (T := T_Tape) (N := 5) hx hb hT in_Tape ty_Tape ty_Tape_ok nm_Tape hown hK hP hD hS 0 rfl rfl 1 (by decide) (hT _ tw_215) (fun _ h9 => h9) rfl (by decide +kernel) rfl rfl (Nat.le_of_ble_eq_true rfl) d_Tape_put_105 (fun H locs hP hD hS => ?_)
  have hP : va_P D vC ([(h0, .inr (9, [.ref t0, .int 11, .int t2, .int t3, .int t4])), (t0, .inl (g 0, 64, .inl f97_2))] ++ ([] : va_W)) H := hP
  have hD : va_D A ([(h0, .inr (9, [.ref t0, .int 11, .int t2, .int t3, .int t4])), (t0, .inl (g 0, 64, .inl f97_2))] ++ ([] : va_W)) := hD
  refine lv_iinc (v := 0) (lv' := [(2, .int 0), (4, .int v72_2), (3, .int 8), (0, .ref h0), (1, .int n)]) hx hb d_Tape_put_108 hl (k := 2) rfl (by decide) (by decide) rfl (fun ls hl => ?_)
  refine lv_goto (tgt := 37) hx hb d_Tape_put_111 (by decide) ?_
  refine lv_iload_n hx hb d_Tape_put_37 rfl (lv_at hl 0 rfl) ?_
  refine lv_if_lt (tgt := 114) hx hb d_Tape_put_38 (by decide) (fun c38 => absurd c38 (by decide)) (fun c38 => ?_)
  refine lv_bipush (v := 24) hx hb d_Tape_put_41 (by decide) ?_
  refine lv_bipush (v := 8) hx hb d_Tape_put_43 (by decide) ?_
  refine lv_aload_n hx hb d_Tape_put_45 rfl (lv_at hl 3 rfl) ?_
  refine va_get (D := D) (ci := 9) (v := .int 11) (C := "MatrixScripts$Tape") (T := T_Tape) (N := 5) hx hb hT in_Tape hown hK hP 0 rfl rfl 1 (by decide) (hT _ tw_215) (fun _ h9 => h9) rfl d_Tape_put_46 ?_
  refine lv_iconst (v := 3) hx hb d_Tape_put_49 (by decide) ?_
  refine lv_iand hx hb d_Tape_put_50 ?_
  refine lv_topi (fun v50_3 ev50_3 => ?_)
  obtain rfl : v50_3 = 3 := ev50_3.trans (by decide)
  refine lv_imul hx hb d_Tape_put_51 ?_
  refine lv_topi (fun v51_3 ev51_3 => ?_)
  obtain rfl : v51_3 = 24 := ev51_3.trans (by decide)
  refine lv_isub hx hb d_Tape_put_52 ?_
  refine lv_topi (fun v52_3 ev52_3 => ?_)
  obtain rfl : v52_3 = 0 := ev52_3.trans (by decide)
  refine lv_istore_n (lv' := [(3, .int 0), (2, .int 0), (4, .int v72_2), (0, .ref h0), (1, .int n)]) hx hb d_Tape_put_53 rfl hl (by decide) rfl (fun ls hl => ?_)
  refine lv_aload_n hx hb d_Tape_put_54 rfl (lv_at hl 3 rfl) ?_
  refine va_get (D := D) (ci := 9) (v := .ref t0) (C := "MatrixScripts$Tape") (T := T_Tape) (N := 5) hx hb hT in_Tape hown hK hP 0 rfl rfl 0 (by decide) (hT _ tw_213) (fun _ h9 => h9) rfl d_Tape_put_55 ?_
  refine lv_aload_n hx hb d_Tape_put_58 rfl (lv_at hl 3 rfl) ?_
  refine va_get (D := D) (ci := 9) (v := .int 11) (C := "MatrixScripts$Tape") (T := T_Tape) (N := 5) hx hb hT in_Tape hown hK hP 0 rfl rfl 1 (by decide) (hT _ tw_215) (fun _ h9 => h9) rfl d_Tape_put_59 ?_
  refine lv_iconst (v := 2) hx hb d_Tape_put_62 (by decide) ?_
  refine lv_ishr hx hb d_Tape_put_63 ?_
  refine lv_topi (fun v63_3 ev63_3 => ?_)
  obtain rfl : v63_3 = 2 := ev63_3.trans (by decide)
  refine va_iald hx hb hK hP 1 0 rfl rfl (i := 2) (by unfold vp_in; decide) d_Tape_put_64 ?_
  refine lv_topi (fun v64_3 ev64_3 => ?_)
  refine lv_sipush (v := 255) hx hb d_Tape_put_65 (by decide) ?_
  refine lv_iload_n hx hb d_Tape_put_68 rfl (lv_at hl 0 rfl) ?_
  refine lv_ishl hx hb d_Tape_put_69 ?_
  refine lv_topi (fun v69_3 ev69_3 => ?_)
  obtain rfl : v69_3 = 255 := ev69_3.trans (by decide)
  refine lv_iconst (v := -1) hx hb d_Tape_put_70 (by decide) ?_
  refine lv_ixor hx hb d_Tape_put_71 ?_
  refine lv_topi (fun v71_3 ev71_3 => ?_)
  obtain rfl : v71_3 = (-256) := ev71_3.trans (by decide)
  refine lv_iand hx hb d_Tape_put_72 ?_
  refine lv_topi (fun v72_3 ev72_3 => ?_)
  refine lv_istore (lv' := [(4, .int v72_3), (3, .int 0), (2, .int 0), (0, .ref h0), (1, .int n)]) hx hb d_Tape_put_73 hl (by decide) rfl (fun ls hl => ?_)
  refine lv_aload_n hx hb d_Tape_put_75 rfl (lv_at hl 3 rfl) ?_
  refine va_get (D := D) (ci := 9) (v := .ref t0) (C := "MatrixScripts$Tape") (T := T_Tape) (N := 5) hx hb hT in_Tape hown hK hP 0 rfl rfl 0 (by decide) (hT _ tw_213) (fun _ h9 => h9) rfl d_Tape_put_76 ?_
  refine lv_aload_n hx hb d_Tape_put_79 rfl (lv_at hl 3 rfl) ?_
  refine va_get (D := D) (ci := 9) (v := .int 11) (C := "MatrixScripts$Tape") (T := T_Tape) (N := 5) hx hb hT in_Tape hown hK hP 0 rfl rfl 1 (by decide) (hT _ tw_215) (fun _ h9 => h9) rfl d_Tape_put_80 ?_
  refine lv_iconst (v := 2) hx hb d_Tape_put_83 (by decide) ?_
  refine lv_ishr hx hb d_Tape_put_84 ?_
  refine lv_topi (fun v84_3 ev84_3 => ?_)
  obtain rfl : v84_3 = 2 := ev84_3.trans (by decide)
  refine lv_iload hx hb d_Tape_put_85 (lv_at hl 0 rfl) ?_
  refine lv_iload_n hx hb d_Tape_put_87 rfl (lv_at hl 4 rfl) ?_
  refine lv_iload_n hx hb d_Tape_put_88 rfl (lv_at hl 2 rfl) ?_
  refine lv_iushr hx hb d_Tape_put_89 rfl ?_
  refine lv_topi (fun v89_3 ev89_3 => ?_)
  refine lv_sipush (v := 255) hx hb d_Tape_put_90 (by decide) ?_
  refine lv_iand hx hb d_Tape_put_93 ?_
  refine lv_topi (fun v93_3 ev93_3 => ?_)
  refine lv_iload_n hx hb d_Tape_put_94 rfl (lv_at hl 1 rfl) ?_
  refine lv_ishl hx hb d_Tape_put_95 ?_
  refine lv_topi (fun v95_3 ev95_3 => ?_)
  refine lv_ior hx hb d_Tape_put_96 ?_
  refine lv_topi (fun v96_3 ev96_3 => ?_)
  refine va_iast hx hb hK hP hD hS 1 0 rfl rfl (i := 2) (x := v96_3) (by unfold vp_in; decide) d_Tape_put_97 (fun H locs hP hD hS => ?_)
  have hP : va_P D vC ([(h0, .inr (9, [.ref t0, .int 11, .int t2, .int t3, .int t4])), (t0, .inl (g 0, 64, .inl (upd f97_2 2 v96_3)))] ++ ([] : va_W)) H := hP
  have hD : va_D A ([(h0, .inr (9, [.ref t0, .int 11, .int t2, .int t3, .int t4])), (t0, .inl (g 0, 64, .inl (upd f97_2 2 v96_3)))] ++ ([] : va_W)) := hD
  generalize upd f97_2 2 v96_3 = f97_3 at hP hD
  refine lv_aload_n hx hb d_Tape_put_98 rfl (lv_at hl 3 rfl) ?_
  refine lv_dup hx hb d_Tape_put_99 rfl ?_
  refine va_get (D := D) (ci := 9) (v := .int 11) (C := "MatrixScripts$Tape") (T := T_Tape) (N := 5) hx hb hT in_Tape hown hK hP 0 rfl rfl 1 (by decide) (hT _ tw_215) (fun _ h9 => h9) rfl d_Tape_put_100 ?_
  refine lv_iconst (v := 1) hx hb d_Tape_put_103 (by decide) ?_
  refine lv_iadd hx hb d_Tape_put_104 ?_
  refine lv_topi (fun v104_3 ev104_3 => ?_)
  obtain rfl : v104_3 = 12 := ev104_3.trans (by decide)
  refine va_put (D := D) (ci := 9) (v := .int 12) (ty := .int) (C := "MatrixScripts$Tape") (T := T_Tape) (N := 5) hx hb hT in_Tape ty_Tape ty_Tape_ok nm_Tape hown hK hP hD hS 0 rfl rfl 1 (by decide) (hT _ tw_215) (fun _ h9 => h9) rfl (by decide +kernel) rfl rfl (Nat.le_of_ble_eq_true rfl) d_Tape_put_105 (fun H locs hP hD hS => ?_)
  have hP : va_P D vC ([(h0, .inr (9, [.ref t0, .int 12, .int t2, .int t3, .int t4])), (t0, .inl (g 0, 64, .inl f97_3))] ++ ([] : va_W)) H := hP
  have hD : va_D A ([(h0, .inr (9, [.ref t0, .int 12, .int t2, .int t3, .int t4])), (t0, .inl (g 0, 64, .inl f97_3))] ++ ([] : va_W)) := hD
  refine lv_iinc (v := (-8)) (lv' := [(2, .int (-8)), (4, .int v72_3), (3, .int 0), (0, .ref h0), (1, .int n)]) hx hb d_Tape_put_108 hl (k := 2) rfl (by decide) (by decide) rfl (fun ls hl => ?_)
  refine lv_goto (tgt := 37) hx hb d_Tape_put_111 (by decide) ?_
  refine lv_iload_n hx hb d_Tape_put_37 rfl (lv_at hl 0 rfl) ?_
  refine lv_if_lt (tgt := 114) hx hb d_Tape_put_38 (by decide) (fun c38 => ?_) (fun c38 => absurd (by decide) c38)
  have hP9 := pm_subP (a' := [(h0, .inr (9, [.ref t0, .int 12, .int t2, .int t3, .int t4])), (t0, .inl (g 0, 64, .inl f97_3))]) hP [0, 1] rfl
  have hD9 := pm_subD (a' := [(h0, .inr (9, [.ref t0, .int 12, .int t2, .int t3, .int t4])), (t0, .inl (g 0, 64, .inl f97_3))]) hD [0, 1] (by decide) rfl
  refine W.widen (k := 0) (n := 0) (Nat.le_of_ble_eq_true rfl) (Nat.le_of_ble_eq_true rfl) ?_
  exact W.vret hx hb hr (fun t ht1 hW => ⟨⟨f97_3, rfl, trivial, by rw [ht1]; exact hP9, hD9⟩, hS.F ht1⟩) hS.2.2 d_Tape_put_114
set_option maxHeartbeats 4000000 in
set_option maxRecDepth 100000 in
theorem c_Tape_put_12 (l : Launch) (D : va_G) (g : Nat → ClassId) (h0 : Nat) (t0 : Nat) (t2 : Int32) (t3 : Int32) (t4 : Int32) (af : Nat → Int32) (n : Int32) (sz : Nat) : Met l ⟨"MatrixScripts$Tape", "put", "(I)V"⟩ w_Tape_put { frames := 0, cells := 0, slots := 0, locals := 0 } (cp D g [.ref h0, .int n] [(h0, .inr (9, [.ref t0, .int 12, .int t2, .int t3, .int t4])), (t0, .inl (g 0, 64, .inl af))] sz) (cw D (va_A [(h0, .inr (9, [.ref t0, .int 12, .int t2, .int t3, .int t4])), (t0, .inl (g 0, 64, .inl af))] sz) (fun _ => True) (fun u : Nat → Int32 => [(h0, .inr (9, [.ref t0, .int 16, .int t2, .int t3, .int t4])), (t0, .inl (g 0, 64, .inl u))])) 0 0 (va_A [(h0, .inr (9, [.ref t0, .int 12, .int t2, .int t3, .int t4])), (t0, .inl (g 0, 64, .inl af))] sz) := by
  refine Met.ofW (cc := prog_13_method_2_code) (maxL := 5) (ret := none) (by decide) rfl ?_
  intro p e s m args below meth c s₁ B0 hml hv
  obtain ⟨rfl, hsz, hP, hK, hD0, hN⟩ := hv
  have hx := B0.exec
  have hb := B0.bytes
  have hr := B0.returns
  have hts := atoms_spec (ws := w_Tape_put) B0.pre
  have hT := fun (w : Cond) (h : w ∈ wd_all) => hts w (List.mem_cons_of_mem _ h)
  have hown : s.vm.findClass "MatrixScripts$Tape" = some m.cls := findClass_of_methodNamed B0.named
  have hlocks := B0.notSynchronized
  subst hsz
  have hD := hD0.self (sz := s.heap.size)
  generalize hAe : va_A [(h0, .inr (9, [.ref t0, .int 12, .int t2, .int t3, .int t4])), (t0, .inl (g 0, 64, .inl af))] s.heap.size = A at hD ⊢
  have hA : ∀ q : Nat, s.heap.size ≤ q → A q := fun q h => by rw [← hAe]; exact Or.inr h
  have hS : va_S A s.heap s.heap [] := va_S.rf
  have hP : va_P D vC ([(h0, .inr (9, [.ref t0, .int 12, .int t2, .int t3, .int t4])), (t0, .inl (g 0, 64, .inl af))] ++ ([] : va_W)) s.heap := hP
  have hD : va_D A ([(h0, .inr (9, [.ref t0, .int 12, .int t2, .int t3, .int t4])), (t0, .inl (g 0, 64, .inl af))] ++ ([] : va_W)) := hD
  have hl := lv_entry ([.ref h0, .int n]) (n := 5) (Nat.le_of_ble_eq_true rfl)
  rw [lg_entry_eq]
  generalize (lg_sl ([.ref h0, .int n]) ++ List.replicate (5 - (lg_sl ([.ref h0, .int n])).length) Slot.unset).toArray = ls at hl ⊢
  have hl : lv_has ls 5 [(0, .ref h0), (1, .int n)] := hl
  refine lv_aload_n hx hb d_Tape_put_0 rfl (lv_at hl 0 rfl) ?_
  refine va_get (D := D) (ci := 9) (v := .ref t0) (C := "MatrixScripts$Tape") (T := T_Tape) (N := 5) hx hb hT in_Tape hown hK hP 0 rfl rfl 0 (by decide) (hT _ tw_213) (fun _ h9 => h9) rfl d_Tape_put_1 ?_
  refine va_alen hx hb hK hP 1 0 rfl rfl (v := 64) (show Int32.ofNat 64 = 64 by decide) d_Tape_put_4 ?_
  refine lv_aload_n hx hb d_Tape_put_5 rfl (lv_at hl 0 rfl) ?_
  refine va_get (D := D) (ci := 9) (v := .int 12) (C := "MatrixScripts$Tape") (T := T_Tape) (N := 5) hx hb hT in_Tape hown hK hP 0 rfl rfl 1 (by decide) (hT _ tw_215) (fun _ h9 => h9) rfl d_Tape_put_6 ?_
  refine lv_iconst (v := 3) hx hb d_Tape_put_9 (by decide) ?_
  refine lv_iadd hx hb d_Tape_put_10 ?_
  refine lv_topi (fun v10 ev10 => ?_)
  obtain rfl : v10 = 15 := ev10.trans (by decide)
  refine lv_iconst (v := 2) hx hb d_Tape_put_11 (by decide) ?_
  refine lv_ishr hx hb d_Tape_put_12 ?_
  refine lv_topi (fun v12 ev12 => ?_)
  obtain rfl : v12 = 3 := ev12.trans (by decide)
  refine lv_icmp_gt (tgt := 34) hx hb d_Tape_put_13 (by decide) (fun c13 => ?_) (fun c13 => absurd (by decide) c13)
  refine lv_bipush (v := 24) hx hb d_Tape_put_34 (by decide) ?_
  refine lv_istore_n (lv' := [(2, .int 24), (0, .ref h0), (1, .int n)]) hx hb d_Tape_put_36 rfl hl (by decide) rfl (fun ls hl => ?_)
  refine lv_iload_n hx hb d_Tape_put_37 rfl (lv_at hl 0 rfl) ?_
  refine lv_if_lt (tgt := 114) hx hb d_Tape_put_38 (by decide) (fun c38 => absurd c38 (by decide)) (fun c38 => ?_)
  refine lv_bipush (v := 24) hx hb d_Tape_put_41 (by decide) ?_
  refine lv_bipush (v := 8) hx hb d_Tape_put_43 (by decide) ?_
  refine lv_aload_n hx hb d_Tape_put_45 rfl (lv_at hl 1 rfl) ?_
  refine va_get (D := D) (ci := 9) (v := .int 12) (C := "MatrixScripts$Tape") (T := T_Tape) (N := 5) hx hb hT in_Tape hown hK hP 0 rfl rfl 1 (by decide) (hT _ tw_215) (fun _ h9 => h9) rfl d_Tape_put_46 ?_
  refine lv_iconst (v := 3) hx hb d_Tape_put_49 (by decide) ?_
  refine lv_iand hx hb d_Tape_put_50 ?_
  refine lv_topi (fun v50 ev50 => ?_)
  obtain rfl : v50 = 0 := ev50.trans (by decide)
  refine lv_imul hx hb d_Tape_put_51 ?_
  refine lv_topi (fun v51 ev51 => ?_)
  obtain rfl : v51 = 0 := ev51.trans (by decide)
  refine lv_isub hx hb d_Tape_put_52 ?_
  refine lv_topi (fun v52 ev52 => ?_)
  obtain rfl : v52 = 24 := ev52.trans (by decide)
  refine lv_istore_n (lv' := [(3, .int 24), (2, .int 24), (0, .ref h0), (1, .int n)]) hx hb d_Tape_put_53 rfl hl (by decide) rfl (fun ls hl => ?_)
  refine lv_aload_n hx hb d_Tape_put_54 rfl (lv_at hl 2 rfl) ?_
  refine va_get (D := D) (ci := 9) (v := .ref t0) (C := "MatrixScripts$Tape") (T := T_Tape) (N := 5) hx hb hT in_Tape hown hK hP 0 rfl rfl 0 (by decide) (hT _ tw_213) (fun _ h9 => h9) rfl d_Tape_put_55 ?_
  refine lv_aload_n hx hb d_Tape_put_58 rfl (lv_at hl 2 rfl) ?_
  refine va_get (D := D) (ci := 9) (v := .int 12) (C := "MatrixScripts$Tape") (T := T_Tape) (N := 5) hx hb hT in_Tape hown hK hP 0 rfl rfl 1 (by decide) (hT _ tw_215) (fun _ h9 => h9) rfl d_Tape_put_59 ?_
  refine lv_iconst (v := 2) hx hb d_Tape_put_62 (by decide) ?_
  refine lv_ishr hx hb d_Tape_put_63 ?_
  refine lv_topi (fun v63 ev63 => ?_)
  obtain rfl : v63 = 3 := ev63.trans (by decide)
  refine va_iald hx hb hK hP 1 0 rfl rfl (i := 3) (by unfold vp_in; decide) d_Tape_put_64 ?_
  refine lv_topi (fun v64 ev64 => ?_)
  refine lv_sipush (v := 255) hx hb d_Tape_put_65 (by decide) ?_
  refine lv_iload_n hx hb d_Tape_put_68 rfl (lv_at hl 0 rfl) ?_
  refine lv_ishl hx hb d_Tape_put_69 ?_
  refine lv_topi (fun v69 ev69 => ?_)
  obtain rfl : v69 = (-16777216) := ev69.trans (by decide)
  refine lv_iconst (v := -1) hx hb d_Tape_put_70 (by decide) ?_
  refine lv_ixor hx hb d_Tape_put_71 ?_
  refine lv_topi (fun v71 ev71 => ?_)
  obtain rfl : v71 = 16777215 := ev71.trans (by decide)
  refine lv_iand hx hb d_Tape_put_72 ?_
  refine lv_topi (fun v72 ev72 => ?_)
  refine lv_istore (lv' := [(4, .int v72), (3, .int 24), (2, .int 24), (0, .ref h0), (1, .int n)]) hx hb d_Tape_put_73 hl (by decide) rfl (fun ls hl => ?_)
  refine lv_aload_n hx hb d_Tape_put_75 rfl (lv_at hl 3 rfl) ?_
  refine va_get (D := D) (ci := 9) (v := .ref t0) (C := "MatrixScripts$Tape") (T := T_Tape) (N := 5) hx hb hT in_Tape hown hK hP 0 rfl rfl 0 (by decide) (hT _ tw_213) (fun _ h9 => h9) rfl d_Tape_put_76 ?_
  refine lv_aload_n hx hb d_Tape_put_79 rfl (lv_at hl 3 rfl) ?_
  refine va_get (D := D) (ci := 9) (v := .int 12) (C := "MatrixScripts$Tape") (T := T_Tape) (N := 5) hx hb hT in_Tape hown hK hP 0 rfl rfl 1 (by decide) (hT _ tw_215) (fun _ h9 => h9) rfl d_Tape_put_80 ?_
  refine lv_iconst (v := 2) hx hb d_Tape_put_83 (by decide) ?_
  refine lv_ishr hx hb d_Tape_put_84 ?_
  refine lv_topi (fun v84 ev84 => ?_)
  obtain rfl : v84 = 3 := ev84.trans (by decide)
  refine lv_iload hx hb d_Tape_put_85 (lv_at hl 0 rfl) ?_
  refine lv_iload_n hx hb d_Tape_put_87 rfl (lv_at hl 4 rfl) ?_
  refine lv_iload_n hx hb d_Tape_put_88 rfl (lv_at hl 2 rfl) ?_
  refine lv_iushr hx hb d_Tape_put_89 rfl ?_
  refine lv_topi (fun v89 ev89 => ?_)
  refine lv_sipush (v := 255) hx hb d_Tape_put_90 (by decide) ?_
  refine lv_iand hx hb d_Tape_put_93 ?_
  refine lv_topi (fun v93 ev93 => ?_)
  refine lv_iload_n hx hb d_Tape_put_94 rfl (lv_at hl 1 rfl) ?_
  refine lv_ishl hx hb d_Tape_put_95 ?_
  refine lv_topi (fun v95 ev95 => ?_)
  refine lv_ior hx hb d_Tape_put_96 ?_
  refine lv_topi (fun v96 ev96 => ?_)
  refine va_iast hx hb hK hP hD hS 1 0 rfl rfl (i := 3) (x := v96) (by unfold vp_in; decide) d_Tape_put_97 (fun H locs hP hD hS => ?_)
  have hP : va_P D vC ([(h0, .inr (9, [.ref t0, .int 12, .int t2, .int t3, .int t4])), (t0, .inl (g 0, 64, .inl (upd af 3 v96)))] ++ ([] : va_W)) H := hP
  have hD : va_D A ([(h0, .inr (9, [.ref t0, .int 12, .int t2, .int t3, .int t4])), (t0, .inl (g 0, 64, .inl (upd af 3 v96)))] ++ ([] : va_W)) := hD
  generalize upd af 3 v96 = f97 at hP hD
  refine lv_aload_n hx hb d_Tape_put_98 rfl (lv_at hl 3 rfl) ?_
  refine lv_dup hx hb d_Tape_put_99 rfl ?_
  refine va_get (D := D) (ci := 9) (v := .int 12) (C := "MatrixScripts$Tape") (T := T_Tape) (N := 5) hx hb hT in_Tape hown hK hP 0 rfl rfl 1 (by decide) (hT _ tw_215) (fun _ h9 => h9) rfl d_Tape_put_100 ?_
  refine lv_iconst (v := 1) hx hb d_Tape_put_103 (by decide) ?_
  refine lv_iadd hx hb d_Tape_put_104 ?_
  refine lv_topi (fun v104 ev104 => ?_)
  obtain rfl : v104 = 13 := ev104.trans (by decide)
  refine va_put (D := D) (ci := 9) (v := .int 13) (ty := .int) (C := "MatrixScripts$Tape") (T := T_Tape) (N := 5) hx hb hT in_Tape ty_Tape ty_Tape_ok nm_Tape hown hK hP hD hS 0 rfl rfl 1 (by decide) (hT _ tw_215) (fun _ h9 => h9) rfl (by decide +kernel) rfl rfl (Nat.le_of_ble_eq_true rfl) d_Tape_put_105 (fun H locs hP hD hS => ?_)
  have hP : va_P D vC ([(h0, .inr (9, [.ref t0, .int 13, .int t2, .int t3, .int t4])), (t0, .inl (g 0, 64, .inl f97))] ++ ([] : va_W)) H := hP
  have hD : va_D A ([(h0, .inr (9, [.ref t0, .int 13, .int t2, .int t3, .int t4])), (t0, .inl (g 0, 64, .inl f97))] ++ ([] : va_W)) := hD
  refine lv_iinc (v := 16) (lv' := [(2, .int 16), (4, .int v72), (3, .int 24), (0, .ref h0), (1, .int n)]) hx hb d_Tape_put_108 hl (k := 2) rfl (by decide) (by decide) rfl (fun ls hl => ?_)
  refine lv_goto (tgt := 37) hx hb d_Tape_put_111 (by decide) ?_
  refine lv_iload_n hx hb d_Tape_put_37 rfl (lv_at hl 0 rfl) ?_
  refine lv_if_lt (tgt := 114) hx hb d_Tape_put_38 (by decide) (fun c38 => absurd c38 (by decide)) (fun c38 => ?_)
  refine lv_bipush (v := 24) hx hb d_Tape_put_41 (by decide) ?_
  refine lv_bipush (v := 8) hx hb d_Tape_put_43 (by decide) ?_
  refine lv_aload_n hx hb d_Tape_put_45 rfl (lv_at hl 3 rfl) ?_
  refine va_get (D := D) (ci := 9) (v := .int 13) (C := "MatrixScripts$Tape") (T := T_Tape) (N := 5) hx hb hT in_Tape hown hK hP 0 rfl rfl 1 (by decide) (hT _ tw_215) (fun _ h9 => h9) rfl d_Tape_put_46 ?_
  refine lv_iconst (v := 3) hx hb d_Tape_put_49 (by decide) ?_
  refine lv_iand hx hb d_Tape_put_50 ?_
  refine lv_topi (fun v50_1 ev50_1 => ?_)
  obtain rfl : v50_1 = 1 := ev50_1.trans (by decide)
  refine lv_imul hx hb d_Tape_put_51 ?_
  refine lv_topi (fun v51_1 ev51_1 => ?_)
  obtain rfl : v51_1 = 8 := ev51_1.trans (by decide)
  refine lv_isub hx hb d_Tape_put_52 ?_
  refine lv_topi (fun v52_1 ev52_1 => ?_)
  obtain rfl : v52_1 = 16 := ev52_1.trans (by decide)
  refine lv_istore_n (lv' := [(3, .int 16), (2, .int 16), (4, .int v72), (0, .ref h0), (1, .int n)]) hx hb d_Tape_put_53 rfl hl (by decide) rfl (fun ls hl => ?_)
  refine lv_aload_n hx hb d_Tape_put_54 rfl (lv_at hl 3 rfl) ?_
  refine va_get (D := D) (ci := 9) (v := .ref t0) (C := "MatrixScripts$Tape") (T := T_Tape) (N := 5) hx hb hT in_Tape hown hK hP 0 rfl rfl 0 (by decide) (hT _ tw_213) (fun _ h9 => h9) rfl d_Tape_put_55 ?_
  refine lv_aload_n hx hb d_Tape_put_58 rfl (lv_at hl 3 rfl) ?_
  refine va_get (D := D) (ci := 9) (v := .int 13) (C := "MatrixScripts$Tape") (T := T_Tape) (N := 5) hx hb hT in_Tape hown hK hP 0 rfl rfl 1 (by decide) (hT _ tw_215) (fun _ h9 => h9) rfl d_Tape_put_59 ?_
  refine lv_iconst (v := 2) hx hb d_Tape_put_62 (by decide) ?_
  refine lv_ishr hx hb d_Tape_put_63 ?_
  refine lv_topi (fun v63_1 ev63_1 => ?_)
  obtain rfl : v63_1 = 3 := ev63_1.trans (by decide)
  refine va_iald hx hb hK hP 1 0 rfl rfl (i := 3) (by unfold vp_in; decide) d_Tape_put_64 ?_
  refine lv_topi (fun v64_1 ev64_1 => ?_)
  refine lv_sipush (v := 255) hx hb d_Tape_put_65 (by decide) ?_
  refine lv_iload_n hx hb d_Tape_put_68 rfl (lv_at hl 0 rfl) ?_
  refine lv_ishl hx hb d_Tape_put_69 ?_
  refine lv_topi (fun v69_1 ev69_1 => ?_)
  obtain rfl : v69_1 = 16711680 := ev69_1.trans (by decide)
  refine lv_iconst (v := -1) hx hb d_Tape_put_70 (by decide) ?_
  refine lv_ixor hx hb d_Tape_put_71 ?_
  refine lv_topi (fun v71_1 ev71_1 => ?_)
  obtain rfl : v71_1 = (-16711681) := ev71_1.trans (by decide)
  refine lv_iand hx hb d_Tape_put_72 ?_
  refine lv_topi (fun v72_1 ev72_1 => ?_)
  refine lv_istore (lv' := [(4, .int v72_1), (3, .int 16), (2, .int 16), (0, .ref h0), (1, .int n)]) hx hb d_Tape_put_73 hl (by decide) rfl (fun ls hl => ?_)
  refine lv_aload_n hx hb d_Tape_put_75 rfl (lv_at hl 3 rfl) ?_
  refine va_get (D := D) (ci := 9) (v := .ref t0) (C := "MatrixScripts$Tape") (T := T_Tape) (N := 5) hx hb hT in_Tape hown hK hP 0 rfl rfl 0 (by decide) (hT _ tw_213) (fun _ h9 => h9) rfl d_Tape_put_76 ?_
  refine lv_aload_n hx hb d_Tape_put_79 rfl (lv_at hl 3 rfl) ?_
  refine va_get (D := D) (ci := 9) (v := .int 13) (C := "MatrixScripts$Tape") (T := T_Tape) (N := 5) hx hb hT in_Tape hown hK hP 0 rfl rfl 1 (by decide) (hT _ tw_215) (fun _ h9 => h9) rfl d_Tape_put_80 ?_
  refine lv_iconst (v := 2) hx hb d_Tape_put_83 (by decide) ?_
  refine lv_ishr hx hb d_Tape_put_84 ?_
  refine lv_topi (fun v84_1 ev84_1 => ?_)
  obtain rfl : v84_1 = 3 := ev84_1.trans (by decide)
  refine lv_iload hx hb d_Tape_put_85 (lv_at hl 0 rfl) ?_
  refine lv_iload_n hx hb d_Tape_put_87 rfl (lv_at hl 4 rfl) ?_
  refine lv_iload_n hx hb d_Tape_put_88 rfl (lv_at hl 2 rfl) ?_
  refine lv_iushr hx hb d_Tape_put_89 rfl ?_
  refine lv_topi (fun v89_1 ev89_1 => ?_)
  refine lv_sipush (v := 255) hx hb d_Tape_put_90 (by decide) ?_
  refine lv_iand hx hb d_Tape_put_93 ?_
  refine lv_topi (fun v93_1 ev93_1 => ?_)
  refine lv_iload_n hx hb d_Tape_put_94 rfl (lv_at hl 1 rfl) ?_
  refine lv_ishl hx hb d_Tape_put_95 ?_
  refine lv_topi (fun v95_1 ev95_1 => ?_)
  refine lv_ior hx hb d_Tape_put_96 ?_
  refine lv_topi (fun v96_1 ev96_1 => ?_)
  refine va_iast hx hb hK hP hD hS 1 0 rfl rfl (i := 3) (x := v96_1) (by unfold vp_in; decide) d_Tape_put_97 (fun H locs hP hD hS => ?_)
  have hP : va_P D vC ([(h0, .inr (9, [.ref t0, .int 13, .int t2, .int t3, .int t4])), (t0, .inl (g 0, 64, .inl (upd f97 3 v96_1)))] ++ ([] : va_W)) H := hP
  have hD : va_D A ([(h0, .inr (9, [.ref t0, .int 13, .int t2, .int t3, .int t4])), (t0, .inl (g 0, 64, .inl (upd f97 3 v96_1)))] ++ ([] : va_W)) := hD
  generalize upd f97 3 v96_1 = f97_1 at hP hD
  refine lv_aload_n hx hb d_Tape_put_98 rfl (lv_at hl 3 rfl) ?_
  refine lv_dup hx hb d_Tape_put_99 rfl ?_
  refine va_get (D := D) (ci := 9) (v := .int 13) (C := "MatrixScripts$Tape") (T := T_Tape) (N := 5) hx hb hT in_Tape hown hK hP 0 rfl rfl 1 (by decide) (hT _ tw_215) (fun _ h9 => h9) rfl d_Tape_put_100 ?_
  refine lv_iconst (v := 1) hx hb d_Tape_put_103 (by decide) ?_
  refine lv_iadd hx hb d_Tape_put_104 ?_
  refine lv_topi (fun v104_1 ev104_1 => ?_)
  obtain rfl : v104_1 = 14 := ev104_1.trans (by decide)
  refine va_put (D := D) (ci := 9) (v := .int 14) (ty := .int) (C := "MatrixScripts$Tape") (T := T_Tape) (N := 5) hx hb hT in_Tape ty_Tape ty_Tape_ok nm_Tape hown hK hP hD hS 0 rfl rfl 1 (by decide) (hT _ tw_215) (fun _ h9 => h9) rfl (by decide +kernel) rfl rfl (Nat.le_of_ble_eq_true rfl) d_Tape_put_105 (fun H locs hP hD hS => ?_)
  have hP : va_P D vC ([(h0, .inr (9, [.ref t0, .int 14, .int t2, .int t3, .int t4])), (t0, .inl (g 0, 64, .inl f97_1))] ++ ([] : va_W)) H := hP
  have hD : va_D A ([(h0, .inr (9, [.ref t0, .int 14, .int t2, .int t3, .int t4])), (t0, .inl (g 0, 64, .inl f97_1))] ++ ([] : va_W)) := hD
  refine lv_iinc (v := 8) (lv' := [(2, .int 8), (4, .int v72_1), (3, .int 16), (0, .ref h0), (1, .int n)]) hx hb d_Tape_put_108 hl (k := 2) rfl (by decide) (by decide) rfl (fun ls hl => ?_)
  refine lv_goto (tgt := 37) hx hb d_Tape_put_111 (by decide) ?_
  refine lv_iload_n hx hb d_Tape_put_37 rfl (lv_at hl 0 rfl) ?_
  refine lv_if_lt (tgt := 114) hx hb d_Tape_put_38 (by decide) (fun c38 => absurd c38 (by decide)) (fun c38 => ?_)
  refine lv_bipush (v := 24) hx hb d_Tape_put_41 (by decide) ?_
  refine lv_bipush (v := 8) hx hb d_Tape_put_43 (by decide) ?_
  refine lv_aload_n hx hb d_Tape_put_45 rfl (lv_at hl 3 rfl) ?_
  refine va_get (D := D) (ci := 9) (v := .int 14) (C := "MatrixScripts$Tape") (T := T_Tape) (N := 5) hx hb hT in_Tape hown hK hP 0 rfl rfl 1 (by decide) (hT _ tw_215) (fun _ h9 => h9) rfl d_Tape_put_46 ?_
  refine lv_iconst (v := 3) hx hb d_Tape_put_49 (by decide) ?_
  refine lv_iand hx hb d_Tape_put_50 ?_
  refine lv_topi (fun v50_2 ev50_2 => ?_)
  obtain rfl : v50_2 = 2 := ev50_2.trans (by decide)
  refine lv_imul hx hb d_Tape_put_51 ?_
  refine lv_topi (fun v51_2 ev51_2 => ?_)
  obtain rfl : v51_2 = 16 := ev51_2.trans (by decide)
  refine lv_isub hx hb d_Tape_put_52 ?_
  refine lv_topi (fun v52_2 ev52_2 => ?_)
  obtain rfl : v52_2 = 8 := ev52_2.trans (by decide)
  refine lv_istore_n (lv' := [(3, .int 8), (2, .int 8), (4, .int v72_1), (0, .ref h0), (1, .int n)]) hx hb d_Tape_put_53 rfl hl (by decide) rfl (fun ls hl => ?_)
  refine lv_aload_n hx hb d_Tape_put_54 rfl (lv_at hl 3 rfl) ?_
  refine va_get (D := D) (ci := 9) (v := .ref t0) (C := "MatrixScripts$Tape") (T := T_Tape) (N := 5) hx hb hT in_Tape hown hK hP 0 rfl rfl 0 (by decide) (hT _ tw_213) (fun _ h9 => h9) rfl d_Tape_put_55 ?_
  refine lv_aload_n hx hb d_Tape_put_58 rfl (lv_at hl 3 rfl) ?_
  refine va_get (D := D) (ci := 9) (v := .int 14) (C := "MatrixScripts$Tape") (T := T_Tape) (N := 5) hx hb hT in_Tape hown hK hP 0 rfl rfl 1 (by decide) (hT _ tw_215) (fun _ h9 => h9) rfl d_Tape_put_59 ?_
  refine lv_iconst (v := 2) hx hb d_Tape_put_62 (by decide) ?_
  refine lv_ishr hx hb d_Tape_put_63 ?_
  refine lv_topi (fun v63_2 ev63_2 => ?_)
  obtain rfl : v63_2 = 3 := ev63_2.trans (by decide)
  refine va_iald hx hb hK hP 1 0 rfl rfl (i := 3) (by unfold vp_in; decide) d_Tape_put_64 ?_
  refine lv_topi (fun v64_2 ev64_2 => ?_)
  refine lv_sipush (v := 255) hx hb d_Tape_put_65 (by decide) ?_
  refine lv_iload_n hx hb d_Tape_put_68 rfl (lv_at hl 0 rfl) ?_
  refine lv_ishl hx hb d_Tape_put_69 ?_
  refine lv_topi (fun v69_2 ev69_2 => ?_)
  obtain rfl : v69_2 = 65280 := ev69_2.trans (by decide)
  refine lv_iconst (v := -1) hx hb d_Tape_put_70 (by decide) ?_
  refine lv_ixor hx hb d_Tape_put_71 ?_
  refine lv_topi (fun v71_2 ev71_2 => ?_)
  obtain rfl : v71_2 = (-65281) := ev71_2.trans (by decide)
  refine lv_iand hx hb d_Tape_put_72 ?_
  refine lv_topi (fun v72_2 ev72_2 => ?_)
  refine lv_istore (lv' := [(4, .int v72_2), (3, .int 8), (2, .int 8), (0, .ref h0), (1, .int n)]) hx hb d_Tape_put_73 hl (by decide) rfl (fun ls hl => ?_)
  refine lv_aload_n hx hb d_Tape_put_75 rfl (lv_at hl 3 rfl) ?_
  refine va_get (D := D) (ci := 9) (v := .ref t0) (C := "MatrixScripts$Tape") (T := T_Tape) (N := 5) hx hb hT in_Tape hown hK hP 0 rfl rfl 0 (by decide) (hT _ tw_213) (fun _ h9 => h9) rfl d_Tape_put_76 ?_
  refine lv_aload_n hx hb d_Tape_put_79 rfl (lv_at hl 3 rfl) ?_
  refine va_get (D := D) (ci := 9) (v := .int 14) (C := "MatrixScripts$Tape") (T := T_Tape) (N := 5) hx hb hT in_Tape hown hK hP 0 rfl rfl 1 (by decide) (hT _ tw_215) (fun _ h9 => h9) rfl d_Tape_put_80 ?_
  refine lv_iconst (v := 2) hx hb d_Tape_put_83 (by decide) ?_
  refine lv_ishr hx hb d_Tape_put_84 ?_
  refine lv_topi (fun v84_2 ev84_2 => ?_)
  obtain rfl : v84_2 = 3 := ev84_2.trans (by decide)
  refine lv_iload hx hb d_Tape_put_85 (lv_at hl 0 rfl) ?_
  refine lv_iload_n hx hb d_Tape_put_87 rfl (lv_at hl 4 rfl) ?_
  refine lv_iload_n hx hb d_Tape_put_88 rfl (lv_at hl 2 rfl) ?_
  refine lv_iushr hx hb d_Tape_put_89 rfl ?_
  refine lv_topi (fun v89_2 ev89_2 => ?_)
  refine lv_sipush (v := 255) hx hb d_Tape_put_90 (by decide) ?_
  refine lv_iand hx hb d_Tape_put_93 ?_
  refine lv_topi (fun v93_2 ev93_2 => ?_)
  refine lv_iload_n hx hb d_Tape_put_94 rfl (lv_at hl 1 rfl) ?_
  refine lv_ishl hx hb d_Tape_put_95 ?_
  refine lv_topi (fun v95_2 ev95_2 => ?_)
  refine lv_ior hx hb d_Tape_put_96 ?_
  refine lv_topi (fun v96_2 ev96_2 => ?_)
  refine va_iast hx hb hK hP hD hS 1 0 rfl rfl (i := 3) (x := v96_2) (by unfold vp_in; decide) d_Tape_put_97 (fun H locs hP hD hS => ?_)
  have hP : va_P D vC ([(h0, .inr (9, [.ref t0, .int 14, .int t2, .int t3, .int t4])), (t0, .inl (g 0, 64, .inl (upd f97_1 3 v96_2)))] ++ ([] : va_W)) H := hP
  have hD : va_D A ([(h0, .inr (9, [.ref t0, .int 14, .int t2, .int t3, .int t4])), (t0, .inl (g 0, 64, .inl (upd f97_1 3 v96_2)))] ++ ([] : va_W)) := hD
  generalize upd f97_1 3 v96_2 = f97_2 at hP hD
  refine lv_aload_n hx hb d_Tape_put_98 rfl (lv_at hl 3 rfl) ?_
  refine lv_dup hx hb d_Tape_put_99 rfl ?_
  refine va_get (D := D) (ci := 9) (v := .int 14) (C := "MatrixScripts$Tape") (T := T_Tape) (N := 5) hx hb hT in_Tape hown hK hP 0 rfl rfl 1 (by decide) (hT _ tw_215) (fun _ h9 => h9) rfl d_Tape_put_100 ?_
  refine lv_iconst (v := 1) hx hb d_Tape_put_103 (by decide) ?_
  refine lv_iadd hx hb d_Tape_put_104 ?_
  refine lv_topi (fun v104_2 ev104_2 => ?_)
  obtain rfl : v104_2 = 15 := ev104_2.trans (by decide)
  refine va_put (D := D) (ci := 9) (v := .int 15) (ty := .int) (C := "MatrixScripts$Tape") (T := T_Tape) (N := 5) hx hb hT in_Tape ty_Tape ty_Tape_ok nm_Tape hown hK hP hD hS 0 rfl rfl 1 (by decide) (hT _ tw_215) (fun _ h9 => h9) rfl (by decide +kernel) rfl rfl (Nat.le_of_ble_eq_true rfl) d_Tape_put_105 (fun H locs hP hD hS => ?_)
  have hP : va_P D vC ([(h0, .inr (9, [.ref t0, .int 15, .int t2, .int t3, .int t4])), (t0, .inl (g 0, 64, .inl f97_2))] ++ ([] : va_W)) H := hP
  have hD : va_D A ([(h0, .inr (9, [.ref t0, .int 15, .int t2, .int t3, .int t4])), (t0, .inl (g 0, 64, .inl f97_2))] ++ ([] : va_W)) := hD
  refine lv_iinc (v := 0) (lv' := [(2, .int 0), (4, .int v72_2), (3, .int 8), (0, .ref h0), (1, .int n)]) hx hb d_Tape_put_108 hl (k := 2) rfl (by decide) (by decide) rfl (fun ls hl => ?_)
  refine lv_goto (tgt := 37) hx hb d_Tape_put_111 (by decide) ?_
  refine lv_iload_n hx hb d_Tape_put_37 rfl (lv_at hl 0 rfl) ?_
  refine lv_if_lt (tgt := 114) hx hb d_Tape_put_38 (by decide) (fun c38 => absurd c38 (by decide)) (fun c38 => ?_)
  refine lv_bipush (v := 24) hx hb d_Tape_put_41 (by decide) ?_
  refine lv_bipush (v := 8) hx hb d_Tape_put_43 (by decide) ?_
  refine lv_aload_n hx hb d_Tape_put_45 rfl (lv_at hl 3 rfl) ?_
  refine va_get (D := D) (ci := 9) (v := .int 15) (C := "MatrixScripts$Tape") (T := T_Tape) (N := 5) hx hb hT in_Tape hown hK hP 0 rfl rfl 1 (by decide) (hT _ tw_215) (fun _ h9 => h9) rfl d_Tape_put_46 ?_
  refine lv_iconst (v := 3) hx hb d_Tape_put_49 (by decide) ?_
  refine lv_iand hx hb d_Tape_put_50 ?_
  refine lv_topi (fun v50_3 ev50_3 => ?_)
  obtain rfl : v50_3 = 3 := ev50_3.trans (by decide)
  refine lv_imul hx hb d_Tape_put_51 ?_
  refine lv_topi (fun v51_3 ev51_3 => ?_)
  obtain rfl : v51_3 = 24 := ev51_3.trans (by decide)
  refine lv_isub hx hb d_Tape_put_52 ?_
  refine lv_topi (fun v52_3 ev52_3 => ?_)
  obtain rfl : v52_3 = 0 := ev52_3.trans (by decide)
  refine lv_istore_n (lv' := [(3, .int 0), (2, .int 0), (4, .int v72_2), (0, .ref h0), (1, .int n)]) hx hb d_Tape_put_53 rfl hl (by decide) rfl (fun ls hl => ?_)
  refine lv_aload_n hx hb d_Tape_put_54 rfl (lv_at hl 3 rfl) ?_
  refine va_get (D := D) (ci := 9) (v := .ref t0) (C := "MatrixScripts$Tape") (T := T_Tape) (N := 5) hx hb hT in_Tape hown hK hP 0 rfl rfl 0 (by decide) (hT _ tw_213) (fun _ h9 => h9) rfl d_Tape_put_55 ?_
  refine lv_aload_n hx hb d_Tape_put_58 rfl (lv_at hl 3 rfl) ?_
  refine va_get (D := D) (ci := 9) (v := .int 15) (C := "MatrixScripts$Tape") (T := T_Tape) (N := 5) hx hb hT in_Tape hown hK hP 0 rfl rfl 1 (by decide) (hT _ tw_215) (fun _ h9 => h9) rfl d_Tape_put_59 ?_
  refine lv_iconst (v := 2) hx hb d_Tape_put_62 (by decide) ?_
  refine lv_ishr hx hb d_Tape_put_63 ?_
  refine lv_topi (fun v63_3 ev63_3 => ?_)
  obtain rfl : v63_3 = 3 := ev63_3.trans (by decide)
  refine va_iald hx hb hK hP 1 0 rfl rfl (i := 3) (by unfold vp_in; decide) d_Tape_put_64 ?_
  refine lv_topi (fun v64_3 ev64_3 => ?_)
  refine lv_sipush (v := 255) hx hb d_Tape_put_65 (by decide) ?_
  refine lv_iload_n hx hb d_Tape_put_68 rfl (lv_at hl 0 rfl) ?_
  refine lv_ishl hx hb d_Tape_put_69 ?_
  refine lv_topi (fun v69_3 ev69_3 => ?_)
  obtain rfl : v69_3 = 255 := ev69_3.trans (by decide)
  refine lv_iconst (v := -1) hx hb d_Tape_put_70 (by decide) ?_
  refine lv_ixor hx hb d_Tape_put_71 ?_
  refine lv_topi (fun v71_3 ev71_3 => ?_)
  obtain rfl : v71_3 = (-256) := ev71_3.trans (by decide)
  refine lv_iand hx hb d_Tape_put_72 ?_
  refine lv_topi (fun v72_3 ev72_3 => ?_)
  refine lv_istore (lv' := [(4, .int v72_3), (3, .int 0), (2, .int 0), (0, .ref h0), (1, .int n)]) hx hb d_Tape_put_73 hl (by decide) rfl (fun ls hl => ?_)
  refine lv_aload_n hx hb d_Tape_put_75 rfl (lv_at hl 3 rfl) ?_
  refine va_get (D := D) (ci := 9) (v := .ref t0) (C := "MatrixScripts$Tape") (T := T_Tape) (N := 5) hx hb hT in_Tape hown hK hP 0 rfl rfl 0 (by decide) (hT _ tw_213) (fun _ h9 => h9) rfl d_Tape_put_76 ?_
  refine lv_aload_n hx hb d_Tape_put_79 rfl (lv_at hl 3 rfl) ?_
  refine va_get (D := D) (ci := 9) (v := .int 15) (C := "MatrixScripts$Tape") (T := T_Tape) (N := 5) hx hb hT in_Tape hown hK hP 0 rfl rfl 1 (by decide) (hT _ tw_215) (fun _ h9 => h9) rfl d_Tape_put_80 ?_
  refine lv_iconst (v := 2) hx hb d_Tape_put_83 (by decide) ?_
  refine lv_ishr hx hb d_Tape_put_84 ?_
  refine lv_topi (fun v84_3 ev84_3 => ?_)
  obtain rfl : v84_3 = 3 := ev84_3.trans (by decide)
  refine lv_iload hx hb d_Tape_put_85 (lv_at hl 0 rfl) ?_
  refine lv_iload_n hx hb d_Tape_put_87 rfl (lv_at hl 4 rfl) ?_
  refine lv_iload_n hx hb d_Tape_put_88 rfl (lv_at hl 2 rfl) ?_
  refine lv_iushr hx hb d_Tape_put_89 rfl ?_
  refine lv_topi (fun v89_3 ev89_3 => ?_)
  refine lv_sipush (v := 255) hx hb d_Tape_put_90 (by decide) ?_
  refine lv_iand hx hb d_Tape_put_93 ?_
  refine lv_topi (fun v93_3 ev93_3 => ?_)
  refine lv_iload_n hx hb d_Tape_put_94 rfl (lv_at hl 1 rfl) ?_
  refine lv_ishl hx hb d_Tape_put_95 ?_
  refine lv_topi (fun v95_3 ev95_3 => ?_)
  refine lv_ior hx hb d_Tape_put_96 ?_
  refine lv_topi (fun v96_3 ev96_3 => ?_)
  refine va_iast hx hb hK hP hD hS 1 0 rfl rfl (i := 3) (x := v96_3) (by unfold vp_in; decide) d_Tape_put_97 (fun H locs hP hD hS => ?_)
  have hP : va_P D vC ([(h0, .inr (9, [.ref t0, .int 15, .int t2, .int t3, .int t4])), (t0, .inl (g 0, 64, .inl (upd f97_2 3 v96_3)))] ++ ([] : va_W)) H := hP
  have hD : va_D A ([(h0, .inr (9, [.ref t0, .int 15, .int t2, .int t3, .int t4])), (t0, .inl (g 0, 64, .inl (upd f97_2 3 v96_3)))] ++ ([] : va_W)) := hD
  generalize upd f97_2 3 v96_3 = f97_3 at hP hD
  refine lv_aload_n hx hb d_Tape_put_98 rfl (lv_at hl 3 rfl) ?_
  refine lv_dup hx hb d_Tape_put_99 rfl ?_
  refine va_get (D := D) (ci := 9) (v := .int 15) (C := "MatrixScripts$Tape") (T := T_Tape) (N := 5) hx hb hT in_Tape hown hK hP 0 rfl rfl 1 (by decide) (hT _ tw_215) (fun _ h9 => h9) rfl d_Tape_put_100 ?_
  refine lv_iconst (v := 1) hx hb d_Tape_put_103 (by decide) ?_
  refine lv_iadd hx hb d_Tape_put_104 ?_
  refine lv_topi (fun v104_3 ev104_3 => ?_)
  obtain rfl : v104_3 = 16 := ev104_3.trans (by decide)
  refine va_put (D := D) (ci := 9) (v := .int 16) (ty := .int) (C := "MatrixScripts$Tape") (T := T_Tape) (N := 5) hx hb hT in_Tape ty_Tape ty_Tape_ok nm_Tape hown hK hP hD hS 0 rfl rfl 1 (by decide) (hT _ tw_215) (fun _ h9 => h9) rfl (by decide +kernel) rfl rfl (Nat.le_of_ble_eq_true rfl) d_Tape_put_105 (fun H locs hP hD hS => ?_)
  have hP : va_P D vC ([(h0, .inr (9, [.ref t0, .int 16, .int t2, .int t3, .int t4])), (t0, .inl (g 0, 64, .inl f97_3))] ++ ([] : va_W)) H := hP
  have hD : va_D A ([(h0, .inr (9, [.ref t0, .int 16, .int t2, .int t3, .int t4])), (t0, .inl (g 0, 64, .inl f97_3))] ++ ([] : va_W)) := hD
  refine lv_iinc (v := (-8)) (lv' := [(2, .int (-8)), (4, .int v72_3), (3, .int 0), (0, .ref h0), (1, .int n)]) hx hb d_Tape_put_108 hl (k := 2) rfl (by decide) (by decide) rfl (fun ls hl => ?_)
  refine lv_goto (tgt := 37) hx hb d_Tape_put_111 (by decide) ?_
  refine lv_iload_n hx hb d_Tape_put_37 rfl (lv_at hl 0 rfl) ?_
  refine lv_if_lt (tgt := 114) hx hb d_Tape_put_38 (by decide) (fun c38 => ?_) (fun c38 => absurd (by decide) c38)
  have hP9 := pm_subP (a' := [(h0, .inr (9, [.ref t0, .int 16, .int t2, .int t3, .int t4])), (t0, .inl (g 0, 64, .inl f97_3))]) hP [0, 1] rfl
  have hD9 := pm_subD (a' := [(h0, .inr (9, [.ref t0, .int 16, .int t2, .int t3, .int t4])), (t0, .inl (g 0, 64, .inl f97_3))]) hD [0, 1] (by decide) rfl
  refine W.widen (k := 0) (n := 0) (Nat.le_of_ble_eq_true rfl) (Nat.le_of_ble_eq_true rfl) ?_
  exact W.vret hx hb hr (fun t ht1 hW => ⟨⟨f97_3, rfl, trivial, by rw [ht1]; exact hP9, hD9⟩, hS.F ht1⟩) hS.2.2 d_Tape_put_114
set_option maxHeartbeats 4000000 in
set_option maxRecDepth 100000 in
theorem c_Tape_put_16 (l : Launch) (D : va_G) (g : Nat → ClassId) (h0 : Nat) (t0 : Nat) (t2 : Int32) (t3 : Int32) (t4 : Int32) (af : Nat → Int32) (n : Int32) (sz : Nat) : Met l ⟨"MatrixScripts$Tape", "put", "(I)V"⟩ w_Tape_put { frames := 0, cells := 0, slots := 0, locals := 0 } (cp D g [.ref h0, .int n] [(h0, .inr (9, [.ref t0, .int 16, .int t2, .int t3, .int t4])), (t0, .inl (g 0, 64, .inl af))] sz) (cw D (va_A [(h0, .inr (9, [.ref t0, .int 16, .int t2, .int t3, .int t4])), (t0, .inl (g 0, 64, .inl af))] sz) (fun _ => True) (fun u : Nat → Int32 => [(h0, .inr (9, [.ref t0, .int 20, .int t2, .int t3, .int t4])), (t0, .inl (g 0, 64, .inl u))])) 0 0 (va_A [(h0, .inr (9, [.ref t0, .int 16, .int t2, .int t3, .int t4])), (t0, .inl (g 0, 64, .inl af))] sz) := by
  refine Met.ofW (cc := prog_13_method_2_code) (maxL := 5) (ret := none) (by decide) rfl ?_
  intro p e s m args below meth c s₁ B0 hml hv
  obtain ⟨rfl, hsz, hP, hK, hD0, hN⟩ := hv
  have hx := B0.exec
  have hb := B0.bytes
  have hr := B0.returns
  have hts := atoms_spec (ws := w_Tape_put) B0.pre
  have hT := fun (w : Cond) (h : w ∈ wd_all) => hts w (List.mem_cons_of_mem _ h)
  have hown : s.vm.findClass "MatrixScripts$Tape" = some m.cls := findClass_of_methodNamed B0.named
  have hlocks := B0.notSynchronized
  subst hsz
  have hD := hD0.self (sz := s.heap.size)
  generalize hAe : va_A [(h0, .inr (9, [.ref t0, .int 16, .int t2, .int t3, .int t4])), (t0, .inl (g 0, 64, .inl af))] s.heap.size = A at hD ⊢
  have hA : ∀ q : Nat, s.heap.size ≤ q → A q := fun q h => by rw [← hAe]; exact Or.inr h
  have hS : va_S A s.heap s.heap [] := va_S.rf
  have hP : va_P D vC ([(h0, .inr (9, [.ref t0, .int 16, .int t2, .int t3, .int t4])), (t0, .inl (g 0, 64, .inl af))] ++ ([] : va_W)) s.heap := hP
  have hD : va_D A ([(h0, .inr (9, [.ref t0, .int 16, .int t2, .int t3, .int t4])), (t0, .inl (g 0, 64, .inl af))] ++ ([] : va_W)) := hD
  have hl := lv_entry ([.ref h0, .int n]) (n := 5) (Nat.le_of_ble_eq_true rfl)
  rw [lg_entry_eq]
  generalize (lg_sl ([.ref h0, .int n]) ++ List.replicate (5 - (lg_sl ([.ref h0, .int n])).length) Slot.unset).toArray = ls at hl ⊢
  have hl : lv_has ls 5 [(0, .ref h0), (1, .int n)] := hl
  refine lv_aload_n hx hb d_Tape_put_0 rfl (lv_at hl 0 rfl) ?_
  refine va_get (D := D) (ci := 9) (v := .ref t0) (C := "MatrixScripts$Tape") (T := T_Tape) (N := 5) hx hb hT in_Tape hown hK hP 0 rfl rfl 0 (by decide) (hT _ tw_213) (fun _ h9 => h9) rfl d_Tape_put_1 ?_
  refine va_alen hx hb hK hP 1 0 rfl rfl (v := 64) (show Int32.ofNat 64 = 64 by decide) d_Tape_put_4 ?_
  refine lv_aload_n hx hb d_Tape_put_5 rfl (lv_at hl 0 rfl) ?_
  refine va_get (D := D) (ci := 9) (v := .int 16) (C := "MatrixScripts$Tape") (T := T_Tape) (N := 5) hx hb hT in_Tape hown hK hP 0 rfl rfl 1 (by decide) (hT _ tw_215) (fun _ h9 => h9) rfl d_Tape_put_6 ?_
  refine lv_iconst (v := 3) hx hb d_Tape_put_9 (by decide) ?_
  refine lv_iadd hx hb d_Tape_put_10 ?_
  refine lv_topi (fun v10 ev10 => ?_)
  obtain rfl : v10 = 19 := ev10.trans (by decide)
  refine lv_iconst (v := 2) hx hb d_Tape_put_11 (by decide) ?_
  refine lv_ishr hx hb d_Tape_put_12 ?_
  refine lv_topi (fun v12 ev12 => ?_)
  obtain rfl : v12 = 4 := ev12.trans (by decide)
  refine lv_icmp_gt (tgt := 34) hx hb d_Tape_put_13 (by decide) (fun c13 => ?_) (fun c13 => absurd (by decide) c13)
  refine lv_bipush (v := 24) hx hb d_Tape_put_34 (by decide) ?_
  refine lv_istore_n (lv' := [(2, .int 24), (0, .ref h0), (1, .int n)]) hx hb d_Tape_put_36 rfl hl (by decide) rfl (fun ls hl => ?_)
  refine lv_iload_n hx hb d_Tape_put_37 rfl (lv_at hl 0 rfl) ?_
  refine lv_if_lt (tgt := 114) hx hb d_Tape_put_38 (by decide) (fun c38 => absurd c38 (by decide)) (fun c38 => ?_)
  refine lv_bipush (v := 24) hx hb d_Tape_put_41 (by decide) ?_
  refine lv_bipush (v := 8) hx hb d_Tape_put_43 (by decide) ?_
  refine lv_aload_n hx hb d_Tape_put_45 rfl (lv_at hl 1 rfl) ?_
  refine va_get (D := D) (ci := 9) (v := .int 16) (C := "MatrixScripts$Tape") (T := T_Tape) (N := 5) hx hb hT in_Tape hown hK hP 0 rfl rfl 1 (by decide) (hT _ tw_215) (fun _ h9 => h9) rfl d_Tape_put_46 ?_
  refine lv_iconst (v := 3) hx hb d_Tape_put_49 (by decide) ?_
  refine lv_iand hx hb d_Tape_put_50 ?_
  refine lv_topi (fun v50 ev50 => ?_)
  obtain rfl : v50 = 0 := ev50.trans (by decide)
  refine lv_imul hx hb d_Tape_put_51 ?_
  refine lv_topi (fun v51 ev51 => ?_)
  obtain rfl : v51 = 0 := ev51.trans (by decide)
  refine lv_isub hx hb d_Tape_put_52 ?_
  refine lv_topi (fun v52 ev52 => ?_)
  obtain rfl : v52 = 24 := ev52.trans (by decide)
  refine lv_istore_n (lv' := [(3, .int 24), (2, .int 24), (0, .ref h0), (1, .int n)]) hx hb d_Tape_put_53 rfl hl (by decide) rfl (fun ls hl => ?_)
  refine lv_aload_n hx hb d_Tape_put_54 rfl (lv_at hl 2 rfl) ?_
  refine va_get (D := D) (ci := 9) (v := .ref t0) (C := "MatrixScripts$Tape") (T := T_Tape) (N := 5) hx hb hT in_Tape hown hK hP 0 rfl rfl 0 (by decide) (hT _ tw_213) (fun _ h9 => h9) rfl d_Tape_put_55 ?_
  refine lv_aload_n hx hb d_Tape_put_58 rfl (lv_at hl 2 rfl) ?_
  refine va_get (D := D) (ci := 9) (v := .int 16) (C := "MatrixScripts$Tape") (T := T_Tape) (N := 5) hx hb hT in_Tape hown hK hP 0 rfl rfl 1 (by decide) (hT _ tw_215) (fun _ h9 => h9) rfl d_Tape_put_59 ?_
  refine lv_iconst (v := 2) hx hb d_Tape_put_62 (by decide) ?_
  refine lv_ishr hx hb d_Tape_put_63 ?_
  refine lv_topi (fun v63 ev63 => ?_)
  obtain rfl : v63 = 4 := ev63.trans (by decide)
  refine va_iald hx hb hK hP 1 0 rfl rfl (i := 4) (by unfold vp_in; decide) d_Tape_put_64 ?_
  refine lv_topi (fun v64 ev64 => ?_)
  refine lv_sipush (v := 255) hx hb d_Tape_put_65 (by decide) ?_
  refine lv_iload_n hx hb d_Tape_put_68 rfl (lv_at hl 0 rfl) ?_
  refine lv_ishl hx hb d_Tape_put_69 ?_
  refine lv_topi (fun v69 ev69 => ?_)
  obtain rfl : v69 = (-16777216) := ev69.trans (by decide)
  refine lv_iconst (v := -1) hx hb d_Tape_put_70 (by decide) ?_
  refine lv_ixor hx hb d_Tape_put_71 ?_
  refine lv_topi (fun v71 ev71 => ?_)
  obtain rfl : v71 = 16777215 := ev71.trans (by decide)
  refine lv_iand hx hb d_Tape_put_72 ?_
  refine lv_topi (fun v72 ev72 => ?_)
  refine lv_istore (lv' := [(4, .int v72), (3, .int 24), (2, .int 24), (0, .ref h0), (1, .int n)]) hx hb d_Tape_put_73 hl (by decide) rfl (fun ls hl => ?_)
  refine lv_aload_n hx hb d_Tape_put_75 rfl (lv_at hl 3 rfl) ?_
  refine va_get (D := D) (ci := 9) (v := .ref t0) (C := "MatrixScripts$Tape") (T := T_Tape) (N := 5) hx hb hT in_Tape hown hK hP 0 rfl rfl 0 (by decide) (hT _ tw_213) (fun _ h9 => h9) rfl d_Tape_put_76 ?_
  refine lv_aload_n hx hb d_Tape_put_79 rfl (lv_at hl 3 rfl) ?_
  refine va_get (D := D) (ci := 9) (v := .int 16) (C := "MatrixScripts$Tape") (T := T_Tape) (N := 5) hx hb hT in_Tape hown hK hP 0 rfl rfl 1 (by decide) (hT _ tw_215) (fun _ h9 => h9) rfl d_Tape_put_80 ?_
  refine lv_iconst (v := 2) hx hb d_Tape_put_83 (by decide) ?_
  refine lv_ishr hx hb d_Tape_put_84 ?_
  refine lv_topi (fun v84 ev84 => ?_)
  obtain rfl : v84 = 4 := ev84.trans (by decide)
  refine lv_iload hx hb d_Tape_put_85 (lv_at hl 0 rfl) ?_
  refine lv_iload_n hx hb d_Tape_put_87 rfl (lv_at hl 4 rfl) ?_
  refine lv_iload_n hx hb d_Tape_put_88 rfl (lv_at hl 2 rfl) ?_
  refine lv_iushr hx hb d_Tape_put_89 rfl ?_
  refine lv_topi (fun v89 ev89 => ?_)
  refine lv_sipush (v := 255) hx hb d_Tape_put_90 (by decide) ?_
  refine lv_iand hx hb d_Tape_put_93 ?_
  refine lv_topi (fun v93 ev93 => ?_)
  refine lv_iload_n hx hb d_Tape_put_94 rfl (lv_at hl 1 rfl) ?_
  refine lv_ishl hx hb d_Tape_put_95 ?_
  refine lv_topi (fun v95 ev95 => ?_)
  refine lv_ior hx hb d_Tape_put_96 ?_
  refine lv_topi (fun v96 ev96 => ?_)
  refine va_iast hx hb hK hP hD hS 1 0 rfl rfl (i := 4) (x := v96) (by unfold vp_in; decide) d_Tape_put_97 (fun H locs hP hD hS => ?_)
  have hP : va_P D vC ([(h0, .inr (9, [.ref t0, .int 16, .int t2, .int t3, .int t4])), (t0, .inl (g 0, 64, .inl (upd af 4 v96)))] ++ ([] : va_W)) H := hP
  have hD : va_D A ([(h0, .inr (9, [.ref t0, .int 16, .int t2, .int t3, .int t4])), (t0, .inl (g 0, 64, .inl (upd af 4 v96)))] ++ ([] : va_W)) := hD
  generalize upd af 4 v96 = f97 at hP hD
  refine lv_aload_n hx hb d_Tape_put_98 rfl (lv_at hl 3 rfl) ?_
  refine lv_dup hx hb d_Tape_put_99 rfl ?_
  refine va_get (D := D) (ci := 9) (v := .int 16) (C := "MatrixScripts$Tape") (T := T_Tape) (N := 5) hx hb hT in_Tape hown hK hP 0 rfl rfl 1 (by decide) (hT _ tw_215) (fun _ h9 => h9) rfl d_Tape_put_100 ?_
  refine lv_iconst (v := 1) hx hb d_Tape_put_103 (by decide) ?_
  refine lv_iadd hx hb d_Tape_put_104 ?_
  refine lv_topi (fun v104 ev104 => ?_)
  obtain rfl : v104 = 17 := ev104.trans (by decide)
  refine va_put (D := D) (ci := 9) (v := .int 17) (ty := .int) (C := "MatrixScripts$Tape") (T := T_Tape) (N := 5) hx hb hT in_Tape ty_Tape ty_Tape_ok nm_Tape hown hK hP hD hS 0 rfl rfl 1 (by decide) (hT _ tw_215) (fun _ h9 => h9) rfl (by decide +kernel) rfl rfl (Nat.le_of_ble_eq_true rfl) d_Tape_put_105 (fun H locs hP hD hS => ?_)
  have hP : va_P D vC ([(h0, .inr (9, [.ref t0, .int 17, .int t2, .int t3, .int t4])), (t0, .inl (g 0, 64, .inl f97))] ++ ([] : va_W)) H := hP
  have hD : va_D A ([(h0, .inr (9, [.ref t0, .int 17, .int t2, .int t3, .int t4])), (t0, .inl (g 0, 64, .inl f97))] ++ ([] : va_W)) := hD
  refine lv_iinc (v := 16) (lv' := [(2, .int 16), (4, .int v72), (3, .int 24), (0, .ref h0), (1, .int n)]) hx hb d_Tape_put_108 hl (k := 2) rfl (by decide) (by decide) rfl (fun ls hl => ?_)
  refine lv_goto (tgt := 37) hx hb d_Tape_put_111 (by decide) ?_
  refine lv_iload_n hx hb d_Tape_put_37 rfl (lv_at hl 0 rfl) ?_
  refine lv_if_lt (tgt := 114) hx hb d_Tape_put_38 (by decide) (fun c38 => absurd c38 (by decide)) (fun c38 => ?_)
  refine lv_bipush (v := 24) hx hb d_Tape_put_41 (by decide) ?_
  refine lv_bipush (v := 8) hx hb d_Tape_put_43 (by decide) ?_
  refine lv_aload_n hx hb d_Tape_put_45 rfl (lv_at hl 3 rfl) ?_
  refine va_get (D := D) (ci := 9) (v := .int 17) (C := "MatrixScripts$Tape") (T := T_Tape) (N := 5) hx hb hT in_Tape hown hK hP 0 rfl rfl 1 (by decide) (hT _ tw_215) (fun _ h9 => h9) rfl d_Tape_put_46 ?_
  refine lv_iconst (v := 3) hx hb d_Tape_put_49 (by decide) ?_
  refine lv_iand hx hb d_Tape_put_50 ?_
  refine lv_topi (fun v50_1 ev50_1 => ?_)
  obtain rfl : v50_1 = 1 := ev50_1.trans (by decide)
  refine lv_imul hx hb d_Tape_put_51 ?_
  refine lv_topi (fun v51_1 ev51_1 => ?_)
  obtain rfl : v51_1 = 8 := ev51_1.trans (by decide)
  refine lv_isub hx hb d_Tape_put_52 ?_
  refine lv_topi (fun v52_1 ev52_1 => ?_)
  obtain rfl : v52_1 = 16 := ev52_1.trans (by decide)
  refine lv_istore_n (lv' := [(3, .int 16), (2, .int 16), (4, .int v72), (0, .ref h0), (1, .int n)]) hx hb d_Tape_put_53 rfl hl (by decide) rfl (fun ls hl => ?_)
  refine lv_aload_n hx hb d_Tape_put_54 rfl (lv_at hl 3 rfl) ?_
  refine va_get (D := D) (ci := 9) (v := .ref t0) (C := "MatrixScripts$Tape") (T := T_Tape) (N := 5) hx hb hT in_Tape hown hK hP 0 rfl rfl 0 (by decide) (hT _ tw_213) (fun _ h9 => h9) rfl d_Tape_put_55 ?_
  refine lv_aload_n hx hb d_Tape_put_58 rfl (lv_at hl 3 rfl) ?_
  refine va_get (D := D) (ci := 9) (v := .int 17) (C := "MatrixScripts$Tape") (T := T_Tape) (N := 5) hx hb hT in_Tape hown hK hP 0 rfl rfl 1 (by decide) (hT _ tw_215) (fun _ h9 => h9) rfl d_Tape_put_59 ?_
  refine lv_iconst (v := 2) hx hb d_Tape_put_62 (by decide) ?_
  refine lv_ishr hx hb d_Tape_put_63 ?_
  refine lv_topi (fun v63_1 ev63_1 => ?_)
  obtain rfl : v63_1 = 4 := ev63_1.trans (by decide)
  refine va_iald hx hb hK hP 1 0 rfl rfl (i := 4) (by unfold vp_in; decide) d_Tape_put_64 ?_
  refine lv_topi (fun v64_1 ev64_1 => ?_)
  refine lv_sipush (v := 255) hx hb d_Tape_put_65 (by decide) ?_
  refine lv_iload_n hx hb d_Tape_put_68 rfl (lv_at hl 0 rfl) ?_
  refine lv_ishl hx hb d_Tape_put_69 ?_
  refine lv_topi (fun v69_1 ev69_1 => ?_)
  obtain rfl : v69_1 = 16711680 := ev69_1.trans (by decide)
  refine lv_iconst (v := -1) hx hb d_Tape_put_70 (by decide) ?_
  refine lv_ixor hx hb d_Tape_put_71 ?_
  refine lv_topi (fun v71_1 ev71_1 => ?_)
  obtain rfl : v71_1 = (-16711681) := ev71_1.trans (by decide)
  refine lv_iand hx hb d_Tape_put_72 ?_
  refine lv_topi (fun v72_1 ev72_1 => ?_)
  refine lv_istore (lv' := [(4, .int v72_1), (3, .int 16), (2, .int 16), (0, .ref h0), (1, .int n)]) hx hb d_Tape_put_73 hl (by decide) rfl (fun ls hl => ?_)
  refine lv_aload_n hx hb d_Tape_put_75 rfl (lv_at hl 3 rfl) ?_
  refine va_get (D := D) (ci := 9) (v := .ref t0) (C := "MatrixScripts$Tape") (T := T_Tape) (N := 5) hx hb hT in_Tape hown hK hP 0 rfl rfl 0 (by decide) (hT _ tw_213) (fun _ h9 => h9) rfl d_Tape_put_76 ?_
  refine lv_aload_n hx hb d_Tape_put_79 rfl (lv_at hl 3 rfl) ?_
  refine va_get (D := D) (ci := 9) (v := .int 17) (C := "MatrixScripts$Tape") (T := T_Tape) (N := 5) hx hb hT in_Tape hown hK hP 0 rfl rfl 1 (by decide) (hT _ tw_215) (fun _ h9 => h9) rfl d_Tape_put_80 ?_
  refine lv_iconst (v := 2) hx hb d_Tape_put_83 (by decide) ?_
  refine lv_ishr hx hb d_Tape_put_84 ?_
  refine lv_topi (fun v84_1 ev84_1 => ?_)
  obtain rfl : v84_1 = 4 := ev84_1.trans (by decide)
  refine lv_iload hx hb d_Tape_put_85 (lv_at hl 0 rfl) ?_
  refine lv_iload_n hx hb d_Tape_put_87 rfl (lv_at hl 4 rfl) ?_
  refine lv_iload_n hx hb d_Tape_put_88 rfl (lv_at hl 2 rfl) ?_
  refine lv_iushr hx hb d_Tape_put_89 rfl ?_
  refine lv_topi (fun v89_1 ev89_1 => ?_)
  refine lv_sipush (v := 255) hx hb d_Tape_put_90 (by decide) ?_
  refine lv_iand hx hb d_Tape_put_93 ?_
  refine lv_topi (fun v93_1 ev93_1 => ?_)
  refine lv_iload_n hx hb d_Tape_put_94 rfl (lv_at hl 1 rfl) ?_
  refine lv_ishl hx hb d_Tape_put_95 ?_
  refine lv_topi (fun v95_1 ev95_1 => ?_)
  refine lv_ior hx hb d_Tape_put_96 ?_
  refine lv_topi (fun v96_1 ev96_1 => ?_)
  refine va_iast hx hb hK hP hD hS 1 0 rfl rfl (i := 4) (x := v96_1) (by unfold vp_in; decide) d_Tape_put_97 (fun H locs hP hD hS => ?_)
  have hP : va_P D vC ([(h0, .inr (9, [.ref t0, .int 17, .int t2, .int t3, .int t4])), (t0, .inl (g 0, 64, .inl (upd f97 4 v96_1)))] ++ ([] : va_W)) H := hP
  have hD : va_D A ([(h0, .inr (9, [.ref t0, .int 17, .int t2, .int t3, .int t4])), (t0, .inl (g 0, 64, .inl (upd f97 4 v96_1)))] ++ ([] : va_W)) := hD
  generalize upd f97 4 v96_1 = f97_1 at hP hD
  refine lv_aload_n hx hb d_Tape_put_98 rfl (lv_at hl 3 rfl) ?_
  refine lv_dup hx hb d_Tape_put_99 rfl ?_
  refine va_get (D := D) (ci := 9) (v := .int 17) (C := "MatrixScripts$Tape") (T := T_Tape) (N := 5) hx hb hT in_Tape hown hK hP 0 rfl rfl 1 (by decide) (hT _ tw_215) (fun _ h9 => h9) rfl d_Tape_put_100 ?_
  refine lv_iconst (v := 1) hx hb d_Tape_put_103 (by decide) ?_
  refine lv_iadd hx hb d_Tape_put_104 ?_
  refine lv_topi (fun v104_1 ev104_1 => ?_)
  obtain rfl : v104_1 = 18 := ev104_1.trans (by decide)
  refine va_put (D := D) (ci := 9) (v := .int 18) (ty := .int) (C := "MatrixScripts$Tape") (T := T_Tape) (N := 5) hx hb hT in_Tape ty_Tape ty_Tape_ok nm_Tape hown hK hP hD hS 0 rfl rfl 1 (by decide) (hT _ tw_215) (fun _ h9 => h9) rfl (by decide +kernel) rfl rfl (Nat.le_of_ble_eq_true rfl) d_Tape_put_105 (fun H locs hP hD hS => ?_)
  have hP : va_P D vC ([(h0, .inr (9, [.ref t0, .int 18, .int t2, .int t3, .int t4])), (t0, .inl (g 0, 64, .inl f97_1))] ++ ([] : va_W)) H := hP
  have hD : va_D A ([(h0, .inr (9, [.ref t0, .int 18, .int t2, .int t3, .int t4])), (t0, .inl (g 0, 64, .inl f97_1))] ++ ([] : va_W)) := hD
  refine lv_iinc (v := 8) (lv' := [(2, .int 8), (4, .int v72_1), (3, .int 16), (0, .ref h0), (1, .int n)]) hx hb d_Tape_put_108 hl (k := 2) rfl (by decide) (by decide) rfl (fun ls hl => ?_)
  refine lv_goto (tgt := 37) hx hb d_Tape_put_111 (by decide) ?_
  refine lv_iload_n hx hb d_Tape_put_37 rfl (lv_at hl 0 rfl) ?_
  refine lv_if_lt (tgt := 114) hx hb d_Tape_put_38 (by decide) (fun c38 => absurd c38 (by decide)) (fun c38 => ?_)
  refine lv_bipush (v := 24) hx hb d_Tape_put_41 (by decide) ?_
  refine lv_bipush (v := 8) hx hb d_Tape_put_43 (by decide) ?_
  refine lv_aload_n hx hb d_Tape_put_45 rfl (lv_at hl 3 rfl) ?_
  refine va_get (D := D) (ci := 9) (v := .int 18) (C := "MatrixScripts$Tape") (T := T_Tape) (N := 5) hx hb hT in_Tape hown hK hP 0 rfl rfl 1 (by decide) (hT _ tw_215) (fun _ h9 => h9) rfl d_Tape_put_46 ?_
  refine lv_iconst (v := 3) hx hb d_Tape_put_49 (by decide) ?_
  refine lv_iand hx hb d_Tape_put_50 ?_
  refine lv_topi (fun v50_2 ev50_2 => ?_)
  obtain rfl : v50_2 = 2 := ev50_2.trans (by decide)
  refine lv_imul hx hb d_Tape_put_51 ?_
  refine lv_topi (fun v51_2 ev51_2 => ?_)
  obtain rfl : v51_2 = 16 := ev51_2.trans (by decide)
  refine lv_isub hx hb d_Tape_put_52 ?_
  refine lv_topi (fun v52_2 ev52_2 => ?_)
  obtain rfl : v52_2 = 8 := ev52_2.trans (by decide)
  refine lv_istore_n (lv' := [(3, .int 8), (2, .int 8), (4, .int v72_1), (0, .ref h0), (1, .int n)]) hx hb d_Tape_put_53 rfl hl (by decide) rfl (fun ls hl => ?_)
  refine lv_aload_n hx hb d_Tape_put_54 rfl (lv_at hl 3 rfl) ?_
  refine va_get (D := D) (ci := 9) (v := .ref t0) (C := "MatrixScripts$Tape") (T := T_Tape) (N := 5) hx hb hT in_Tape hown hK hP 0 rfl rfl 0 (by decide) (hT _ tw_213) (fun _ h9 => h9) rfl d_Tape_put_55 ?_
  refine lv_aload_n hx hb d_Tape_put_58 rfl (lv_at hl 3 rfl) ?_
  refine va_get (D := D) (ci := 9) (v := .int 18) (C := "MatrixScripts$Tape") (T := T_Tape) (N := 5) hx hb hT in_Tape hown hK hP 0 rfl rfl 1 (by decide) (hT _ tw_215) (fun _ h9 => h9) rfl d_Tape_put_59 ?_
  refine lv_iconst (v := 2) hx hb d_Tape_put_62 (by decide) ?_
  refine lv_ishr hx hb d_Tape_put_63 ?_
  refine lv_topi (fun v63_2 ev63_2 => ?_)
  obtain rfl : v63_2 = 4 := ev63_2.trans (by decide)
  refine va_iald hx hb hK hP 1 0 rfl rfl (i := 4) (by unfold vp_in; decide) d_Tape_put_64 ?_
  refine lv_topi (fun v64_2 ev64_2 => ?_)
  refine lv_sipush (v := 255) hx hb d_Tape_put_65 (by decide) ?_
  refine lv_iload_n hx hb d_Tape_put_68 rfl (lv_at hl 0 rfl) ?_
  refine lv_ishl hx hb d_Tape_put_69 ?_
  refine lv_topi (fun v69_2 ev69_2 => ?_)
  obtain rfl : v69_2 = 65280 := ev69_2.trans (by decide)
  refine lv_iconst (v := -1) hx hb d_Tape_put_70 (by decide) ?_
  refine lv_ixor hx hb d_Tape_put_71 ?_
  refine lv_topi (fun v71_2 ev71_2 => ?_)
  obtain rfl : v71_2 = (-65281) := ev71_2.trans (by decide)
  refine lv_iand hx hb d_Tape_put_72 ?_
  refine lv_topi (fun v72_2 ev72_2 => ?_)
  refine lv_istore (lv' := [(4, .int v72_2), (3, .int 8), (2, .int 8), (0, .ref h0), (1, .int n)]) hx hb d_Tape_put_73 hl (by decide) rfl (fun ls hl => ?_)
  refine lv_aload_n hx hb d_Tape_put_75 rfl (lv_at hl 3 rfl) ?_
  refine va_get (D := D) (ci := 9) (v := .ref t0) (C := "MatrixScripts$Tape") (T := T_Tape) (N := 5) hx hb hT in_Tape hown hK hP 0 rfl rfl 0 (by decide) (hT _ tw_213) (fun _ h9 => h9) rfl d_Tape_put_76 ?_
  refine lv_aload_n hx hb d_Tape_put_79 rfl (lv_at hl 3 rfl) ?_
  refine va_get (D := D) (ci := 9) (v := .int 18) (C := "MatrixScripts$Tape") (T := T_Tape) (N := 5) hx hb hT in_Tape hown hK hP 0 rfl rfl 1 (by decide) (hT _ tw_215) (fun _ h9 => h9) rfl d_Tape_put_80 ?_
  refine lv_iconst (v := 2) hx hb d_Tape_put_83 (by decide) ?_
  refine lv_ishr hx hb d_Tape_put_84 ?_
  refine lv_topi (fun v84_2 ev84_2 => ?_)
  obtain rfl : v84_2 = 4 := ev84_2.trans (by decide)
  refine lv_iload hx hb d_Tape_put_85 (lv_at hl 0 rfl) ?_
  refine lv_iload_n hx hb d_Tape_put_87 rfl (lv_at hl 4 rfl) ?_
  refine lv_iload_n hx hb d_Tape_put_88 rfl (lv_at hl 2 rfl) ?_
  refine lv_iushr hx hb d_Tape_put_89 rfl ?_
  refine lv_topi (fun v89_2 ev89_2 => ?_)
  refine lv_sipush (v := 255) hx hb d_Tape_put_90 (by decide) ?_
  refine lv_iand hx hb d_Tape_put_93 ?_
  refine lv_topi (fun v93_2 ev93_2 => ?_)
  refine lv_iload_n hx hb d_Tape_put_94 rfl (lv_at hl 1 rfl) ?_
  refine lv_ishl hx hb d_Tape_put_95 ?_
  refine lv_topi (fun v95_2 ev95_2 => ?_)
  refine lv_ior hx hb d_Tape_put_96 ?_
  refine lv_topi (fun v96_2 ev96_2 => ?_)
  refine va_iast hx hb hK hP hD hS 1 0 rfl rfl (i := 4) (x := v96_2) (by unfold vp_in; decide) d_Tape_put_97 (fun H locs hP hD hS => ?_)
  have hP : va_P D vC ([(h0, .inr (9, [.ref t0, .int 18, .int t2, .int t3, .int t4])), (t0, .inl (g 0, 64, .inl (upd f97_1 4 v96_2)))] ++ ([] : va_W)) H := hP
  have hD : va_D A ([(h0, .inr (9, [.ref t0, .int 18, .int t2, .int t3, .int t4])), (t0, .inl (g 0, 64, .inl (upd f97_1 4 v96_2)))] ++ ([] : va_W)) := hD
  generalize upd f97_1 4 v96_2 = f97_2 at hP hD
  refine lv_aload_n hx hb d_Tape_put_98 rfl (lv_at hl 3 rfl) ?_
  refine lv_dup hx hb d_Tape_put_99 rfl ?_
  refine va_get (D := D) (ci := 9) (v := .int 18) (C := "MatrixScripts$Tape") (T := T_Tape) (N := 5) hx hb hT in_Tape hown hK hP 0 rfl rfl 1 (by decide) (hT _ tw_215) (fun _ h9 => h9) rfl d_Tape_put_100 ?_
  refine lv_iconst (v := 1) hx hb d_Tape_put_103 (by decide) ?_
  refine lv_iadd hx hb d_Tape_put_104 ?_
  refine lv_topi (fun v104_2 ev104_2 => ?_)
  obtain rfl : v104_2 = 19 := ev104_2.trans (by decide)
  refine va_put (D := D) (ci := 9) (v := .int 19) (ty := .int) (C := "MatrixScripts$Tape") (T := T_Tape) (N := 5) hx hb hT in_Tape ty_Tape ty_Tape_ok nm_Tape hown hK hP hD hS 0 rfl rfl 1 (by decide) (hT _ tw_215) (fun _ h9 => h9) rfl (by decide +kernel) rfl rfl (Nat.le_of_ble_eq_true rfl) d_Tape_put_105 (fun H locs hP hD hS => ?_)
  have hP : va_P D vC ([(h0, .inr (9, [.ref t0, .int 19, .int t2, .int t3, .int t4])), (t0, .inl (g 0, 64, .inl f97_2))] ++ ([] : va_W)) H := hP
  have hD : va_D A ([(h0, .inr (9, [.ref t0, .int 19, .int t2, .int t3, .int t4])), (t0, .inl (g 0, 64, .inl f97_2))] ++ ([] : va_W)) := hD
  refine lv_iinc (v := 0) (lv' := [(2, .int 0), (4, .int v72_2), (3, .int 8), (0, .ref h0), (1, .int n)]) hx hb d_Tape_put_108 hl (k := 2) rfl (by decide) (by decide) rfl (fun ls hl => ?_)
  refine lv_goto (tgt := 37) hx hb d_Tape_put_111 (by decide) ?_
  refine lv_iload_n hx hb d_Tape_put_37 rfl (lv_at hl 0 rfl) ?_
  refine lv_if_lt (tgt := 114) hx hb d_Tape_put_38 (by decide) (fun c38 => absurd c38 (by decide)) (fun c38 => ?_)
  refine lv_bipush (v := 24) hx hb d_Tape_put_41 (by decide) ?_
  refine lv_bipush (v := 8) hx hb d_Tape_put_43 (by decide) ?_
  refine lv_aload_n hx hb d_Tape_put_45 rfl (lv_at hl 3 rfl) ?_
  refine va_get (D := D) (ci := 9) (v := .int 19) (C := "MatrixScripts$Tape") (T := T_Tape) (N := 5) hx hb hT in_Tape hown hK hP 0 rfl rfl 1 (by decide) (hT _ tw_215) (fun _ h9 => h9) rfl d_Tape_put_46 ?_
  refine lv_iconst (v := 3) hx hb d_Tape_put_49 (by decide) ?_
  refine lv_iand hx hb d_Tape_put_50 ?_
  refine lv_topi (fun v50_3 ev50_3 => ?_)
  obtain rfl : v50_3 = 3 := ev50_3.trans (by decide)
  refine lv_imul hx hb d_Tape_put_51 ?_
  refine lv_topi (fun v51_3 ev51_3 => ?_)
  obtain rfl : v51_3 = 24 := ev51_3.trans (by decide)
  refine lv_isub hx hb d_Tape_put_52 ?_
  refine lv_topi (fun v52_3 ev52_3 => ?_)
  obtain rfl : v52_3 = 0 := ev52_3.trans (by decide)
  refine lv_istore_n (lv' := [(3, .int 0), (2, .int 0), (4, .int v72_2), (0, .ref h0), (1, .int n)]) hx hb d_Tape_put_53 rfl hl (by decide) rfl (fun ls hl => ?_)
  refine lv_aload_n hx hb d_Tape_put_54 rfl (lv_at hl 3 rfl) ?_
  refine va_get (D := D) (ci := 9) (v := .ref t0) (C := "MatrixScripts$Tape") (T := T_Tape) (N := 5) hx hb hT in_Tape hown hK hP 0 rfl rfl 0 (by decide) (hT _ tw_213) (fun _ h9 => h9) rfl d_Tape_put_55 ?_
  refine lv_aload_n hx hb d_Tape_put_58 rfl (lv_at hl 3 rfl) ?_
  refine va_get (D := D) (ci := 9) (v := .int 19) (C := "MatrixScripts$Tape") (T := T_Tape) (N := 5) hx hb hT in_Tape hown hK hP 0 rfl rfl 1 (by decide) (hT _ tw_215) (fun _ h9 => h9) rfl d_Tape_put_59 ?_
  refine lv_iconst (v := 2) hx hb d_Tape_put_62 (by decide) ?_
  refine lv_ishr hx hb d_Tape_put_63 ?_
  refine lv_topi (fun v63_3 ev63_3 => ?_)
  obtain rfl : v63_3 = 4 := ev63_3.trans (by decide)
  refine va_iald hx hb hK hP 1 0 rfl rfl (i := 4) (by unfold vp_in; decide) d_Tape_put_64 ?_
  refine lv_topi (fun v64_3 ev64_3 => ?_)
  refine lv_sipush (v := 255) hx hb d_Tape_put_65 (by decide) ?_
  refine lv_iload_n hx hb d_Tape_put_68 rfl (lv_at hl 0 rfl) ?_
  refine lv_ishl hx hb d_Tape_put_69 ?_
  refine lv_topi (fun v69_3 ev69_3 => ?_)
  obtain rfl : v69_3 = 255 := ev69_3.trans (by decide)
  refine lv_iconst (v := -1) hx hb d_Tape_put_70 (by decide) ?_
  refine lv_ixor hx hb d_Tape_put_71 ?_
  refine lv_topi (fun v71_3 ev71_3 => ?_)
  obtain rfl : v71_3 = (-256) := ev71_3.trans (by decide)
  refine lv_iand hx hb d_Tape_put_72 ?_
  refine lv_topi (fun v72_3 ev72_3 => ?_)
  refine lv_istore (lv' := [(4, .int v72_3), (3, .int 0), (2, .int 0), (0, .ref h0), (1, .int n)]) hx hb d_Tape_put_73 hl (by decide) rfl (fun ls hl => ?_)
  refine lv_aload_n hx hb d_Tape_put_75 rfl (lv_at hl 3 rfl) ?_
  refine va_get (D := D) (ci := 9) (v := .ref t0) (C := "MatrixScripts$Tape") (T := T_Tape) (N := 5) hx hb hT in_Tape hown hK hP 0 rfl rfl 0 (by decide) (hT _ tw_213) (fun _ h9 => h9) rfl d_Tape_put_76 ?_
  refine lv_aload_n hx hb d_Tape_put_79 rfl (lv_at hl 3 rfl) ?_
  refine va_get (D := D) (ci := 9) (v := .int 19) (C := "MatrixScripts$Tape") (T := T_Tape) (N := 5) hx hb hT in_Tape hown hK hP 0 rfl rfl 1 (by decide) (hT _ tw_215) (fun _ h9 => h9) rfl d_Tape_put_80 ?_
  refine lv_iconst (v := 2) hx hb d_Tape_put_83 (by decide) ?_
  refine lv_ishr hx hb d_Tape_put_84 ?_
  refine lv_topi (fun v84_3 ev84_3 => ?_)
  obtain rfl : v84_3 = 4 := ev84_3.trans (by decide)
  refine lv_iload hx hb d_Tape_put_85 (lv_at hl 0 rfl) ?_
  refine lv_iload_n hx hb d_Tape_put_87 rfl (lv_at hl 4 rfl) ?_
  refine lv_iload_n hx hb d_Tape_put_88 rfl (lv_at hl 2 rfl) ?_
  refine lv_iushr hx hb d_Tape_put_89 rfl ?_
  refine lv_topi (fun v89_3 ev89_3 => ?_)
  refine lv_sipush (v := 255) hx hb d_Tape_put_90 (by decide) ?_
  refine lv_iand hx hb d_Tape_put_93 ?_
  refine lv_topi (fun v93_3 ev93_3 => ?_)
  refine lv_iload_n hx hb d_Tape_put_94 rfl (lv_at hl 1 rfl) ?_
  refine lv_ishl hx hb d_Tape_put_95 ?_
  refine lv_topi (fun v95_3 ev95_3 => ?_)
  refine lv_ior hx hb d_Tape_put_96 ?_
  refine lv_topi (fun v96_3 ev96_3 => ?_)
  refine va_iast hx hb hK hP hD hS 1 0 rfl rfl (i := 4) (x := v96_3) (by unfold vp_in; decide) d_Tape_put_97 (fun H locs hP hD hS => ?_)
  have hP : va_P D vC ([(h0, .inr (9, [.ref t0, .int 19, .int t2, .int t3, .int t4])), (t0, .inl (g 0, 64, .inl (upd f97_2 4 v96_3)))] ++ ([] : va_W)) H := hP
  have hD : va_D A ([(h0, .inr (9, [.ref t0, .int 19, .int t2, .int t3, .int t4])), (t0, .inl (g 0, 64, .inl (upd f97_2 4 v96_3)))] ++ ([] : va_W)) := hD
  generalize upd f97_2 4 v96_3 = f97_3 at hP hD
  refine lv_aload_n hx hb d_Tape_put_98 rfl (lv_at hl 3 rfl) ?_
  refine lv_dup hx hb d_Tape_put_99 rfl ?_
  refine va_get (D := D) (ci := 9) (v := .int 19) (C := "MatrixScripts$Tape") (T := T_Tape) (N := 5) hx hb hT in_Tape hown hK hP 0 rfl rfl 1 (by decide) (hT _ tw_215) (fun _ h9 => h9) rfl d_Tape_put_100 ?_
  refine lv_iconst (v := 1) hx hb d_Tape_put_103 (by decide) ?_
  refine lv_iadd hx hb d_Tape_put_104 ?_
  refine lv_topi (fun v104_3 ev104_3 => ?_)
  obtain rfl : v104_3 = 20 := ev104_3.trans (by decide)
  refine va_put (D := D) (ci := 9) (v := .int 20) (ty := .int) (C := "MatrixScripts$Tape") (T := T_Tape) (N := 5) hx hb hT in_Tape ty_Tape ty_Tape_ok nm_Tape hown hK hP hD hS 0 rfl rfl 1 (by decide) (hT _ tw_215) (fun _ h9 => h9) rfl (by decide +kernel) rfl rfl (Nat.le_of_ble_eq_true rfl) d_Tape_put_105 (fun H locs hP hD hS => ?_)
  have hP : va_P D vC ([(h0, .inr (9, [.ref t0, .int 20, .int t2, .int t3, .int t4])), (t0, .inl (g 0, 64, .inl f97_3))] ++ ([] : va_W)) H := hP
  have hD : va_D A ([(h0, .inr (9, [.ref t0, .int 20, .int t2, .int t3, .int t4])), (t0, .inl (g 0, 64, .inl f97_3))] ++ ([] : va_W)) := hD
  refine lv_iinc (v := (-8)) (lv' := [(2, .int (-8)), (4, .int v72_3), (3, .int 0), (0, .ref h0), (1, .int n)]) hx hb d_Tape_put_108 hl (k := 2) rfl (by decide) (by decide) rfl (fun ls hl => ?_)
  refine lv_goto (tgt := 37) hx hb d_Tape_put_111 (by decide) ?_
  refine lv_iload_n hx hb d_Tape_put_37 rfl (lv_at hl 0 rfl) ?_
  refine lv_if_lt (tgt := 114) hx hb d_Tape_put_38 (by decide) (fun c38 => ?_) (fun c38 => absurd (by decide) c38)
  have hP9 := pm_subP (a' := [(h0, .inr (9, [.ref t0, .int 20, .int t2, .int t3, .int t4])), (t0, .inl (g 0, 64, .inl f97_3))]) hP [0, 1] rfl
  have hD9 := pm_subD (a' := [(h0, .inr (9, [.ref t0, .int 20, .int t2, .int t3, .int t4])), (t0, .inl (g 0, 64, .inl f97_3))]) hD [0, 1] (by decide) rfl
  refine W.widen (k := 0) (n := 0) (Nat.le_of_ble_eq_true rfl) (Nat.le_of_ble_eq_true rfl) ?_
  exact W.vret hx hb hr (fun t ht1 hW => ⟨⟨f97_3, rfl, trivial, by rw [ht1]; exact hP9, hD9⟩, hS.F ht1⟩) hS.2.2 d_Tape_put_114
def w_Ms_feed : List Cond := .code ⟨"MatrixScripts", "feed", "(IIIII)I"⟩ prog_1_method_2_code 6 (some .int) :: wd_all
theorem gd_Ms_feed : GoodIn wd_all w_Ms_feed := gd_of tw_2054
set_option maxHeartbeats 4000000 in
set_option maxRecDepth 100000 in
theorem c_Ms_feed_e (l : Launch) (D : va_G) (g : Nat → ClassId) (h0 : Nat) (m0 : Nat) (m1 : Nat) (m2 : Nat) (t0 : Nat) (t2 : Int32) (t3 : Int32) (t4 : Int32) (af : Nat → Int32) (n1 : Int32) (n2 : Int32) (n3 : Int32) (n4 : Int32) (n5 : Int32) (sz : Nat) : Met l ⟨"MatrixScripts", "feed", "(IIIII)I"⟩ w_Ms_feed { frames := 1, cells := 0, slots := 0, locals := 24 } (cp D g [.ref h0, .int n1, .int n2, .int n3, .int n4, .int n5] [(h0, .inr (12, [.ref m0, .ref m1, .ref m2])), (m1, .inr (9, [.ref t0, .int 0, .int t2, .int t3, .int t4])), (t0, .inl (g 0, 64, .inl af))] sz) (ci D (va_A [(h0, .inr (12, [.ref m0, .ref m1, .ref m2])), (m1, .inr (9, [.ref t0, .int 0, .int t2, .int t3, .int t4])), (t0, .inl (g 0, 64, .inl af))] sz) (fun r _ => r = 20) (fun u : Nat → Int32 => [(h0, .inr (12, [.ref m0, .ref m1, .ref m2])), (m1, .inr (9, [.ref t0, .int 20, .int t2, .int t3, .int t4])), (t0, .inl (g 0, 64, .inl u))])) 0 0 (va_A [(h0, .inr (12, [.ref m0, .ref m1, .ref m2])), (m1, .inr (9, [.ref t0, .int 0, .int t2, .int t3, .int t4])), (t0, .inl (g 0, 64, .inl af))] sz) := by
  refine Met.ofW (cc := prog_1_method_2_code) (maxL := 6) (ret := (some .int)) (by decide) rfl ?_
  intro p e s m args below meth c s₁ B0 hml hv
  obtain ⟨rfl, hsz, hP, hK, hD0, hN⟩ := hv
  have hx := B0.exec
  have hb := B0.bytes
  have hr := B0.returns
  have hts := atoms_spec (ws := w_Ms_feed) B0.pre
  have hT := fun (w : Cond) (h : w ∈ wd_all) => hts w (List.mem_cons_of_mem _ h)
  have hown : s.vm.findClass "MatrixScripts" = some m.cls := findClass_of_methodNamed B0.named
  have hlocks := B0.notSynchronized
  subst hsz
  have hD := hD0.self (sz := s.heap.size)
  generalize hAe : va_A [(h0, .inr (12, [.ref m0, .ref m1, .ref m2])), (m1, .inr (9, [.ref t0, .int 0, .int t2, .int t3, .int t4])), (t0, .inl (g 0, 64, .inl af))] s.heap.size = A at hD ⊢
  have hA : ∀ q : Nat, s.heap.size ≤ q → A q := fun q h => by rw [← hAe]; exact Or.inr h
  have hS : va_S A s.heap s.heap [] := va_S.rf
  have hP : va_P D vC ([(h0, .inr (12, [.ref m0, .ref m1, .ref m2])), (m1, .inr (9, [.ref t0, .int 0, .int t2, .int t3, .int t4])), (t0, .inl (g 0, 64, .inl af))] ++ ([] : va_W)) s.heap := hP
  have hD : va_D A ([(h0, .inr (12, [.ref m0, .ref m1, .ref m2])), (m1, .inr (9, [.ref t0, .int 0, .int t2, .int t3, .int t4])), (t0, .inl (g 0, 64, .inl af))] ++ ([] : va_W)) := hD
  have hl := lv_entry ([.ref h0, .int n1, .int n2, .int n3, .int n4, .int n5]) (n := 6) (Nat.le_of_ble_eq_true rfl)
  rw [lg_entry_eq]
  generalize (lg_sl ([.ref h0, .int n1, .int n2, .int n3, .int n4, .int n5]) ++ List.replicate (6 - (lg_sl ([.ref h0, .int n1, .int n2, .int n3, .int n4, .int n5])).length) Slot.unset).toArray = ls at hl ⊢
  have hl : lv_has ls 6 [(0, .ref h0), (1, .int n1), (2, .int n2), (3, .int n3), (4, .int n4), (5, .int n5)] := hl
  refine lv_aload_n hx hb d_Ms_feed_0 rfl (lv_at hl 0 rfl) ?_
  refine va_get (D := D) (ci := 12) (v := .ref m1) (C := "MatrixScripts") (T := T_Ms) (N := 3) hx hb hT in_Ms hown hK hP 0 rfl rfl 1 (by decide) (hT _ tw_740) (fun _ h9 => h9) rfl d_Ms_feed_1 ?_
  refine va_get (D := D) (ci := 9) (v := .int 0) (C := "MatrixScripts$Tape") (T := T_Tape) (N := 5) hx hb hT in_Tape hown hK hP 1 rfl rfl 1 (by decide) (hT _ tw_214) (fun _ h9 => h9) rfl d_Ms_feed_4 ?_
  refine lv_bipush (v := 20) hx hb d_Ms_feed_7 (by decide) ?_
  refine lv_iadd hx hb d_Ms_feed_9 ?_
  refine lv_topi (fun v9 ev9 => ?_)
  obtain rfl : v9 = 20 := ev9.trans (by decide)
  refine lv_ldc (v := 65536) hx hb hown (hT _ tw_2055) d_Ms_feed_10 ?_
  refine lv_icmp_le (tgt := 23) hx hb d_Ms_feed_12 (by decide) (fun c12 => ?_) (fun c12 => absurd (by decide) c12)
  refine lv_aload_n hx hb d_Ms_feed_23 rfl (lv_at hl 0 rfl) ?_
  refine va_get (D := D) (ci := 12) (v := .ref m1) (C := "MatrixScripts") (T := T_Ms) (N := 3) hx hb hT in_Ms hown hK hP 0 rfl rfl 1 (by decide) (hT _ tw_740) (fun _ h9 => h9) rfl d_Ms_feed_24 ?_
  refine lv_iload_n hx hb d_Ms_feed_27 rfl (lv_at hl 1 rfl) ?_
  have hP := pm_subP (a' := [(m1, .inr (9, [.ref t0, .int 0, .int t2, .int t3, .int t4])), (t0, .inl (g 0, 64, .inl af)), (h0, .inr (12, [.ref m0, .ref m1, .ref m2]))]) hP [1, 2, 0] rfl
  have hD := pm_subD (a' := [(m1, .inr (9, [.ref t0, .int 0, .int t2, .int t3, .int t4])), (t0, .inl (g 0, 64, .inl af)), (h0, .inr (12, [.ref m0, .ref m1, .ref m2]))]) hD [1, 2, 0] (by decide) rfl
  have hP : va_P D vC ([(m1, .inr (9, [.ref t0, .int 0, .int t2, .int t3, .int t4])), (t0, .inl (g 0, 64, .inl af))] ++ ([(h0, .inr (12, [.ref m0, .ref m1, .ref m2]))] ++ ([] : va_W))) s.heap := hP
  have hD : va_D A ([(m1, .inr (9, [.ref t0, .int 0, .int t2, .int t3, .int t4])), (t0, .inl (g 0, 64, .inl af))] ++ ([(h0, .inr (12, [.ref m0, .ref m1, .ref m2]))] ++ ([] : va_W))) := hD
  have hFc := pm_free hD hS hA
  refine va_callv (va_runV (As := [.int n1]) (rest := []) ⟨hx, hb, hml, hown, hT⟩ (c_Tape_put_0 l D g m1 t0 t2 t3 t4 af n1 s.heap.size) (cwV 1 hT (gdV tw_2057 tw_2058 tw_2059 tw_156 tw_2060) rfl rfl rfl (by decide +kernel) ⟨Nat.le_of_ble_eq_true rfl, Nat.le_of_ble_eq_true rfl⟩) (cp_V (C := "MatrixScripts$Tape") (T := T_Tape) (N := 5) (ci := 9) hP hK hD hN rfl) rfl rfl hl.1 rfl (lv_room (Nat.le_of_ble_eq_true rfl)) d_Ms_feed_28 ⟨Nat.le_of_ble_eq_true rfl, Nat.le_of_ble_eq_true rfl⟩) hS (fun q _ h => hFc q h) hFc (fun u28 t H1 locs ht1 hvm hw hB hz1 hk1 hS => ?_)
  obtain ⟨hP1, hD1⟩ := hB
  rw [ht1] at hP1
  obtain ⟨hP, hD⟩ := pm_join hP hD hk1 hFc hP1 hD1
  generalize H1 = H at hP hS ⊢
  have hw28 := hw
  have hP : va_P D vC ([(m1, .inr (9, [.ref t0, .int 4, .int t2, .int t3, .int t4])), (t0, .inl (g 0, 64, .inl u28)), (h0, .inr (12, [.ref m0, .ref m1, .ref m2]))] ++ ([] : va_W)) H := hP
  have hD : va_D A ([(m1, .inr (9, [.ref t0, .int 4, .int t2, .int t3, .int t4])), (t0, .inl (g 0, 64, .inl u28)), (h0, .inr (12, [.ref m0, .ref m1, .ref m2]))] ++ ([] : va_W)) := hD
  refine lv_aload_n hx hb d_Ms_feed_31 rfl (lv_at hl 0 rfl) ?_
  refine va_get (D := D) (ci := 12) (v := .ref m1) (C := "MatrixScripts") (T := T_Ms) (N := 3) hx hb hT in_Ms hown hK hP 2 rfl rfl 1 (by decide) (hT _ tw_740) (fun _ h9 => h9) rfl d_Ms_feed_32 ?_
  refine lv_iload_n hx hb d_Ms_feed_35 rfl (lv_at hl 2 rfl) ?_
  have hP : va_P D vC ([(m1, .inr (9, [.ref t0, .int 4, .int t2, .int t3, .int t4])), (t0, .inl (g 0, 64, .inl u28))] ++ ([(h0, .inr (12, [.ref m0, .ref m1, .ref m2]))] ++ ([] : va_W))) H := hP
  have hD : va_D A ([(m1, .inr (9, [.ref t0, .int 4, .int t2, .int t3, .int t4])), (t0, .inl (g 0, 64, .inl u28))] ++ ([(h0, .inr (12, [.ref m0, .ref m1, .ref m2]))] ++ ([] : va_W))) := hD
  have hFc := pm_free hD hS hA
  refine va_callv (va_runV (As := [.int n2]) (rest := []) ⟨hx, hb, hml, hown, hT⟩ (c_Tape_put_4 l D g m1 t0 t2 t3 t4 u28 n2 H.size) (cwV 1 hT (gdV tw_2057 tw_2058 tw_2059 tw_156 tw_2060) rfl rfl rfl (by decide +kernel) ⟨Nat.le_of_ble_eq_true rfl, Nat.le_of_ble_eq_true rfl⟩) (cp_V (C := "MatrixScripts$Tape") (T := T_Tape) (N := 5) (ci := 9) hP hK hD hN rfl) rfl rfl hl.1 rfl (lv_room (Nat.le_of_ble_eq_true rfl)) d_Ms_feed_36 ⟨Nat.le_of_ble_eq_true rfl, Nat.le_of_ble_eq_true rfl⟩) hS (fun q _ h => hFc q h) hFc (fun u36 t H1 locs ht1 hvm hw hB hz1 hk1 hS => ?_)
  obtain ⟨hP1, hD1⟩ := hB
  rw [ht1] at hP1
  obtain ⟨hP, hD⟩ := pm_join hP hD hk1 hFc hP1 hD1
  generalize H1 = H at hP hS ⊢
  have hw36 := hw
  have hP : va_P D vC ([(m1, .inr (9, [.ref t0, .int 8, .int t2, .int t3, .int t4])), (t0, .inl (g 0, 64, .inl u36)), (h0, .inr (12, [.ref m0, .ref m1, .ref m2]))] ++ ([] : va_W)) H := hP
  have hD : va_D A ([(m1, .inr (9, [.ref t0, .int 8, .int t2, .int t3, .int t4])), (t0, .inl (g 0, 64, .inl u36)), (h0, .inr (12, [.ref m0, .ref m1, .ref m2]))] ++ ([] : va_W)) := hD
  refine lv_aload_n hx hb d_Ms_feed_39 rfl (lv_at hl 0 rfl) ?_
  refine va_get (D := D) (ci := 12) (v := .ref m1) (C := "MatrixScripts") (T := T_Ms) (N := 3) hx hb hT in_Ms hown hK hP 2 rfl rfl 1 (by decide) (hT _ tw_740) (fun _ h9 => h9) rfl d_Ms_feed_40 ?_
  refine lv_iload_n hx hb d_Ms_feed_43 rfl (lv_at hl 3 rfl) ?_
  have hP : va_P D vC ([(m1, .inr (9, [.ref t0, .int 8, .int t2, .int t3, .int t4])), (t0, .inl (g 0, 64, .inl u36))] ++ ([(h0, .inr (12, [.ref m0, .ref m1, .ref m2]))] ++ ([] : va_W))) H := hP
  have hD : va_D A ([(m1, .inr (9, [.ref t0, .int 8, .int t2, .int t3, .int t4])), (t0, .inl (g 0, 64, .inl u36))] ++ ([(h0, .inr (12, [.ref m0, .ref m1, .ref m2]))] ++ ([] : va_W))) := hD
  have hFc := pm_free hD hS hA
  refine va_callv (va_runV (As := [.int n3]) (rest := []) ⟨hx, hb, hml, hown, hT⟩ (c_Tape_put_8 l D g m1 t0 t2 t3 t4 u36 n3 H.size) (cwV 1 hT (gdV tw_2057 tw_2058 tw_2059 tw_156 tw_2060) rfl rfl rfl (by decide +kernel) ⟨Nat.le_of_ble_eq_true rfl, Nat.le_of_ble_eq_true rfl⟩) (cp_V (C := "MatrixScripts$Tape") (T := T_Tape) (N := 5) (ci := 9) hP hK hD hN rfl) rfl rfl hl.1 rfl (lv_room (Nat.le_of_ble_eq_true rfl)) d_Ms_feed_44 ⟨Nat.le_of_ble_eq_true rfl, Nat.le_of_ble_eq_true rfl⟩) hS (fun q _ h => hFc q h) hFc (fun u44 t H1 locs ht1 hvm hw hB hz1 hk1 hS => ?_)
  obtain ⟨hP1, hD1⟩ := hB
  rw [ht1] at hP1
  obtain ⟨hP, hD⟩ := pm_join hP hD hk1 hFc hP1 hD1
  generalize H1 = H at hP hS ⊢
  have hw44 := hw
  have hP : va_P D vC ([(m1, .inr (9, [.ref t0, .int 12, .int t2, .int t3, .int t4])), (t0, .inl (g 0, 64, .inl u44)), (h0, .inr (12, [.ref m0, .ref m1, .ref m2]))] ++ ([] : va_W)) H := hP
  have hD : va_D A ([(m1, .inr (9, [.ref t0, .int 12, .int t2, .int t3, .int t4])), (t0, .inl (g 0, 64, .inl u44)), (h0, .inr (12, [.ref m0, .ref m1, .ref m2]))] ++ ([] : va_W)) := hD
  refine lv_aload_n hx hb d_Ms_feed_47 rfl (lv_at hl 0 rfl) ?_
  refine va_get (D := D) (ci := 12) (v := .ref m1) (C := "MatrixScripts") (T := T_Ms) (N := 3) hx hb hT in_Ms hown hK hP 2 rfl rfl 1 (by decide) (hT _ tw_740) (fun _ h9 => h9) rfl d_Ms_feed_48 ?_
  refine lv_iload hx hb d_Ms_feed_51 (lv_at hl 4 rfl) ?_
  have hP : va_P D vC ([(m1, .inr (9, [.ref t0, .int 12, .int t2, .int t3, .int t4])), (t0, .inl (g 0, 64, .inl u44))] ++ ([(h0, .inr (12, [.ref m0, .ref m1, .ref m2]))] ++ ([] : va_W))) H := hP
  have hD : va_D A ([(m1, .inr (9, [.ref t0, .int 12, .int t2, .int t3, .int t4])), (t0, .inl (g 0, 64, .inl u44))] ++ ([(h0, .inr (12, [.ref m0, .ref m1, .ref m2]))] ++ ([] : va_W))) := hD
  have hFc := pm_free hD hS hA
  refine va_callv (va_runV (As := [.int n4]) (rest := []) ⟨hx, hb, hml, hown, hT⟩ (c_Tape_put_12 l D g m1 t0 t2 t3 t4 u44 n4 H.size) (cwV 1 hT (gdV tw_2057 tw_2058 tw_2059 tw_156 tw_2060) rfl rfl rfl (by decide +kernel) ⟨Nat.le_of_ble_eq_true rfl, Nat.le_of_ble_eq_true rfl⟩) (cp_V (C := "MatrixScripts$Tape") (T := T_Tape) (N := 5) (ci := 9) hP hK hD hN rfl) rfl rfl hl.1 rfl (lv_room (Nat.le_of_ble_eq_true rfl)) d_Ms_feed_53 ⟨Nat.le_of_ble_eq_true rfl, Nat.le_of_ble_eq_true rfl⟩) hS (fun q _ h => hFc q h) hFc (fun u53 t H1 locs ht1 hvm hw hB hz1 hk1 hS => ?_)
  obtain ⟨hP1, hD1⟩ := hB
  rw [ht1] at hP1
  obtain ⟨hP, hD⟩ := pm_join hP hD hk1 hFc hP1 hD1
  generalize H1 = H at hP hS ⊢
  have hw53 := hw
  have hP : va_P D vC ([(m1, .inr (9, [.ref t0, .int 16, .int t2, .int t3, .int t4])), (t0, .inl (g 0, 64, .inl u53)), (h0, .inr (12, [.ref m0, .ref m1, .ref m2]))] ++ ([] : va_W)) H := hP
  have hD : va_D A ([(m1, .inr (9, [.ref t0, .int 16, .int t2, .int t3, .int t4])), (t0, .inl (g 0, 64, .inl u53)), (h0, .inr (12, [.ref m0, .ref m1, .ref m2]))] ++ ([] : va_W)) := hD
  refine lv_aload_n hx hb d_Ms_feed_56 rfl (lv_at hl 0 rfl) ?_
  refine va_get (D := D) (ci := 12) (v := .ref m1) (C := "MatrixScripts") (T := T_Ms) (N := 3) hx hb hT in_Ms hown hK hP 2 rfl rfl 1 (by decide) (hT _ tw_740) (fun _ h9 => h9) rfl d_Ms_feed_57 ?_
  refine lv_iload hx hb d_Ms_feed_60 (lv_at hl 5 rfl) ?_
  have hP : va_P D vC ([(m1, .inr (9, [.ref t0, .int 16, .int t2, .int t3, .int t4])), (t0, .inl (g 0, 64, .inl u53))] ++ ([(h0, .inr (12, [.ref m0, .ref m1, .ref m2]))] ++ ([] : va_W))) H := hP
  have hD : va_D A ([(m1, .inr (9, [.ref t0, .int 16, .int t2, .int t3, .int t4])), (t0, .inl (g 0, 64, .inl u53))] ++ ([(h0, .inr (12, [.ref m0, .ref m1, .ref m2]))] ++ ([] : va_W))) := hD
  have hFc := pm_free hD hS hA
  refine va_callv (va_runV (As := [.int n5]) (rest := []) ⟨hx, hb, hml, hown, hT⟩ (c_Tape_put_16 l D g m1 t0 t2 t3 t4 u53 n5 H.size) (cwV 1 hT (gdV tw_2057 tw_2058 tw_2059 tw_156 tw_2060) rfl rfl rfl (by decide +kernel) ⟨Nat.le_of_ble_eq_true rfl, Nat.le_of_ble_eq_true rfl⟩) (cp_V (C := "MatrixScripts$Tape") (T := T_Tape) (N := 5) (ci := 9) hP hK hD hN rfl) rfl rfl hl.1 rfl (lv_room (Nat.le_of_ble_eq_true rfl)) d_Ms_feed_62 ⟨Nat.le_of_ble_eq_true rfl, Nat.le_of_ble_eq_true rfl⟩) hS (fun q _ h => hFc q h) hFc (fun u62 t H1 locs ht1 hvm hw hB hz1 hk1 hS => ?_)
  obtain ⟨hP1, hD1⟩ := hB
  rw [ht1] at hP1
  obtain ⟨hP, hD⟩ := pm_join hP hD hk1 hFc hP1 hD1
  generalize H1 = H at hP hS ⊢
  have hw62 := hw
  have hP : va_P D vC ([(m1, .inr (9, [.ref t0, .int 20, .int t2, .int t3, .int t4])), (t0, .inl (g 0, 64, .inl u62)), (h0, .inr (12, [.ref m0, .ref m1, .ref m2]))] ++ ([] : va_W)) H := hP
  have hD : va_D A ([(m1, .inr (9, [.ref t0, .int 20, .int t2, .int t3, .int t4])), (t0, .inl (g 0, 64, .inl u62)), (h0, .inr (12, [.ref m0, .ref m1, .ref m2]))] ++ ([] : va_W)) := hD
  refine lv_aload_n hx hb d_Ms_feed_65 rfl (lv_at hl 0 rfl) ?_
  refine va_get (D := D) (ci := 12) (v := .ref m1) (C := "MatrixScripts") (T := T_Ms) (N := 3) hx hb hT in_Ms hown hK hP 2 rfl rfl 1 (by decide) (hT _ tw_740) (fun _ h9 => h9) rfl d_Ms_feed_66 ?_
  refine va_get (D := D) (ci := 9) (v := .int 20) (C := "MatrixScripts$Tape") (T := T_Tape) (N := 5) hx hb hT in_Tape hown hK hP 0 rfl rfl 1 (by decide) (hT _ tw_214) (fun _ h9 => h9) rfl d_Ms_feed_69 ?_
  have hP9 := pm_subP (a' := [(h0, .inr (12, [.ref m0, .ref m1, .ref m2])), (m1, .inr (9, [.ref t0, .int 20, .int t2, .int t3, .int t4])), (t0, .inl (g 0, 64, .inl u62))]) hP [2, 0, 1] rfl
  have hD9 := pm_subD (a' := [(h0, .inr (12, [.ref m0, .ref m1, .ref m2])), (m1, .inr (9, [.ref t0, .int 20, .int t2, .int t3, .int t4])), (t0, .inl (g 0, 64, .inl u62))]) hD [2, 0, 1] (by decide) rfl
  refine W.widen (k := 0) (n := 0) (Nat.le_of_ble_eq_true rfl) (Nat.le_of_ble_eq_true rfl) ?_
  exact W.iret (v := 20) hx hb hr (fun t ht1 hW => ⟨⟨_, u62, rfl, rfl, by rw [ht1]; exact hP9, hD9⟩, hS.F ht1⟩) hS.2.2 d_Ms_feed_72
def w_Mdl_feed : List Cond := .code ⟨"MatrixScriptsModel", "feed", "(IIIII)I"⟩ prog_17_method_61_code 9 (some .int) :: wd_all
theorem gd_Mdl_feed : GoodIn wd_all w_Mdl_feed := gd_of tw_2334
set_option maxHeartbeats 4000000 in
set_option maxRecDepth 100000 in
theorem c_Mdl_feed_e (l : Launch) (D : va_G) (g : Nat → ClassId) (h0 : Nat) (m0 : Int32) (m1 : Nat) (m3 : Nat) (m4 : Nat) (m5 : Nat) (m6 : Nat) (m7 : Nat) (m8 : Nat) (m9 : Nat) (m10 : Nat) (m11 : Nat) (m12 : Int32) (m13 : Int32) (m14 : Int32) (m15 : Nat) (m16 : Int32) (m17 : Int32) (m18 : Int32) (m19 : Int32) (m20 : Int32) (m21 : Int32) (m22 : Int32) (m23 : Int32) (m24 : Int32) (m25 : Int32) (m26 : Int32) (m27 : Int64) (m28 : Int32) (m29 : Int32) (m30 : Nat) (m31 : Nat) (m32 : Int32) (m33 : Int32) (m34 : Int32) (m35 : Int32) (m36 : Nat) (af : Nat → Int32) (n1 : Int32) (n2 : Int32) (n3 : Int32) (n4 : Int32) (n5 : Int32) (sz : Nat) : Met l ⟨"MatrixScriptsModel", "feed", "(IIIII)I"⟩ w_Mdl_feed { frames := 0, cells := 0, slots := 0, locals := 0 } (cp D g [.ref h0, .int n1, .int n2, .int n3, .int n4, .int n5] [(h0, .inr (16, [.int m0, .ref m1, .int 0, .ref m3, .ref m4, .ref m5, .ref m6, .ref m7, .ref m8, .ref m9, .ref m10, .ref m11, .int m12, .int m13, .int m14, .ref m15, .int m16, .int m17, .int m18, .int m19, .int m20, .int m21, .int m22, .int m23, .int m24, .int m25, .int m26, .long m27, .int m28, .int m29, .ref m30, .ref m31, .int m32, .int m33, .int m34, .int m35, .ref m36])), (m1, .inl (g 2, 65536, .inl af))] sz) (ci D (va_A [(h0, .inr (16, [.int m0, .ref m1, .int 0, .ref m3, .ref m4, .ref m5, .ref m6, .ref m7, .ref m8, .ref m9, .ref m10, .ref m11, .int m12, .int m13, .int m14, .ref m15, .int m16, .int m17, .int m18, .int m19, .int m20, .int m21, .int m22, .int m23, .int m24, .int m25, .int m26, .long m27, .int m28, .int m29, .ref m30, .ref m31, .int m32, .int m33, .int m34, .int m35, .ref m36])), (m1, .inl (g 2, 65536, .inl af))] sz) (fun r _ => r = 20) (fun u : Nat → Int32 => [(h0, .inr (16, [.int 0, .ref m1, .int 20, .ref m3, .ref m4, .ref m5, .ref m6, .ref m7, .ref m8, .ref m9, .ref m10, .ref m11, .int m12, .int m13, .int m14, .ref m15, .int m16, .int m17, .int m18, .int m19, .int m20, .int m21, .int m22, .int m23, .int m24, .int m25, .int m26, .long m27, .int m28, .int m29, .ref m30, .ref m31, .int m32, .int m33, .int m34, .int m35, .ref m36])), (m1, .inl (g 2, 65536, .inl u))])) 0 0 (va_A [(h0, .inr (16, [.int m0, .ref m1, .int 0, .ref m3, .ref m4, .ref m5, .ref m6, .ref m7, .ref m8, .ref m9, .ref m10, .ref m11, .int m12, .int m13, .int m14, .ref m15, .int m16, .int m17, .int m18, .int m19, .int m20, .int m21, .int m22, .int m23, .int m24, .int m25, .int m26, .long m27, .int m28, .int m29, .ref m30, .ref m31, .int m32, .int m33, .int m34, .int m35, .ref m36])), (m1, .inl (g 2, 65536, .inl af))] sz) := by
  refine Met.ofW (cc := prog_17_method_61_code) (maxL := 9) (ret := (some .int)) (by decide) rfl ?_
  intro p e s m args below meth c s₁ B0 hml hv
  obtain ⟨rfl, hsz, hP, hK, hD0, hN⟩ := hv
  have hx := B0.exec
  have hb := B0.bytes
  have hr := B0.returns
  have hts := atoms_spec (ws := w_Mdl_feed) B0.pre
  have hT := fun (w : Cond) (h : w ∈ wd_all) => hts w (List.mem_cons_of_mem _ h)
  have hown : s.vm.findClass "MatrixScriptsModel" = some m.cls := findClass_of_methodNamed B0.named
  have hlocks := B0.notSynchronized
  subst hsz
  have hD := hD0.self (sz := s.heap.size)
  generalize hAe : va_A [(h0, .inr (16, [.int m0, .ref m1, .int 0, .ref m3, .ref m4, .ref m5, .ref m6, .ref m7, .ref m8, .ref m9, .ref m10, .ref m11, .int m12, .int m13, .int m14, .ref m15, .int m16, .int m17, .int m18, .int m19, .int m20, .int m21, .int m22, .int m23, .int m24, .int m25, .int m26, .long m27, .int m28, .int m29, .ref m30, .ref m31, .int m32, .int m33, .int m34, .int m35, .ref m36])), (m1, .inl (g 2, 65536, .inl af))] s.heap.size = A at hD ⊢
  have hA : ∀ q : Nat, s.heap.size ≤ q → A q := fun q h => by rw [← hAe]; exact Or.inr h
  have hS : va_S A s.heap s.heap [] := va_S.rf
  have hP : va_P D vC ([(h0, .inr (16, [.int m0, .ref m1, .int 0, .ref m3, .ref m4, .ref m5, .ref m6, .ref m7, .ref m8, .ref m9, .ref m10, .ref m11, .int m12, .int m13, .int m14, .ref m15, .int m16, .int m17, .int m18, .int m19, .int m20, .int m21, .int m22, .int m23, .int m24, .int m25, .int m26, .long m27, .int m28, .int m29, .ref m30, .ref m31, .int m32, .int m33, .int m34, .int m35, .ref m36])), (m1, .inl (g 2, 65536, .inl af))] ++ ([] : va_W)) s.heap := hP
  have hD : va_D A ([(h0, .inr (16, [.int m0, .ref m1, .int 0, .ref m3, .ref m4, .ref m5, .ref m6, .ref m7, .ref m8, .ref m9, .ref m10, .ref m11, .int m12, .int m13, .int m14, .ref m15, .int m16, .int m17, .int m18, .int m19, .int m20, .int m21, .int m22, .int m23, .int m24, .int m25, .int m26, .long m27, .int m28, .int m29, .ref m30, .ref m31, .int m32, .int m33, .int m34, .int m35, .ref m36])), (m1, .inl (g 2, 65536, .inl af))] ++ ([] : va_W)) := hD
  have hl := lv_entry ([.ref h0, .int n1, .int n2, .int n3, .int n4, .int n5]) (n := 9) (Nat.le_of_ble_eq_true rfl)
  rw [lg_entry_eq]
  generalize (lg_sl ([.ref h0, .int n1, .int n2, .int n3, .int n4, .int n5]) ++ List.replicate (9 - (lg_sl ([.ref h0, .int n1, .int n2, .int n3, .int n4, .int n5])).length) Slot.unset).toArray = ls at hl ⊢
  have hl : lv_has ls 9 [(0, .ref h0), (1, .int n1), (2, .int n2), (3, .int n3), (4, .int n4), (5, .int n5)] := hl
  refine lv_aload_n hx hb d_Mdl_feed_0 rfl (lv_at hl 0 rfl) ?_
  refine lv_aload_n hx hb d_Mdl_feed_1 rfl (lv_at hl 0 rfl) ?_
  refine va_get (D := D) (ci := 16) (v := .int 0) (C := "MatrixScriptsModel") (T := T_Mdl) (N := 37) hx hb hT in_Mdl hown hK hP 0 rfl rfl 2 (by decide) (hT _ tw_2217) (fun _ h9 => h9) rfl d_Mdl_feed_2 ?_
  refine lv_bipush (v := 20) hx hb d_Mdl_feed_5 (by decide) ?_
  refine lv_iadd hx hb d_Mdl_feed_7 ?_
  refine lv_topi (fun v7 ev7 => ?_)
  obtain rfl : v7 = 20 := ev7.trans (by decide)
  refine lv_ldc (v := 65536) hx hb hown (hT _ tw_2108) d_Mdl_feed_8 ?_
  refine lv_icmp_le (tgt := 17) hx hb d_Mdl_feed_10 (by decide) (fun c10 => ?_) (fun c10 => absurd (by decide) c10)
  refine lv_iconst (v := 0) hx hb d_Mdl_feed_17 (by decide) ?_
  refine va_put (D := D) (ci := 16) (v := .int 0) (ty := .int) (C := "MatrixScriptsModel") (T := T_Mdl) (N := 37) hx hb hT in_Mdl ty_Mdl ty_Mdl_ok nm_Mdl hown hK hP hD hS 0 rfl rfl 0 (by decide) (hT _ tw_2215) (fun _ h9 => h9) rfl (by decide +kernel) rfl rfl (Nat.le_of_ble_eq_true rfl) d_Mdl_feed_18 (fun H locs hP hD hS => ?_)
  have hP : va_P D vC ([(h0, .inr (16, [.int 0, .ref m1, .int 0, .ref m3, .ref m4, .ref m5, .ref m6, .ref m7, .ref m8, .ref m9, .ref m10, .ref m11, .int m12, .int m13, .int m14, .ref m15, .int m16, .int m17, .int m18, .int m19, .int m20, .int m21, .int m22, .int m23, .int m24, .int m25, .int m26, .long m27, .int m28, .int m29, .ref m30, .ref m31, .int m32, .int m33, .int m34, .int m35, .ref m36])), (m1, .inl (g 2, 65536, .inl af))] ++ ([] : va_W)) H := hP
  have hD : va_D A ([(h0, .inr (16, [.int 0, .ref m1, .int 0, .ref m3, .ref m4, .ref m5, .ref m6, .ref m7, .ref m8, .ref m9, .ref m10, .ref m11, .int m12, .int m13, .int m14, .ref m15, .int m16, .int m17, .int m18, .int m19, .int m20, .int m21, .int m22, .int m23, .int m24, .int m25, .int m26, .long m27, .int m28, .int m29, .ref m30, .ref m31, .int m32, .int m33, .int m34, .int m35, .ref m36])), (m1, .inl (g 2, 65536, .inl af))] ++ ([] : va_W)) := hD
  refine lv_aload_n hx hb d_Mdl_feed_21 rfl (lv_at hl 0 rfl) ?_
  refine va_get (D := D) (ci := 16) (v := .int 0) (C := "MatrixScriptsModel") (T := T_Mdl) (N := 37) hx hb hT in_Mdl hown hK hP 0 rfl rfl 0 (by decide) (hT _ tw_2215) (fun _ h9 => h9) rfl d_Mdl_feed_22 ?_
  refine lv_if_le (tgt := 30) hx hb d_Mdl_feed_25 (by decide) (fun c25 => ?_) (fun c25 => absurd (by decide) c25)
  refine lv_iconst (v := 0) hx hb d_Mdl_feed_30 (by decide) ?_
  refine lv_istore (lv' := [(6, .int 0), (0, .ref h0), (1, .int n1), (2, .int n2), (3, .int n3), (4, .int n4), (5, .int n5)]) hx hb d_Mdl_feed_31 hl (by decide) rfl (fun ls hl => ?_)
  refine lv_iload hx hb d_Mdl_feed_33 (lv_at hl 0 rfl) ?_
  refine lv_iconst (v := 5) hx hb d_Mdl_feed_35 (by decide) ?_
  refine lv_icmp_ge (tgt := 129) hx hb d_Mdl_feed_36 (by decide) (fun c36 => absurd c36 (by decide)) (fun c36 => ?_)
  refine lv_iload hx hb d_Mdl_feed_39 (lv_at hl 0 rfl) ?_
  refine lv_if_ne (tgt := 48) hx hb d_Mdl_feed_41 (by decide) (fun c41 => absurd (by decide) c41) (fun c41 => ?_)
  refine lv_iload_n hx hb d_Mdl_feed_44 rfl (lv_at hl 2 rfl) ?_
  refine lv_goto (tgt := 81) hx hb d_Mdl_feed_45 (by decide) ?_
  refine lv_istore (lv' := [(7, .int n1), (6, .int 0), (0, .ref h0), (1, .int n1), (2, .int n2), (3, .int n3), (4, .int n4), (5, .int n5)]) hx hb d_Mdl_feed_81 hl (by decide) rfl (fun ls hl => ?_)
  refine lv_bipush (v := 24) hx hb d_Mdl_feed_83 (by decide) ?_
  refine lv_istore (lv' := [(8, .int 24), (7, .int n1), (6, .int 0), (0, .ref h0), (1, .int n1), (2, .int n2), (3, .int n3), (4, .int n4), (5, .int n5)]) hx hb d_Mdl_feed_85 hl (by decide) rfl (fun ls hl => ?_)
  refine lv_iload hx hb d_Mdl_feed_87 (lv_at hl 0 rfl) ?_
  refine lv_if_lt (tgt := 123) hx hb d_Mdl_feed_89 (by decide) (fun c89 => absurd c89 (by decide)) (fun c89 => ?_)
  refine lv_aload_n hx hb d_Mdl_feed_92 rfl (lv_at hl 3 rfl) ?_
  refine va_get (D := D) (ci := 16) (v := .ref m1) (C := "MatrixScriptsModel") (T := T_Mdl) (N := 37) hx hb hT in_Mdl hown hK hP 0 rfl rfl 1 (by decide) (hT _ tw_2216) (fun _ h9 => h9) rfl d_Mdl_feed_93 ?_
  refine lv_aload_n hx hb d_Mdl_feed_96 rfl (lv_at hl 3 rfl) ?_
  refine va_get (D := D) (ci := 16) (v := .int 0) (C := "MatrixScriptsModel") (T := T_Mdl) (N := 37) hx hb hT in_Mdl hown hK hP 0 rfl rfl 2 (by decide) (hT _ tw_2217) (fun _ h9 => h9) rfl d_Mdl_feed_97 ?_
  refine lv_iload hx hb d_Mdl_feed_100 (lv_at hl 1 rfl) ?_
  refine lv_iload hx hb d_Mdl_feed_102 (lv_at hl 0 rfl) ?_
  refine lv_ishr hx hb d_Mdl_feed_104 ?_
  refine lv_topi (fun v104 ev104 => ?_)
  refine lv_i2b hx hb d_Mdl_feed_105 rfl ?_
  refine lv_topi (fun v105 ev105 => ?_)
  refine va_bast hx hb hK hP hD hS 1 2 rfl rfl (i := 0) (x := v105) (by unfold vp_in; decide) d_Mdl_feed_106 (fun H locs hP hD hS => ?_)
  have hP : va_P D vC ([(h0, .inr (16, [.int 0, .ref m1, .int 0, .ref m3, .ref m4, .ref m5, .ref m6, .ref m7, .ref m8, .ref m9, .ref m10, .ref m11, .int m12, .int m13, .int m14, .ref m15, .int m16, .int m17, .int m18, .int m19, .int m20, .int m21, .int m22, .int m23, .int m24, .int m25, .int m26, .long m27, .int m28, .int m29, .ref m30, .ref m31, .int m32, .int m33, .int m34, .int m35, .ref m36])), (m1, .inl (g 2, 65536, .inl (upd af 0 (vp_nar .byte v105))))] ++ ([] : va_W)) H := hP
  have hD : va_D A ([(h0, .inr (16, [.int 0, .ref m1, .int 0, .ref m3, .ref m4, .ref m5, .ref m6, .ref m7, .ref m8, .ref m9, .ref m10, .ref m11, .int m12, .int m13, .int m14, .ref m15, .int m16, .int m17, .int m18, .int m19, .int m20, .int m21, .int m22, .int m23, .int m24, .int m25, .int m26, .long m27, .int m28, .int m29, .ref m30, .ref m31, .int m32, .int m33, .int m34, .int m35, .ref m36])), (m1, .inl (g 2, 65536, .inl (upd af 0 (vp_nar .byte v105))))] ++ ([] : va_W)) := hD
  generalize upd af 0 (vp_nar .byte v105) = f106 at hP hD
  refine lv_aload_n hx hb d_Mdl_feed_107 rfl (lv_at hl 3 rfl) ?_
  refine lv_dup hx hb d_Mdl_feed_108 rfl ?_
  refine va_get (D := D) (ci := 16) (v := .int 0) (C := "MatrixScriptsModel") (T := T_Mdl) (N := 37) hx hb hT in_Mdl hown hK hP 0 rfl rfl 2 (by decide) (hT _ tw_2217) (fun _ h9 => h9) rfl d_Mdl_feed_109 ?_
  refine lv_iconst (v := 1) hx hb d_Mdl_feed_112 (by decide) ?_
  refine lv_iadd hx hb d_Mdl_feed_113 ?_
  refine lv_topi (fun v113 ev113 => ?_)
  obtain rfl : v113 = 1 := ev113.trans (by decide)
  refine va_put (D := D) (ci := 16) (v := .int 1) (ty := .int) (C := "MatrixScriptsModel") (T := T_Mdl) (N := 37) hx hb hT in_Mdl ty_Mdl ty_Mdl_ok nm_Mdl hown hK hP hD hS 0 rfl rfl 2 (by decide) (hT _ tw_2217) (fun _ h9 => h9) rfl (by decide +kernel) rfl rfl (Nat.le_of_ble_eq_true rfl) d_Mdl_feed_114 (fun H locs hP hD hS => ?_)
  have hP : va_P D vC ([(h0, .inr (16, [.int 0, .ref m1, .int 1, .ref m3, .ref m4, .ref m5, .ref m6, .ref m7, .ref m8, .ref m9, .ref m10, .ref m11, .int m12, .int m13, .int m14, .ref m15, .int m16, .int m17, .int m18, .int m19, .int m20, .int m21, .int m22, .int m23, .int m24, .int m25, .int m26, .long m27, .int m28, .int m29, .ref m30, .ref m31, .int m32, .int m33, .int m34, .int m35, .ref m36])), (m1, .inl (g 2, 65536, .inl f106))] ++ ([] : va_W)) H := hP
  have hD : va_D A ([(h0, .inr (16, [.int 0, .ref m1, .int 1, .ref m3, .ref m4, .ref m5, .ref m6, .ref m7, .ref m8, .ref m9, .ref m10, .ref m11, .int m12, .int m13, .int m14, .ref m15, .int m16, .int m17, .int m18, .int m19, .int m20, .int m21, .int m22, .int m23, .int m24, .int m25, .int m26, .long m27, .int m28, .int m29, .ref m30, .ref m31, .int m32, .int m33, .int m34, .int m35, .ref m36])), (m1, .inl (g 2, 65536, .inl f106))] ++ ([] : va_W)) := hD
  refine lv_iinc (v := 16) (lv' := [(8, .int 16), (7, .int n1), (6, .int 0), (0, .ref h0), (1, .int n1), (2, .int n2), (3, .int n3), (4, .int n4), (5, .int n5)]) hx hb d_Mdl_feed_117 hl (k := 0) rfl (by decide) (by decide) rfl (fun ls hl => ?_)
  refine lv_goto (tgt := 87) hx hb d_Mdl_feed_120 (by decide) ?_
  refine lv_iload hx hb d_Mdl_feed_87 (lv_at hl 0 rfl) ?_
  refine lv_if_lt (tgt := 123) hx hb d_Mdl_feed_89 (by decide) (fun c89 => absurd c89 (by decide)) (fun c89 => ?_)
  refine lv_aload_n hx hb d_Mdl_feed_92 rfl (lv_at hl 3 rfl) ?_
  refine va_get (D := D) (ci := 16) (v := .ref m1) (C := "MatrixScriptsModel") (T := T_Mdl) (N := 37) hx hb hT in_Mdl hown hK hP 0 rfl rfl 1 (by decide) (hT _ tw_2216) (fun _ h9 => h9) rfl d_Mdl_feed_93 ?_
  refine lv_aload_n hx hb d_Mdl_feed_96 rfl (lv_at hl 3 rfl) ?_
  refine va_get (D := D) (ci := 16) (v := .int 1) (C := "MatrixScriptsModel") (T := T_Mdl) (N := 37) hx hb hT in_Mdl hown hK hP 0 rfl rfl 2 (by decide) (hT _ tw_2217) (fun _ h9 => h9) rfl d_Mdl_feed_97 ?_
  refine lv_iload hx hb d_Mdl_feed_100 (lv_at hl 1 rfl) ?_
  refine lv_iload hx hb d_Mdl_feed_102 (lv_at hl 0 rfl) ?_
  refine lv_ishr hx hb d_Mdl_feed_104 ?_
  refine lv_topi (fun v104_1 ev104_1 => ?_)
  refine lv_i2b hx hb d_Mdl_feed_105 rfl ?_
  refine lv_topi (fun v105_1 ev105_1 => ?_)
  refine va_bast hx hb hK hP hD hS 1 2 rfl rfl (i := 1) (x := v105_1) (by unfold vp_in; decide) d_Mdl_feed_106 (fun H locs hP hD hS => ?_)
  have hP : va_P D vC ([(h0, .inr (16, [.int 0, .ref m1, .int 1, .ref m3, .ref m4, .ref m5, .ref m6, .ref m7, .ref m8, .ref m9, .ref m10, .ref m11, .int m12, .int m13, .int m14, .ref m15, .int m16, .int m17, .int m18, .int m19, .int m20, .int m21, .int m22, .int m23, .int m24, .int m25, .int m26, .long m27, .int m28, .int m29, .ref m30, .ref m31, .int m32, .int m33, .int m34, .int m35, .ref m36])), (m1, .inl (g 2, 65536, .inl (upd f106 1 (vp_nar .byte v105_1))))] ++ ([] : va_W)) H := hP
  have hD : va_D A ([(h0, .inr (16, [.int 0, .ref m1, .int 1, .ref m3, .ref m4, .ref m5, .ref m6, .ref m7, .ref m8, .ref m9, .ref m10, .ref m11, .int m12, .int m13, .int m14, .ref m15, .int m16, .int m17, .int m18, .int m19, .int m20, .int m21, .int m22, .int m23, .int m24, .int m25, .int m26, .long m27, .int m28, .int m29, .ref m30, .ref m31, .int m32, .int m33, .int m34, .int m35, .ref m36])), (m1, .inl (g 2, 65536, .inl (upd f106 1 (vp_nar .byte v105_1))))] ++ ([] : va_W)) := hD
  generalize upd f106 1 (vp_nar .byte v105_1) = f106_1 at hP hD
  refine lv_aload_n hx hb d_Mdl_feed_107 rfl (lv_at hl 3 rfl) ?_
  refine lv_dup hx hb d_Mdl_feed_108 rfl ?_
  refine va_get (D := D) (ci := 16) (v := .int 1) (C := "MatrixScriptsModel") (T := T_Mdl) (N := 37) hx hb hT in_Mdl hown hK hP 0 rfl rfl 2 (by decide) (hT _ tw_2217) (fun _ h9 => h9) rfl d_Mdl_feed_109 ?_
  refine lv_iconst (v := 1) hx hb d_Mdl_feed_112 (by decide) ?_
  refine lv_iadd hx hb d_Mdl_feed_113 ?_
  refine lv_topi (fun v113_1 ev113_1 => ?_)
  obtain rfl : v113_1 = 2 := ev113_1.trans (by decide)
  refine va_put (D := D) (ci := 16) (v := .int 2) (ty := .int) (C := "MatrixScriptsModel") (T := T_Mdl) (N := 37) hx hb hT in_Mdl ty_Mdl ty_Mdl_ok nm_Mdl hown hK hP hD hS 0 rfl rfl 2 (by decide) (hT _ tw_2217) (fun _ h9 => h9) rfl (by decide +kernel) rfl rfl (Nat.le_of_ble_eq_true rfl) d_Mdl_feed_114 (fun H locs hP hD hS => ?_)
  have hP : va_P D vC ([(h0, .inr (16, [.int 0, .ref m1, .int 2, .ref m3, .ref m4, .ref m5, .ref m6, .ref m7, .ref m8, .ref m9, .ref m10, .ref m11, .int m12, .int m13, .int m14, .ref m15, .int m16, .int m17, .int m18, .int m19, .int m20, .int m21, .int m22, .int m23, .int m24, .int m25, .int m26, .long m27, .int m28, .int m29, .ref m30, .ref m31, .int m32, .int m33, .int m34, .int m35, .ref m36])), (m1, .inl (g 2, 65536, .inl f106_1))] ++ ([] : va_W)) H := hP
  have hD : va_D A ([(h0, .inr (16, [.int 0, .ref m1, .int 2, .ref m3, .ref m4, .ref m5, .ref m6, .ref m7, .ref m8, .ref m9, .ref m10, .ref m11, .int m12, .int m13, .int m14, .ref m15, .int m16, .int m17, .int m18, .int m19, .int m20, .int m21, .int m22, .int m23, .int m24, .int m25, .int m26, .long m27, .int m28, .int m29, .ref m30, .ref m31, .int m32, .int m33, .int m34, .int m35, .ref m36])), (m1, .inl (g 2, 65536, .inl f106_1))] ++ ([] : va_W)) := hD
  refine lv_iinc (v := 8) (lv' := [(8, .int 8), (7, .int n1), (6, .int 0), (0, .ref h0), (1, .int n1), (2, .int n2), (3, .int n3), (4, .int n4), (5, .int n5)]) hx hb d_Mdl_feed_117 hl (k := 0) rfl (by decide) (by decide) rfl (fun ls hl => ?_)
  refine lv_goto (tgt := 87) hx hb d_Mdl_feed_120 (by decide) ?_
  refine lv_iload hx hb d_Mdl_feed_87 (lv_at hl 0 rfl) ?_
  refine lv_if_lt (tgt := 123) hx hb d_Mdl_feed_89 (by decide) (fun c89 => absurd c89 (by decide)) (fun c89 => ?_)
  refine lv_aload_n hx hb d_Mdl_feed_92 rfl (lv_at hl 3 rfl) ?_
  refine va_get (D := D) (ci := 16) (v := .ref m1) (C := "MatrixScriptsModel") (T := T_Mdl) (N := 37) hx hb hT in_Mdl hown hK hP 0 rfl rfl 1 (by decide) (hT _ tw_2216) (fun _ h9 => h9) rfl d_Mdl_feed_93 ?_
  refine lv_aload_n hx hb d_Mdl_feed_96 rfl (lv_at hl 3 rfl) ?_
  refine va_get (D := D) (ci := 16) (v := .int 2) (C := "MatrixScriptsModel") (T := T_Mdl) (N := 37) hx hb hT in_Mdl hown hK hP 0 rfl rfl 2 (by decide) (hT _ tw_2217) (fun _ h9 => h9) rfl d_Mdl_feed_97 ?_
  refine lv_iload hx hb d_Mdl_feed_100 (lv_at hl 1 rfl) ?_
  refine lv_iload hx hb d_Mdl_feed_102 (lv_at hl 0 rfl) ?_
  refine lv_ishr hx hb d_Mdl_feed_104 ?_
  refine lv_topi (fun v104_2 ev104_2 => ?_)
  refine lv_i2b hx hb d_Mdl_feed_105 rfl ?_
  refine lv_topi (fun v105_2 ev105_2 => ?_)
  refine va_bast hx hb hK hP hD hS 1 2 rfl rfl (i := 2) (x := v105_2) (by unfold vp_in; decide) d_Mdl_feed_106 (fun H locs hP hD hS => ?_)
  have hP : va_P D vC ([(h0, .inr (16, [.int 0, .ref m1, .int 2, .ref m3, .ref m4, .ref m5, .ref m6, .ref m7, .ref m8, .ref m9, .ref m10, .ref m11, .int m12, .int m13, .int m14, .ref m15, .int m16, .int m17, .int m18, .int m19, .int m20, .int m21, .int m22, .int m23, .int m24, .int m25, .int m26, .long m27, .int m28, .int m29, .ref m30, .ref m31, .int m32, .int m33, .int m34, .int m35, .ref m36])), (m1, .inl (g 2, 65536, .inl (upd f106_1 2 (vp_nar .byte v105_2))))] ++ ([] : va_W)) H := hP
  have hD : va_D A ([(h0, .inr (16, [.int 0, .ref m1, .int 2, .ref m3, .ref m4, .ref m5, .ref m6, .ref m7, .ref m8, .ref m9, .ref m10, .ref m11, .int m12, .int m13, .int m14, .ref m15, .int m16, .int m17, .int m18, .int m19, .int m20, .int m21, .int m22, .int m23, .int m24, .int m25, .int m26, .long m27, .int m28, .int m29, .ref m30, .ref m31, .int m32, .int m33, .int m34, .int m35, .ref m36])), (m1, .inl (g 2, 65536, .inl (upd f106_1 2 (vp_nar .byte v105_2))))] ++ ([] : va_W)) := hD
  generalize upd f106_1 2 (vp_nar .byte v105_2) = f106_2 at hP hD
  refine lv_aload_n hx hb d_Mdl_feed_107 rfl (lv_at hl 3 rfl) ?_
  refine lv_dup hx hb d_Mdl_feed_108 rfl ?_
  refine va_get (D := D) (ci := 16) (v := .int 2) (C := "MatrixScriptsModel") (T := T_Mdl) (N := 37) hx hb hT in_Mdl hown hK hP 0 rfl rfl 2 (by decide) (hT _ tw_2217) (fun _ h9 => h9) rfl d_Mdl_feed_109 ?_
  refine lv_iconst (v := 1) hx hb d_Mdl_feed_112 (by decide) ?_
  refine lv_iadd hx hb d_Mdl_feed_113 ?_
  refine lv_topi (fun v113_2 ev113_2 => ?_)
  obtain rfl : v113_2 = 3 := ev113_2.trans (by decide)
  refine va_put (D := D) (ci := 16) (v := .int 3) (ty := .int) (C := "MatrixScriptsModel") (T := T_Mdl) (N := 37) hx hb hT in_Mdl ty_Mdl ty_Mdl_ok nm_Mdl hown hK hP hD hS 0 rfl rfl 2 (by decide) (hT _ tw_2217) (fun _ h9 => h9) rfl (by decide +kernel) rfl rfl (Nat.le_of_ble_eq_true rfl) d_Mdl_feed_114 (fun H locs hP hD hS => ?_)
  have hP : va_P D vC ([(h0, .inr (16, [.int 0, .ref m1, .int 3, .ref m3, .ref m4, .ref m5, .ref m6, .ref m7, .ref m8, .ref m9, .ref m10, .ref m11, .int m12, .int m13, .int m14, .ref m15, .int m16, .int m17, .int m18, .int m19, .int m20, .int m21, .int m22, .int m23, .int m24, .int m25, .int m26, .long m27, .int m28, .int m29, .ref m30, .ref m31, .int m32, .int m33, .int m34, .int m35, .ref m36])), (m1, .inl (g 2, 65536, .inl f106_2))] ++ ([] : va_W)) H := hP
  have hD : va_D A ([(h0, .inr (16, [.int 0, .ref m1, .int 3, .ref m3, .ref m4, .ref m5, .ref m6, .ref m7, .ref m8, .ref m9, .ref m10, .ref m11, .int m12, .int m13, .int m14, .ref m15, .int m16, .int m17, .int m18, .int m19, .int m20, .int m21, .int m22, .int m23, .int m24, .int m25, .int m26, .long m27, .int m28, .int m29, .ref m30, .ref m31, .int m32, .int m33, .int m34, .int m35, .ref m36])), (m1, .inl (g 2, 65536, .inl f106_2))] ++ ([] : va_W)) := hD
  refine lv_iinc (v := 0) (lv' := [(8, .int 0), (7, .int n1), (6, .int 0), (0, .ref h0), (1, .int n1), (2, .int n2), (3, .int n3), (4, .int n4), (5, .int n5)]) hx hb d_Mdl_feed_117 hl (k := 0) rfl (by decide) (by decide) rfl (fun ls hl => ?_)
  refine lv_goto (tgt := 87) hx hb d_Mdl_feed_120 (by decide) ?_
  refine lv_iload hx hb d_Mdl_feed_87 (lv_at hl 0 rfl) ?_
  refine lv_if_lt (tgt := 123) hx hb d_Mdl_feed_89 (by decide) (fun c89 => absurd c89 (by decide)) (fun c89 => ?_)
  refine lv_aload_n hx hb d_Mdl_feed_92 rfl (lv_at hl 3 rfl) ?_
  refine va_get (D := D) (ci := 16) (v := .ref m1) (C := "MatrixScriptsModel") (T := T_Mdl) (N := 37) hx hb hT in_Mdl hown hK hP 0 rfl rfl 1 (by decide) (hT _ tw_2216) (fun _ h9 => h9) rfl d_Mdl_feed_93 ?_
  refine lv_aload_n hx hb d_Mdl_feed_96 rfl (lv_at hl 3 rfl) ?_
  refine va_get (D := D) (ci := 16) (v := .int 3) (C := "MatrixScriptsModel") (T := T_Mdl) (N := 37) hx hb hT in_Mdl hown hK hP 0 rfl rfl 2 (by decide) (hT _ tw_2217) (fun _ h9 => h9) rfl d_Mdl_feed_97 ?_
  refine lv_iload hx hb d_Mdl_feed_100 (lv_at hl 1 rfl) ?_
  refine lv_iload hx hb d_Mdl_feed_102 (lv_at hl 0 rfl) ?_
  refine lv_ishr hx hb d_Mdl_feed_104 ?_
  refine lv_topi (fun v104_3 ev104_3 => ?_)
  refine lv_i2b hx hb d_Mdl_feed_105 rfl ?_
  refine lv_topi (fun v105_3 ev105_3 => ?_)
  refine va_bast hx hb hK hP hD hS 1 2 rfl rfl (i := 3) (x := v105_3) (by unfold vp_in; decide) d_Mdl_feed_106 (fun H locs hP hD hS => ?_)
  have hP : va_P D vC ([(h0, .inr (16, [.int 0, .ref m1, .int 3, .ref m3, .ref m4, .ref m5, .ref m6, .ref m7, .ref m8, .ref m9, .ref m10, .ref m11, .int m12, .int m13, .int m14, .ref m15, .int m16, .int m17, .int m18, .int m19, .int m20, .int m21, .int m22, .int m23, .int m24, .int m25, .int m26, .long m27, .int m28, .int m29, .ref m30, .ref m31, .int m32, .int m33, .int m34, .int m35, .ref m36])), (m1, .inl (g 2, 65536, .inl (upd f106_2 3 (vp_nar .byte v105_3))))] ++ ([] : va_W)) H := hP
  have hD : va_D A ([(h0, .inr (16, [.int 0, .ref m1, .int 3, .ref m3, .ref m4, .ref m5, .ref m6, .ref m7, .ref m8, .ref m9, .ref m10, .ref m11, .int m12, .int m13, .int m14, .ref m15, .int m16, .int m17, .int m18, .int m19, .int m20, .int m21, .int m22, .int m23, .int m24, .int m25, .int m26, .long m27, .int m28, .int m29, .ref m30, .ref m31, .int m32, .int m33, .int m34, .int m35, .ref m36])), (m1, .inl (g 2, 65536, .inl (upd f106_2 3 (vp_nar .byte v105_3))))] ++ ([] : va_W)) := hD
  generalize upd f106_2 3 (vp_nar .byte v105_3) = f106_3 at hP hD
  refine lv_aload_n hx hb d_Mdl_feed_107 rfl (lv_at hl 3 rfl) ?_
  refine lv_dup hx hb d_Mdl_feed_108 rfl ?_
  refine va_get (D := D) (ci := 16) (v := .int 3) (C := "MatrixScriptsModel") (T := T_Mdl) (N := 37) hx hb hT in_Mdl hown hK hP 0 rfl rfl 2 (by decide) (hT _ tw_2217) (fun _ h9 => h9) rfl d_Mdl_feed_109 ?_
  refine lv_iconst (v := 1) hx hb d_Mdl_feed_112 (by decide) ?_
  refine lv_iadd hx hb d_Mdl_feed_113 ?_
  refine lv_topi (fun v113_3 ev113_3 => ?_)
  obtain rfl : v113_3 = 4 := ev113_3.trans (by decide)
  refine va_put (D := D) (ci := 16) (v := .int 4) (ty := .int) (C := "MatrixScriptsModel") (T := T_Mdl) (N := 37) hx hb hT in_Mdl ty_Mdl ty_Mdl_ok nm_Mdl hown hK hP hD hS 0 rfl rfl 2 (by decide) (hT _ tw_2217) (fun _ h9 => h9) rfl (by decide +kernel) rfl rfl (Nat.le_of_ble_eq_true rfl) d_Mdl_feed_114 (fun H locs hP hD hS => ?_)
  have hP : va_P D vC ([(h0, .inr (16, [.int 0, .ref m1, .int 4, .ref m3, .ref m4, .ref m5, .ref m6, .ref m7, .ref m8, .ref m9, .ref m10, .ref m11, .int m12, .int m13, .int m14, .ref m15, .int m16, .int m17, .int m18, .int m19, .int m20, .int m21, .int m22, .int m23, .int m24, .int m25, .int m26, .long m27, .int m28, .int m29, .ref m30, .ref m31, .int m32, .int m33, .int m34, .int m35, .ref m36])), (m1, .inl (g 2, 65536, .inl f106_3))] ++ ([] : va_W)) H := hP
  have hD : va_D A ([(h0, .inr (16, [.int 0, .ref m1, .int 4, .ref m3, .ref m4, .ref m5, .ref m6, .ref m7, .ref m8, .ref m9, .ref m10, .ref m11, .int m12, .int m13, .int m14, .ref m15, .int m16, .int m17, .int m18, .int m19, .int m20, .int m21, .int m22, .int m23, .int m24, .int m25, .int m26, .long m27, .int m28, .int m29, .ref m30, .ref m31, .int m32, .int m33, .int m34, .int m35, .ref m36])), (m1, .inl (g 2, 65536, .inl f106_3))] ++ ([] : va_W)) := hD
  refine lv_iinc (v := (-8)) (lv' := [(8, .int (-8)), (7, .int n1), (6, .int 0), (0, .ref h0), (1, .int n1), (2, .int n2), (3, .int n3), (4, .int n4), (5, .int n5)]) hx hb d_Mdl_feed_117 hl (k := 0) rfl (by decide) (by decide) rfl (fun ls hl => ?_)
  refine lv_goto (tgt := 87) hx hb d_Mdl_feed_120 (by decide) ?_
  refine lv_iload hx hb d_Mdl_feed_87 (lv_at hl 0 rfl) ?_
  refine lv_if_lt (tgt := 123) hx hb d_Mdl_feed_89 (by decide) (fun c89 => ?_) (fun c89 => absurd (by decide) c89)
  refine lv_iinc (v := 1) (lv' := [(6, .int 1), (8, .int (-8)), (7, .int n1), (0, .ref h0), (1, .int n1), (2, .int n2), (3, .int n3), (4, .int n4), (5, .int n5)]) hx hb d_Mdl_feed_123 hl (k := 2) rfl (by decide) (by decide) rfl (fun ls hl => ?_)
  refine lv_goto (tgt := 33) hx hb d_Mdl_feed_126 (by decide) ?_
  refine lv_iload hx hb d_Mdl_feed_33 (lv_at hl 0 rfl) ?_
  refine lv_iconst (v := 5) hx hb d_Mdl_feed_35 (by decide) ?_
  refine lv_icmp_ge (tgt := 129) hx hb d_Mdl_feed_36 (by decide) (fun c36 => absurd c36 (by decide)) (fun c36 => ?_)
  refine lv_iload hx hb d_Mdl_feed_39 (lv_at hl 0 rfl) ?_
  refine lv_if_ne (tgt := 48) hx hb d_Mdl_feed_41 (by decide) (fun c41 => ?_) (fun c41 => absurd c41 (by decide))
  refine lv_iload hx hb d_Mdl_feed_48 (lv_at hl 0 rfl) ?_
  refine lv_iconst (v := 1) hx hb d_Mdl_feed_50 (by decide) ?_
  refine lv_icmp_ne (tgt := 58) hx hb d_Mdl_feed_51 (by decide) (fun c51 => absurd (by decide) c51) (fun c51 => ?_)
  refine lv_iload_n hx hb d_Mdl_feed_54 rfl (lv_at hl 5 rfl) ?_
  refine lv_goto (tgt := 81) hx hb d_Mdl_feed_55 (by decide) ?_
  refine lv_istore (lv' := [(7, .int n2), (6, .int 1), (8, .int (-8)), (0, .ref h0), (1, .int n1), (2, .int n2), (3, .int n3), (4, .int n4), (5, .int n5)]) hx hb d_Mdl_feed_81 hl (by decide) rfl (fun ls hl => ?_)
  refine lv_bipush (v := 24) hx hb d_Mdl_feed_83 (by decide) ?_
  refine lv_istore (lv' := [(8, .int 24), (7, .int n2), (6, .int 1), (0, .ref h0), (1, .int n1), (2, .int n2), (3, .int n3), (4, .int n4), (5, .int n5)]) hx hb d_Mdl_feed_85 hl (by decide) rfl (fun ls hl => ?_)
  refine lv_iload hx hb d_Mdl_feed_87 (lv_at hl 0 rfl) ?_
  refine lv_if_lt (tgt := 123) hx hb d_Mdl_feed_89 (by decide) (fun c89 => absurd c89 (by decide)) (fun c89 => ?_)
  refine lv_aload_n hx hb d_Mdl_feed_92 rfl (lv_at hl 3 rfl) ?_
  refine va_get (D := D) (ci := 16) (v := .ref m1) (C := "MatrixScriptsModel") (T := T_Mdl) (N := 37) hx hb hT in_Mdl hown hK hP 0 rfl rfl 1 (by decide) (hT _ tw_2216) (fun _ h9 => h9) rfl d_Mdl_feed_93 ?_
  refine lv_aload_n hx hb d_Mdl_feed_96 rfl (lv_at hl 3 rfl) ?_
  refine va_get (D := D) (ci := 16) (v := .int 4) (C := "MatrixScriptsModel") (T := T_Mdl) (N := 37) hx hb hT in_Mdl hown hK hP 0 rfl rfl 2 (by decide) (hT _ tw_2217) (fun _ h9 => h9) rfl d_Mdl_feed_97 ?_
  refine lv_iload hx hb d_Mdl_feed_100 (lv_at hl 1 rfl) ?_
  refine lv_iload hx hb d_Mdl_feed_102 (lv_at hl 0 rfl) ?_
  refine lv_ishr hx hb d_Mdl_feed_104 ?_
  refine lv_topi (fun v104_4 ev104_4 => ?_)
  refine lv_i2b hx hb d_Mdl_feed_105 rfl ?_
  refine lv_topi (fun v105_4 ev105_4 => ?_)
  refine va_bast hx hb hK hP hD hS 1 2 rfl rfl (i := 4) (x := v105_4) (by unfold vp_in; decide) d_Mdl_feed_106 (fun H locs hP hD hS => ?_)
  have hP : va_P D vC ([(h0, .inr (16, [.int 0, .ref m1, .int 4, .ref m3, .ref m4, .ref m5, .ref m6, .ref m7, .ref m8, .ref m9, .ref m10, .ref m11, .int m12, .int m13, .int m14, .ref m15, .int m16, .int m17, .int m18, .int m19, .int m20, .int m21, .int m22, .int m23, .int m24, .int m25, .int m26, .long m27, .int m28, .int m29, .ref m30, .ref m31, .int m32, .int m33, .int m34, .int m35, .ref m36])), (m1, .inl (g 2, 65536, .inl (upd f106_3 4 (vp_nar .byte v105_4))))] ++ ([] : va_W)) H := hP
  have hD : va_D A ([(h0, .inr (16, [.int 0, .ref m1, .int 4, .ref m3, .ref m4, .ref m5, .ref m6, .ref m7, .ref m8, .ref m9, .ref m10, .ref m11, .int m12, .int m13, .int m14, .ref m15, .int m16, .int m17, .int m18, .int m19, .int m20, .int m21, .int m22, .int m23, .int m24, .int m25, .int m26, .long m27, .int m28, .int m29, .ref m30, .ref m31, .int m32, .int m33, .int m34, .int m35, .ref m36])), (m1, .inl (g 2, 65536, .inl (upd f106_3 4 (vp_nar .byte v105_4))))] ++ ([] : va_W)) := hD
  generalize upd f106_3 4 (vp_nar .byte v105_4) = f106_4 at hP hD
  refine lv_aload_n hx hb d_Mdl_feed_107 rfl (lv_at hl 3 rfl) ?_
  refine lv_dup hx hb d_Mdl_feed_108 rfl ?_
  refine va_get (D := D) (ci := 16) (v := .int 4) (C := "MatrixScriptsModel") (T := T_Mdl) (N := 37) hx hb hT in_Mdl hown hK hP 0 rfl rfl 2 (by decide) (hT _ tw_2217) (fun _ h9 => h9) rfl d_Mdl_feed_109 ?_
  refine lv_iconst (v := 1) hx hb d_Mdl_feed_112 (by decide) ?_
  refine lv_iadd hx hb d_Mdl_feed_113 ?_
  refine lv_topi (fun v113_4 ev113_4 => ?_)
  obtain rfl : v113_4 = 5 := ev113_4.trans (by decide)
  refine va_put (D := D) (ci := 16) (v := .int 5) (ty := .int) (C := "MatrixScriptsModel") (T := T_Mdl) (N := 37) hx hb hT in_Mdl ty_Mdl ty_Mdl_ok nm_Mdl hown hK hP hD hS 0 rfl rfl 2 (by decide) (hT _ tw_2217) (fun _ h9 => h9) rfl (by decide +kernel) rfl rfl (Nat.le_of_ble_eq_true rfl) d_Mdl_feed_114 (fun H locs hP hD hS => ?_)
  have hP : va_P D vC ([(h0, .inr (16, [.int 0, .ref m1, .int 5, .ref m3, .ref m4, .ref m5, .ref m6, .ref m7, .ref m8, .ref m9, .ref m10, .ref m11, .int m12, .int m13, .int m14, .ref m15, .int m16, .int m17, .int m18, .int m19, .int m20, .int m21, .int m22, .int m23, .int m24, .int m25, .int m26, .long m27, .int m28, .int m29, .ref m30, .ref m31, .int m32, .int m33, .int m34, .int m35, .ref m36])), (m1, .inl (g 2, 65536, .inl f106_4))] ++ ([] : va_W)) H := hP
  have hD : va_D A ([(h0, .inr (16, [.int 0, .ref m1, .int 5, .ref m3, .ref m4, .ref m5, .ref m6, .ref m7, .ref m8, .ref m9, .ref m10, .ref m11, .int m12, .int m13, .int m14, .ref m15, .int m16, .int m17, .int m18, .int m19, .int m20, .int m21, .int m22, .int m23, .int m24, .int m25, .int m26, .long m27, .int m28, .int m29, .ref m30, .ref m31, .int m32, .int m33, .int m34, .int m35, .ref m36])), (m1, .inl (g 2, 65536, .inl f106_4))] ++ ([] : va_W)) := hD
  refine lv_iinc (v := 16) (lv' := [(8, .int 16), (7, .int n2), (6, .int 1), (0, .ref h0), (1, .int n1), (2, .int n2), (3, .int n3), (4, .int n4), (5, .int n5)]) hx hb d_Mdl_feed_117 hl (k := 0) rfl (by decide) (by decide) rfl (fun ls hl => ?_)
  refine lv_goto (tgt := 87) hx hb d_Mdl_feed_120 (by decide) ?_
  refine lv_iload hx hb d_Mdl_feed_87 (lv_at hl 0 rfl) ?_
  refine lv_if_lt (tgt := 123) hx hb d_Mdl_feed_89 (by decide) (fun c89 => absurd c89 (by decide)) (fun c89 => ?_)
  refine lv_aload_n hx hb d_Mdl_feed_92 rfl (lv_at hl 3 rfl) ?_
  refine va_get (D := D) (ci := 16) (v := .ref m1) (C := "MatrixScriptsModel") (T := T_Mdl) (N := 37) hx hb hT in_Mdl hown hK hP 0 rfl rfl 1 (by decide) (hT _ tw_2216) (fun _ h9 => h9) rfl d_Mdl_feed_93 ?_
  refine lv_aload_n hx hb d_Mdl_feed_96 rfl (lv_at hl 3 rfl) ?_
  refine va_get (D := D) (ci := 16) (v := .int 5) (C := "MatrixScriptsModel") (T := T_Mdl) (N := 37) hx hb hT in_Mdl hown hK hP 0 rfl rfl 2 (by decide) (hT _ tw_2217) (fun _ h9 => h9) rfl d_Mdl_feed_97 ?_
  refine lv_iload hx hb d_Mdl_feed_100 (lv_at hl 1 rfl) ?_
  refine lv_iload hx hb d_Mdl_feed_102 (lv_at hl 0 rfl) ?_
  refine lv_ishr hx hb d_Mdl_feed_104 ?_
  refine lv_topi (fun v104_5 ev104_5 => ?_)
  refine lv_i2b hx hb d_Mdl_feed_105 rfl ?_
  refine lv_topi (fun v105_5 ev105_5 => ?_)
  refine va_bast hx hb hK hP hD hS 1 2 rfl rfl (i := 5) (x := v105_5) (by unfold vp_in; decide) d_Mdl_feed_106 (fun H locs hP hD hS => ?_)
  have hP : va_P D vC ([(h0, .inr (16, [.int 0, .ref m1, .int 5, .ref m3, .ref m4, .ref m5, .ref m6, .ref m7, .ref m8, .ref m9, .ref m10, .ref m11, .int m12, .int m13, .int m14, .ref m15, .int m16, .int m17, .int m18, .int m19, .int m20, .int m21, .int m22, .int m23, .int m24, .int m25, .int m26, .long m27, .int m28, .int m29, .ref m30, .ref m31, .int m32, .int m33, .int m34, .int m35, .ref m36])), (m1, .inl (g 2, 65536, .inl (upd f106_4 5 (vp_nar .byte v105_5))))] ++ ([] : va_W)) H := hP
  have hD : va_D A ([(h0, .inr (16, [.int 0, .ref m1, .int 5, .ref m3, .ref m4, .ref m5, .ref m6, .ref m7, .ref m8, .ref m9, .ref m10, .ref m11, .int m12, .int m13, .int m14, .ref m15, .int m16, .int m17, .int m18, .int m19, .int m20, .int m21, .int m22, .int m23, .int m24, .int m25, .int m26, .long m27, .int m28, .int m29, .ref m30, .ref m31, .int m32, .int m33, .int m34, .int m35, .ref m36])), (m1, .inl (g 2, 65536, .inl (upd f106_4 5 (vp_nar .byte v105_5))))] ++ ([] : va_W)) := hD
  generalize upd f106_4 5 (vp_nar .byte v105_5) = f106_5 at hP hD
  refine lv_aload_n hx hb d_Mdl_feed_107 rfl (lv_at hl 3 rfl) ?_
  refine lv_dup hx hb d_Mdl_feed_108 rfl ?_
  refine va_get (D := D) (ci := 16) (v := .int 5) (C := "MatrixScriptsModel") (T := T_Mdl) (N := 37) hx hb hT in_Mdl hown hK hP 0 rfl rfl 2 (by decide) (hT _ tw_2217) (fun _ h9 => h9) rfl d_Mdl_feed_109 ?_
  refine lv_iconst (v := 1) hx hb d_Mdl_feed_112 (by decide) ?_
  refine lv_iadd hx hb d_Mdl_feed_113 ?_
  refine lv_topi (fun v113_5 ev113_5 => ?_)
  obtain rfl : v113_5 = 6 := ev113_5.trans (by decide)
  refine va_put (D := D) (ci := 16) (v := .int 6) (ty := .int) (C := "MatrixScriptsModel") (T := T_Mdl) (N := 37) hx hb hT in_Mdl ty_Mdl ty_Mdl_ok nm_Mdl hown hK hP hD hS 0 rfl rfl 2 (by decide) (hT _ tw_2217) (fun _ h9 => h9) rfl (by decide +kernel) rfl rfl (Nat.le_of_ble_eq_true rfl) d_Mdl_feed_114 (fun H locs hP hD hS => ?_)
  have hP : va_P D vC ([(h0, .inr (16, [.int 0, .ref m1, .int 6, .ref m3, .ref m4, .ref m5, .ref m6, .ref m7, .ref m8, .ref m9, .ref m10, .ref m11, .int m12, .int m13, .int m14, .ref m15, .int m16, .int m17, .int m18, .int m19, .int m20, .int m21, .int m22, .int m23, .int m24, .int m25, .int m26, .long m27, .int m28, .int m29, .ref m30, .ref m31, .int m32, .int m33, .int m34, .int m35, .ref m36])), (m1, .inl (g 2, 65536, .inl f106_5))] ++ ([] : va_W)) H := hP
  have hD : va_D A ([(h0, .inr (16, [.int 0, .ref m1, .int 6, .ref m3, .ref m4, .ref m5, .ref m6, .ref m7, .ref m8, .ref m9, .ref m10, .ref m11, .int m12, .int m13, .int m14, .ref m15, .int m16, .int m17, .int m18, .int m19, .int m20, .int m21, .int m22, .int m23, .int m24, .int m25, .int m26, .long m27, .int m28, .int m29, .ref m30, .ref m31, .int m32, .int m33, .int m34, .int m35, .ref m36])), (m1, .inl (g 2, 65536, .inl f106_5))] ++ ([] : va_W)) := hD
  refine lv_iinc (v := 8) (lv' := [(8, .int 8), (7, .int n2), (6, .int 1), (0, .ref h0), (1, .int n1), (2, .int n2), (3, .int n3), (4, .int n4), (5, .int n5)]) hx hb d_Mdl_feed_117 hl (k := 0) rfl (by decide) (by decide) rfl (fun ls hl => ?_)
  refine lv_goto (tgt := 87) hx hb d_Mdl_feed_120 (by decide) ?_
  refine lv_iload hx hb d_Mdl_feed_87 (lv_at hl 0 rfl) ?_
  refine lv_if_lt (tgt := 123) hx hb d_Mdl_feed_89 (by decide) (fun c89 => absurd c89 (by decide)) (fun c89 => ?_)
  refine lv_aload_n hx hb d_Mdl_feed_92 rfl (lv_at hl 3 rfl) ?_
  refine va_get (D := D) (ci := 16) (v := .ref m1) (C := "MatrixScriptsModel") (T := T_Mdl) (N := 37) hx hb hT in_Mdl hown hK hP 0 rfl rfl 1 (by decide) (hT _ tw_2216) (fun _ h9 => h9) rfl d_Mdl_feed_93 ?_
  refine lv_aload_n hx hb d_Mdl_feed_96 rfl (lv_at hl 3 rfl) ?_
  refine va_get (D := D) (ci := 16) (v := .int 6) (C := "MatrixScriptsModel") (T := T_Mdl) (N := 37) hx hb hT in_Mdl hown hK hP 0 rfl rfl 2 (by decide) (hT _ tw_2217) (fun _ h9 => h9) rfl d_Mdl_feed_97 ?_
  refine lv_iload hx hb d_Mdl_feed_100 (lv_at hl 1 rfl) ?_
  refine lv_iload hx hb d_Mdl_feed_102 (lv_at hl 0 rfl) ?_
  refine lv_ishr hx hb d_Mdl_feed_104 ?_
  refine lv_topi (fun v104_6 ev104_6 => ?_)
  refine lv_i2b hx hb d_Mdl_feed_105 rfl ?_
  refine lv_topi (fun v105_6 ev105_6 => ?_)
  refine va_bast hx hb hK hP hD hS 1 2 rfl rfl (i := 6) (x := v105_6) (by unfold vp_in; decide) d_Mdl_feed_106 (fun H locs hP hD hS => ?_)
  have hP : va_P D vC ([(h0, .inr (16, [.int 0, .ref m1, .int 6, .ref m3, .ref m4, .ref m5, .ref m6, .ref m7, .ref m8, .ref m9, .ref m10, .ref m11, .int m12, .int m13, .int m14, .ref m15, .int m16, .int m17, .int m18, .int m19, .int m20, .int m21, .int m22, .int m23, .int m24, .int m25, .int m26, .long m27, .int m28, .int m29, .ref m30, .ref m31, .int m32, .int m33, .int m34, .int m35, .ref m36])), (m1, .inl (g 2, 65536, .inl (upd f106_5 6 (vp_nar .byte v105_6))))] ++ ([] : va_W)) H := hP
  have hD : va_D A ([(h0, .inr (16, [.int 0, .ref m1, .int 6, .ref m3, .ref m4, .ref m5, .ref m6, .ref m7, .ref m8, .ref m9, .ref m10, .ref m11, .int m12, .int m13, .int m14, .ref m15, .int m16, .int m17, .int m18, .int m19, .int m20, .int m21, .int m22, .int m23, .int m24, .int m25, .int m26, .long m27, .int m28, .int m29, .ref m30, .ref m31, .int m32, .int m33, .int m34, .int m35, .ref m36])), (m1, .inl (g 2, 65536, .inl (upd f106_5 6 (vp_nar .byte v105_6))))] ++ ([] : va_W)) := hD
  generalize upd f106_5 6 (vp_nar .byte v105_6) = f106_6 at hP hD
  refine lv_aload_n hx hb d_Mdl_feed_107 rfl (lv_at hl 3 rfl) ?_
  refine lv_dup hx hb d_Mdl_feed_108 rfl ?_
  refine va_get (D := D) (ci := 16) (v := .int 6) (C := "MatrixScriptsModel") (T := T_Mdl) (N := 37) hx hb hT in_Mdl hown hK hP 0 rfl rfl 2 (by decide) (hT _ tw_2217) (fun _ h9 => h9) rfl d_Mdl_feed_109 ?_
  refine lv_iconst (v := 1) hx hb d_Mdl_feed_112 (by decide) ?_
  refine lv_iadd hx hb d_Mdl_feed_113 ?_
  refine lv_topi (fun v113_6 ev113_6 => ?_)
  obtain rfl : v113_6 = 7 := ev113_6.trans (by decide)
  refine va_put (D := D) (ci := 16) (v := .int 7) (ty := .int) (C := "MatrixScriptsModel") (T := T_Mdl) (N := 37) hx hb hT in_Mdl ty_Mdl ty_Mdl_ok nm_Mdl hown hK hP hD hS 0 rfl rfl 2 (by decide) (hT _ tw_2217) (fun _ h9 => h9) rfl (by decide +kernel) rfl rfl (Nat.le_of_ble_eq_true rfl) d_Mdl_feed_114 (fun H locs hP hD hS => ?_)
  have hP : va_P D vC ([(h0, .inr (16, [.int 0, .ref m1, .int 7, .ref m3, .ref m4, .ref m5, .ref m6, .ref m7, .ref m8, .ref m9, .ref m10, .ref m11, .int m12, .int m13, .int m14, .ref m15, .int m16, .int m17, .int m18, .int m19, .int m20, .int m21, .int m22, .int m23, .int m24, .int m25, .int m26, .long m27, .int m28, .int m29, .ref m30, .ref m31, .int m32, .int m33, .int m34, .int m35, .ref m36])), (m1, .inl (g 2, 65536, .inl f106_6))] ++ ([] : va_W)) H := hP
  have hD : va_D A ([(h0, .inr (16, [.int 0, .ref m1, .int 7, .ref m3, .ref m4, .ref m5, .ref m6, .ref m7, .ref m8, .ref m9, .ref m10, .ref m11, .int m12, .int m13, .int m14, .ref m15, .int m16, .int m17, .int m18, .int m19, .int m20, .int m21, .int m22, .int m23, .int m24, .int m25, .int m26, .long m27, .int m28, .int m29, .ref m30, .ref m31, .int m32, .int m33, .int m34, .int m35, .ref m36])), (m1, .inl (g 2, 65536, .inl f106_6))] ++ ([] : va_W)) := hD
  refine lv_iinc (v := 0) (lv' := [(8, .int 0), (7, .int n2), (6, .int 1), (0, .ref h0), (1, .int n1), (2, .int n2), (3, .int n3), (4, .int n4), (5, .int n5)]) hx hb d_Mdl_feed_117 hl (k := 0) rfl (by decide) (by decide) rfl (fun ls hl => ?_)
  refine lv_goto (tgt := 87) hx hb d_Mdl_feed_120 (by decide) ?_
  refine lv_iload hx hb d_Mdl_feed_87 (lv_at hl 0 rfl) ?_
  refine lv_if_lt (tgt := 123) hx hb d_Mdl_feed_89 (by decide) (fun c89 => absurd c89 (by decide)) (fun c89 => ?_)
  refine lv_aload_n hx hb d_Mdl_feed_92 rfl (lv_at hl 3 rfl) ?_
  refine va_get (D := D) (ci := 16) (v := .ref m1) (C := "MatrixScriptsModel") (T := T_Mdl) (N := 37) hx hb hT in_Mdl hown hK hP 0 rfl rfl 1 (by decide) (hT _ tw_2216) (fun _ h9 => h9) rfl d_Mdl_feed_93 ?_
  refine lv_aload_n hx hb d_Mdl_feed_96 rfl (lv_at hl 3 rfl) ?_
  refine va_get (D := D) (ci := 16) (v := .int 7) (C := "MatrixScriptsModel") (T := T_Mdl) (N := 37) hx hb hT in_Mdl hown hK hP 0 rfl rfl 2 (by decide) (hT _ tw_2217) (fun _ h9 => h9) rfl d_Mdl_feed_97 ?_
  refine lv_iload hx hb d_Mdl_feed_100 (lv_at hl 1 rfl) ?_
  refine lv_iload hx hb d_Mdl_feed_102 (lv_at hl 0 rfl) ?_
  refine lv_ishr hx hb d_Mdl_feed_104 ?_
  refine lv_topi (fun v104_7 ev104_7 => ?_)
  refine lv_i2b hx hb d_Mdl_feed_105 rfl ?_
  refine lv_topi (fun v105_7 ev105_7 => ?_)
  refine va_bast hx hb hK hP hD hS 1 2 rfl rfl (i := 7) (x := v105_7) (by unfold vp_in; decide) d_Mdl_feed_106 (fun H locs hP hD hS => ?_)
  have hP : va_P D vC ([(h0, .inr (16, [.int 0, .ref m1, .int 7, .ref m3, .ref m4, .ref m5, .ref m6, .ref m7, .ref m8, .ref m9, .ref m10, .ref m11, .int m12, .int m13, .int m14, .ref m15, .int m16, .int m17, .int m18, .int m19, .int m20, .int m21, .int m22, .int m23, .int m24, .int m25, .int m26, .long m27, .int m28, .int m29, .ref m30, .ref m31, .int m32, .int m33, .int m34, .int m35, .ref m36])), (m1, .inl (g 2, 65536, .inl (upd f106_6 7 (vp_nar .byte v105_7))))] ++ ([] : va_W)) H := hP
  have hD : va_D A ([(h0, .inr (16, [.int 0, .ref m1, .int 7, .ref m3, .ref m4, .ref m5, .ref m6, .ref m7, .ref m8, .ref m9, .ref m10, .ref m11, .int m12, .int m13, .int m14, .ref m15, .int m16, .int m17, .int m18, .int m19, .int m20, .int m21, .int m22, .int m23, .int m24, .int m25, .int m26, .long m27, .int m28, .int m29, .ref m30, .ref m31, .int m32, .int m33, .int m34, .int m35, .ref m36])), (m1, .inl (g 2, 65536, .inl (upd f106_6 7 (vp_nar .byte v105_7))))] ++ ([] : va_W)) := hD
  generalize upd f106_6 7 (vp_nar .byte v105_7) = f106_7 at hP hD
  refine lv_aload_n hx hb d_Mdl_feed_107 rfl (lv_at hl 3 rfl) ?_
  refine lv_dup hx hb d_Mdl_feed_108 rfl ?_
  refine va_get (D := D) (ci := 16) (v := .int 7) (C := "MatrixScriptsModel") (T := T_Mdl) (N := 37) hx hb hT in_Mdl hown hK hP 0 rfl rfl 2 (by decide) (hT _ tw_2217) (fun _ h9 => h9) rfl d_Mdl_feed_109 ?_
  refine lv_iconst (v := 1) hx hb d_Mdl_feed_112 (by decide) ?_
  refine lv_iadd hx hb d_Mdl_feed_113 ?_
  refine lv_topi (fun v113_7 ev113_7 => ?_)
  obtain rfl : v113_7 = 8 := ev113_7.trans (by decide)
  refine va_put (D := D) (ci := 16) (v := .int 8) (ty := .int) (C := "MatrixScriptsModel") (T := T_Mdl) (N := 37) hx hb hT in_Mdl ty_Mdl ty_Mdl_ok nm_Mdl hown hK hP hD hS 0 rfl rfl 2 (by decide) (hT _ tw_2217) (fun _ h9 => h9) rfl (by decide +kernel) rfl rfl (Nat.le_of_ble_eq_true rfl) d_Mdl_feed_114 (fun H locs hP hD hS => ?_)
  have hP : va_P D vC ([(h0, .inr (16, [.int 0, .ref m1, .int 8, .ref m3, .ref m4, .ref m5, .ref m6, .ref m7, .ref m8, .ref m9, .ref m10, .ref m11, .int m12, .int m13, .int m14, .ref m15, .int m16, .int m17, .int m18, .int m19, .int m20, .int m21, .int m22, .int m23, .int m24, .int m25, .int m26, .long m27, .int m28, .int m29, .ref m30, .ref m31, .int m32, .int m33, .int m34, .int m35, .ref m36])), (m1, .inl (g 2, 65536, .inl f106_7))] ++ ([] : va_W)) H := hP
  have hD : va_D A ([(h0, .inr (16, [.int 0, .ref m1, .int 8, .ref m3, .ref m4, .ref m5, .ref m6, .ref m7, .ref m8, .ref m9, .ref m10, .ref m11, .int m12, .int m13, .int m14, .ref m15, .int m16, .int m17, .int m18, .int m19, .int m20, .int m21, .int m22, .int m23, .int m24, .int m25, .int m26, .long m27, .int m28, .int m29, .ref m30, .ref m31, .int m32, .int m33, .int m34, .int m35, .ref m36])), (m1, .inl (g 2, 65536, .inl f106_7))] ++ ([] : va_W)) := hD
  refine lv_iinc (v := (-8)) (lv' := [(8, .int (-8)), (7, .int n2), (6, .int 1), (0, .ref h0), (1, .int n1), (2, .int n2), (3, .int n3), (4, .int n4), (5, .int n5)]) hx hb d_Mdl_feed_117 hl (k := 0) rfl (by decide) (by decide) rfl (fun ls hl => ?_)
  refine lv_goto (tgt := 87) hx hb d_Mdl_feed_120 (by decide) ?_
  refine lv_iload hx hb d_Mdl_feed_87 (lv_at hl 0 rfl) ?_
  refine lv_if_lt (tgt := 123) hx hb d_Mdl_feed_89 (by decide) (fun c89 => ?_) (fun c89 => absurd (by decide) c89)
  refine lv_iinc (v := 2) (lv' := [(6, .int 2), (8, .int (-8)), (7, .int n2), (0, .ref h0), (1, .int n1), (2, .int n2), (3, .int n3), (4, .int n4), (5, .int n5)]) hx hb d_Mdl_feed_123 hl (k := 2) rfl (by decide) (by decide) rfl (fun ls hl => ?_)
  refine lv_goto (tgt := 33) hx hb d_Mdl_feed_126 (by decide) ?_
  refine lv_iload hx hb d_Mdl_feed_33 (lv_at hl 0 rfl) ?_
  refine lv_iconst (v := 5) hx hb d_Mdl_feed_35 (by decide) ?_
  refine lv_icmp_ge (tgt := 129) hx hb d_Mdl_feed_36 (by decide) (fun c36 => absurd c36 (by decide)) (fun c36 => ?_)
  refine lv_iload hx hb d_Mdl_feed_39 (lv_at hl 0 rfl) ?_
  refine lv_if_ne (tgt := 48) hx hb d_Mdl_feed_41 (by decide) (fun c41 => ?_) (fun c41 => absurd c41 (by decide))
  refine lv_iload hx hb d_Mdl_feed_48 (lv_at hl 0 rfl) ?_
  refine lv_iconst (v := 1) hx hb d_Mdl_feed_50 (by decide) ?_
  refine lv_icmp_ne (tgt := 58) hx hb d_Mdl_feed_51 (by decide) (fun c51 => ?_) (fun c51 => absurd c51 (by decide))
  refine lv_iload hx hb d_Mdl_feed_58 (lv_at hl 0 rfl) ?_
  refine lv_iconst (v := 2) hx hb d_Mdl_feed_60 (by decide) ?_
  refine lv_icmp_ne (tgt := 68) hx hb d_Mdl_feed_61 (by decide) (fun c61 => absurd (by decide) c61) (fun c61 => ?_)
  refine lv_iload_n hx hb d_Mdl_feed_64 rfl (lv_at hl 6 rfl) ?_
  refine lv_goto (tgt := 81) hx hb d_Mdl_feed_65 (by decide) ?_
  refine lv_istore (lv' := [(7, .int n3), (6, .int 2), (8, .int (-8)), (0, .ref h0), (1, .int n1), (2, .int n2), (3, .int n3), (4, .int n4), (5, .int n5)]) hx hb d_Mdl_feed_81 hl (by decide) rfl (fun ls hl => ?_)
  refine lv_bipush (v := 24) hx hb d_Mdl_feed_83 (by decide) ?_
  refine lv_istore (lv' := [(8, .int 24), (7, .int n3), (6, .int 2), (0, .ref h0), (1, .int n1), (2, .int n2), (3, .int n3), (4, .int n4), (5, .int n5)]) hx hb d_Mdl_feed_85 hl (by decide) rfl (fun ls hl => ?_)
  refine lv_iload hx hb d_Mdl_feed_87 (lv_at hl 0 rfl) ?_
  refine lv_if_lt (tgt := 123) hx hb d_Mdl_feed_89 (by decide) (fun c89 => absurd c89 (by decide)) (fun c89 => ?_)
  refine lv_aload_n hx hb d_Mdl_feed_92 rfl (lv_at hl 3 rfl) ?_
  refine va_get (D := D) (ci := 16) (v := .ref m1) (C := "MatrixScriptsModel") (T := T_Mdl) (N := 37) hx hb hT in_Mdl hown hK hP 0 rfl rfl 1 (by decide) (hT _ tw_2216) (fun _ h9 => h9) rfl d_Mdl_feed_93 ?_
  refine lv_aload_n hx hb d_Mdl_feed_96 rfl (lv_at hl 3 rfl) ?_
  refine va_get (D := D) (ci := 16) (v := .int 8) (C := "MatrixScriptsModel") (T := T_Mdl) (N := 37) hx hb hT in_Mdl hown hK hP 0 rfl rfl 2 (by decide) (hT _ tw_2217) (fun _ h9 => h9) rfl d_Mdl_feed_97 ?_
  refine lv_iload hx hb d_Mdl_feed_100 (lv_at hl 1 rfl) ?_
  refine lv_iload hx hb d_Mdl_feed_102 (lv_at hl 0 rfl) ?_
  refine lv_ishr hx hb d_Mdl_feed_104 ?_
  refine lv_topi (fun v104_8 ev104_8 => ?_)
  refine lv_i2b hx hb d_Mdl_feed_105 rfl ?_
  refine lv_topi (fun v105_8 ev105_8 => ?_)
  refine va_bast hx hb hK hP hD hS 1 2 rfl rfl (i := 8) (x := v105_8) (by unfold vp_in; decide) d_Mdl_feed_106 (fun H locs hP hD hS => ?_)
  have hP : va_P D vC ([(h0, .inr (16, [.int 0, .ref m1, .int 8, .ref m3, .ref m4, .ref m5, .ref m6, .ref m7, .ref m8, .ref m9, .ref m10, .ref m11, .int m12, .int m13, .int m14, .ref m15, .int m16, .int m17, .int m18, .int m19, .int m20, .int m21, .int m22, .int m23, .int m24, .int m25, .int m26, .long m27, .int m28, .int m29, .ref m30, .ref m31, .int m32, .int m33, .int m34, .int m35, .ref m36])), (m1, .inl (g 2, 65536, .inl (upd f106_7 8 (vp_nar .byte v105_8))))] ++ ([] : va_W)) H := hP
  have hD : va_D A ([(h0, .inr (16, [.int 0, .ref m1, .int 8, .ref m3, .ref m4, .ref m5, .ref m6, .ref m7, .ref m8, .ref m9, .ref m10, .ref m11, .int m12, .int m13, .int m14, .ref m15, .int m16, .int m17, .int m18, .int m19, .int m20, .int m21, .int m22, .int m23, .int m24, .int m25, .int m26, .long m27, .int m28, .int m29, .ref m30, .ref m31, .int m32, .int m33, .int m34, .int m35, .ref m36])), (m1, .inl (g 2, 65536, .inl (upd f106_7 8 (vp_nar .byte v105_8))))] ++ ([] : va_W)) := hD
  generalize upd f106_7 8 (vp_nar .byte v105_8) = f106_8 at hP hD
  refine lv_aload_n hx hb d_Mdl_feed_107 rfl (lv_at hl 3 rfl) ?_
  refine lv_dup hx hb d_Mdl_feed_108 rfl ?_
  refine va_get (D := D) (ci := 16) (v := .int 8) (C := "MatrixScriptsModel") (T := T_Mdl) (N := 37) hx hb hT in_Mdl hown hK hP 0 rfl rfl 2 (by decide) (hT _ tw_2217) (fun _ h9 => h9) rfl d_Mdl_feed_109 ?_
  refine lv_iconst (v := 1) hx hb d_Mdl_feed_112 (by decide) ?_
  refine lv_iadd hx hb d_Mdl_feed_113 ?_
  refine lv_topi (fun v113_8 ev113_8 => ?_)
  obtain rfl : v113_8 = 9 := ev113_8.trans (by decide)
  refine va_put (D := D) (ci := 16) (v := .int 9) (ty := .int) (C := "MatrixScriptsModel") (T := T_Mdl) (N := 37) hx hb hT in_Mdl ty_Mdl ty_Mdl_ok nm_Mdl hown hK hP hD hS 0 rfl rfl 2 (by decide) (hT _ tw_2217) (fun _ h9 => h9) rfl (by decide +kernel) rfl rfl (Nat.le_of_ble_eq_true rfl) d_Mdl_feed_114 (fun H locs hP hD hS => ?_)
  have hP : va_P D vC ([(h0, .inr (16, [.int 0, .ref m1, .int 9, .ref m3, .ref m4, .ref m5, .ref m6, .ref m7, .ref m8, .ref m9, .ref m10, .ref m11, .int m12, .int m13, .int m14, .ref m15, .int m16, .int m17, .int m18, .int m19, .int m20, .int m21, .int m22, .int m23, .int m24, .int m25, .int m26, .long m27, .int m28, .int m29, .ref m30, .ref m31, .int m32, .int m33, .int m34, .int m35, .ref m36])), (m1, .inl (g 2, 65536, .inl f106_8))] ++ ([] : va_W)) H := hP
  have hD : va_D A ([(h0, .inr (16, [.int 0, .ref m1, .int 9, .ref m3, .ref m4, .ref m5, .ref m6, .ref m7, .ref m8, .ref m9, .ref m10, .ref m11, .int m12, .int m13, .int m14, .ref m15, .int m16, .int m17, .int m18, .int m19, .int m20, .int m21, .int m22, .int m23, .int m24, .int m25, .int m26, .long m27, .int m28, .int m29, .ref m30, .ref m31, .int m32, .int m33, .int m34, .int m35, .ref m36])), (m1, .inl (g 2, 65536, .inl f106_8))] ++ ([] : va_W)) := hD
  refine lv_iinc (v := 16) (lv' := [(8, .int 16), (7, .int n3), (6, .int 2), (0, .ref h0), (1, .int n1), (2, .int n2), (3, .int n3), (4, .int n4), (5, .int n5)]) hx hb d_Mdl_feed_117 hl (k := 0) rfl (by decide) (by decide) rfl (fun ls hl => ?_)
  refine lv_goto (tgt := 87) hx hb d_Mdl_feed_120 (by decide) ?_
  refine lv_iload hx hb d_Mdl_feed_87 (lv_at hl 0 rfl) ?_
  refine lv_if_lt (tgt := 123) hx hb d_Mdl_feed_89 (by decide) (fun c89 => absurd c89 (by decide)) (fun c89 => ?_)
  refine lv_aload_n hx hb d_Mdl_feed_92 rfl (lv_at hl 3 rfl) ?_
  refine va_get (D := D) (ci := 16) (v := .ref m1) (C := "MatrixScriptsModel") (T := T_Mdl) (N := 37) hx hb hT in_Mdl hown hK hP 0 rfl rfl 1 (by decide) (hT _ tw_2216) (fun _ h9 => h9) rfl d_Mdl_feed_93 ?_
  refine lv_aload_n hx hb d_Mdl_feed_96 rfl (lv_at hl 3 rfl) ?_
  refine va_get (D := D) (ci := 16) (v := .int 9) (C := "MatrixScriptsModel") (T := T_Mdl) (N := 37) hx hb hT in_Mdl hown hK hP 0 rfl rfl 2 (by decide) (hT _ tw_2217) (fun _ h9 => h9) rfl d_Mdl_feed_97 ?_
  refine lv_iload hx hb d_Mdl_feed_100 (lv_at hl 1 rfl) ?_
  refine lv_iload hx hb d_Mdl_feed_102 (lv_at hl 0 rfl) ?_
  refine lv_ishr hx hb d_Mdl_feed_104 ?_
  refine lv_topi (fun v104_9 ev104_9 => ?_)
  refine lv_i2b hx hb d_Mdl_feed_105 rfl ?_
  refine lv_topi (fun v105_9 ev105_9 => ?_)
  refine va_bast hx hb hK hP hD hS 1 2 rfl rfl (i := 9) (x := v105_9) (by unfold vp_in; decide) d_Mdl_feed_106 (fun H locs hP hD hS => ?_)
  have hP : va_P D vC ([(h0, .inr (16, [.int 0, .ref m1, .int 9, .ref m3, .ref m4, .ref m5, .ref m6, .ref m7, .ref m8, .ref m9, .ref m10, .ref m11, .int m12, .int m13, .int m14, .ref m15, .int m16, .int m17, .int m18, .int m19, .int m20, .int m21, .int m22, .int m23, .int m24, .int m25, .int m26, .long m27, .int m28, .int m29, .ref m30, .ref m31, .int m32, .int m33, .int m34, .int m35, .ref m36])), (m1, .inl (g 2, 65536, .inl (upd f106_8 9 (vp_nar .byte v105_9))))] ++ ([] : va_W)) H := hP
  have hD : va_D A ([(h0, .inr (16, [.int 0, .ref m1, .int 9, .ref m3, .ref m4, .ref m5, .ref m6, .ref m7, .ref m8, .ref m9, .ref m10, .ref m11, .int m12, .int m13, .int m14, .ref m15, .int m16, .int m17, .int m18, .int m19, .int m20, .int m21, .int m22, .int m23, .int m24, .int m25, .int m26, .long m27, .int m28, .int m29, .ref m30, .ref m31, .int m32, .int m33, .int m34, .int m35, .ref m36])), (m1, .inl (g 2, 65536, .inl (upd f106_8 9 (vp_nar .byte v105_9))))] ++ ([] : va_W)) := hD
  generalize upd f106_8 9 (vp_nar .byte v105_9) = f106_9 at hP hD
  refine lv_aload_n hx hb d_Mdl_feed_107 rfl (lv_at hl 3 rfl) ?_
  refine lv_dup hx hb d_Mdl_feed_108 rfl ?_
  refine va_get (D := D) (ci := 16) (v := .int 9) (C := "MatrixScriptsModel") (T := T_Mdl) (N := 37) hx hb hT in_Mdl hown hK hP 0 rfl rfl 2 (by decide) (hT _ tw_2217) (fun _ h9 => h9) rfl d_Mdl_feed_109 ?_
  refine lv_iconst (v := 1) hx hb d_Mdl_feed_112 (by decide) ?_
  refine lv_iadd hx hb d_Mdl_feed_113 ?_
  refine lv_topi (fun v113_9 ev113_9 => ?_)
  obtain rfl : v113_9 = 10 := ev113_9.trans (by decide)
  refine va_put (D := D) (ci := 16) (v := .int 10) (ty := .int) (C := "MatrixScriptsModel") (T := T_Mdl) (N := 37) hx hb hT in_Mdl ty_Mdl ty_Mdl_ok nm_Mdl hown hK hP hD hS 0 rfl rfl 2 (by decide) (hT _ tw_2217) (fun _ h9 => h9) rfl (by decide +kernel) rfl rfl (Nat.le_of_ble_eq_true rfl) d_Mdl_feed_114 (fun H locs hP hD hS => ?_)
  have hP : va_P D vC ([(h0, .inr (16, [.int 0, .ref m1, .int 10, .ref m3, .ref m4, .ref m5, .ref m6, .ref m7, .ref m8, .ref m9, .ref m10, .ref m11, .int m12, .int m13, .int m14, .ref m15, .int m16, .int m17, .int m18, .int m19, .int m20, .int m21, .int m22, .int m23, .int m24, .int m25, .int m26, .long m27, .int m28, .int m29, .ref m30, .ref m31, .int m32, .int m33, .int m34, .int m35, .ref m36])), (m1, .inl (g 2, 65536, .inl f106_9))] ++ ([] : va_W)) H := hP
  have hD : va_D A ([(h0, .inr (16, [.int 0, .ref m1, .int 10, .ref m3, .ref m4, .ref m5, .ref m6, .ref m7, .ref m8, .ref m9, .ref m10, .ref m11, .int m12, .int m13, .int m14, .ref m15, .int m16, .int m17, .int m18, .int m19, .int m20, .int m21, .int m22, .int m23, .int m24, .int m25, .int m26, .long m27, .int m28, .int m29, .ref m30, .ref m31, .int m32, .int m33, .int m34, .int m35, .ref m36])), (m1, .inl (g 2, 65536, .inl f106_9))] ++ ([] : va_W)) := hD
  refine lv_iinc (v := 8) (lv' := [(8, .int 8), (7, .int n3), (6, .int 2), (0, .ref h0), (1, .int n1), (2, .int n2), (3, .int n3), (4, .int n4), (5, .int n5)]) hx hb d_Mdl_feed_117 hl (k := 0) rfl (by decide) (by decide) rfl (fun ls hl => ?_)
  refine lv_goto (tgt := 87) hx hb d_Mdl_feed_120 (by decide) ?_
  refine lv_iload hx hb d_Mdl_feed_87 (lv_at hl 0 rfl) ?_
  refine lv_if_lt (tgt := 123) hx hb d_Mdl_feed_89 (by decide) (fun c89 => absurd c89 (by decide)) (fun c89 => ?_)
  refine lv_aload_n hx hb d_Mdl_feed_92 rfl (lv_at hl 3 rfl) ?_
  refine va_get (D := D) (ci := 16) (v := .ref m1) (C := "MatrixScriptsModel") (T := T_Mdl) (N := 37) hx hb hT in_Mdl hown hK hP 0 rfl rfl 1 (by decide) (hT _ tw_2216) (fun _ h9 => h9) rfl d_Mdl_feed_93 ?_
  refine lv_aload_n hx hb d_Mdl_feed_96 rfl (lv_at hl 3 rfl) ?_
  refine va_get (D := D) (ci := 16) (v := .int 10) (C := "MatrixScriptsModel") (T := T_Mdl) (N := 37) hx hb hT in_Mdl hown hK hP 0 rfl rfl 2 (by decide) (hT _ tw_2217) (fun _ h9 => h9) rfl d_Mdl_feed_97 ?_
  refine lv_iload hx hb d_Mdl_feed_100 (lv_at hl 1 rfl) ?_
  refine lv_iload hx hb d_Mdl_feed_102 (lv_at hl 0 rfl) ?_
  refine lv_ishr hx hb d_Mdl_feed_104 ?_
  refine lv_topi (fun v104_10 ev104_10 => ?_)
  refine lv_i2b hx hb d_Mdl_feed_105 rfl ?_
  refine lv_topi (fun v105_10 ev105_10 => ?_)
  refine va_bast hx hb hK hP hD hS 1 2 rfl rfl (i := 10) (x := v105_10) (by unfold vp_in; decide) d_Mdl_feed_106 (fun H locs hP hD hS => ?_)
  have hP : va_P D vC ([(h0, .inr (16, [.int 0, .ref m1, .int 10, .ref m3, .ref m4, .ref m5, .ref m6, .ref m7, .ref m8, .ref m9, .ref m10, .ref m11, .int m12, .int m13, .int m14, .ref m15, .int m16, .int m17, .int m18, .int m19, .int m20, .int m21, .int m22, .int m23, .int m24, .int m25, .int m26, .long m27, .int m28, .int m29, .ref m30, .ref m31, .int m32, .int m33, .int m34, .int m35, .ref m36])), (m1, .inl (g 2, 65536, .inl (upd f106_9 10 (vp_nar .byte v105_10))))] ++ ([] : va_W)) H := hP
  have hD : va_D A ([(h0, .inr (16, [.int 0, .ref m1, .int 10, .ref m3, .ref m4, .ref m5, .ref m6, .ref m7, .ref m8, .ref m9, .ref m10, .ref m11, .int m12, .int m13, .int m14, .ref m15, .int m16, .int m17, .int m18, .int m19, .int m20, .int m21, .int m22, .int m23, .int m24, .int m25, .int m26, .long m27, .int m28, .int m29, .ref m30, .ref m31, .int m32, .int m33, .int m34, .int m35, .ref m36])), (m1, .inl (g 2, 65536, .inl (upd f106_9 10 (vp_nar .byte v105_10))))] ++ ([] : va_W)) := hD
  generalize upd f106_9 10 (vp_nar .byte v105_10) = f106_10 at hP hD
  refine lv_aload_n hx hb d_Mdl_feed_107 rfl (lv_at hl 3 rfl) ?_
  refine lv_dup hx hb d_Mdl_feed_108 rfl ?_
  refine va_get (D := D) (ci := 16) (v := .int 10) (C := "MatrixScriptsModel") (T := T_Mdl) (N := 37) hx hb hT in_Mdl hown hK hP 0 rfl rfl 2 (by decide) (hT _ tw_2217) (fun _ h9 => h9) rfl d_Mdl_feed_109 ?_
  refine lv_iconst (v := 1) hx hb d_Mdl_feed_112 (by decide) ?_
  refine lv_iadd hx hb d_Mdl_feed_113 ?_
  refine lv_topi (fun v113_10 ev113_10 => ?_)
  obtain rfl : v113_10 = 11 := ev113_10.trans (by decide)
  refine va_put (D := D) (ci := 16) (v := .int 11) (ty := .int) (C := "MatrixScriptsModel") (T := T_Mdl) (N := 37) hx hb hT in_Mdl ty_Mdl ty_Mdl_ok nm_Mdl hown hK hP hD hS 0 rfl rfl 2 (by decide) (hT _ tw_2217) (fun _ h9 => h9) rfl (by decide +kernel) rfl rfl (Nat.le_of_ble_eq_true rfl) d_Mdl_feed_114 (fun H locs hP hD hS => ?_)
  have hP : va_P D vC ([(h0, .inr (16, [.int 0, .ref m1, .int 11, .ref m3, .ref m4, .ref m5, .ref m6, .ref m7, .ref m8, .ref m9, .ref m10, .ref m11, .int m12, .int m13, .int m14, .ref m15, .int m16, .int m17, .int m18, .int m19, .int m20, .int m21, .int m22, .int m23, .int m24, .int m25, .int m26, .long m27, .int m28, .int m29, .ref m30, .ref m31, .int m32, .int m33, .int m34, .int m35, .ref m36])), (m1, .inl (g 2, 65536, .inl f106_10))] ++ ([] : va_W)) H := hP
  have hD : va_D A ([(h0, .inr (16, [.int 0, .ref m1, .int 11, .ref m3, .ref m4, .ref m5, .ref m6, .ref m7, .ref m8, .ref m9, .ref m10, .ref m11, .int m12, .int m13, .int m14, .ref m15, .int m16, .int m17, .int m18, .int m19, .int m20, .int m21, .int m22, .int m23, .int m24, .int m25, .int m26, .long m27, .int m28, .int m29, .ref m30, .ref m31, .int m32, .int m33, .int m34, .int m35, .ref m36])), (m1, .inl (g 2, 65536, .inl f106_10))] ++ ([] : va_W)) := hD
  refine lv_iinc (v := 0) (lv' := [(8, .int 0), (7, .int n3), (6, .int 2), (0, .ref h0), (1, .int n1), (2, .int n2), (3, .int n3), (4, .int n4), (5, .int n5)]) hx hb d_Mdl_feed_117 hl (k := 0) rfl (by decide) (by decide) rfl (fun ls hl => ?_)
  refine lv_goto (tgt := 87) hx hb d_Mdl_feed_120 (by decide) ?_
  refine lv_iload hx hb d_Mdl_feed_87 (lv_at hl 0 rfl) ?_
  refine lv_if_lt (tgt := 123) hx hb d_Mdl_feed_89 (by decide) (fun c89 => absurd c89 (by decide)) (fun c89 => ?_)
  refine lv_aload_n hx hb d_Mdl_feed_92 rfl (lv_at hl 3 rfl) ?_
  refine va_get (D := D) (ci := 16) (v := .ref m1) (C := "MatrixScriptsModel") (T := T_Mdl) (N := 37) hx hb hT in_Mdl hown hK hP 0 rfl rfl 1 (by decide) (hT _ tw_2216) (fun _ h9 => h9) rfl d_Mdl_feed_93 ?_
  refine lv_aload_n hx hb d_Mdl_feed_96 rfl (lv_at hl 3 rfl) ?_
  refine va_get (D := D) (ci := 16) (v := .int 11) (C := "MatrixScriptsModel") (T := T_Mdl) (N := 37) hx hb hT in_Mdl hown hK hP 0 rfl rfl 2 (by decide) (hT _ tw_2217) (fun _ h9 => h9) rfl d_Mdl_feed_97 ?_
  refine lv_iload hx hb d_Mdl_feed_100 (lv_at hl 1 rfl) ?_
  refine lv_iload hx hb d_Mdl_feed_102 (lv_at hl 0 rfl) ?_
  refine lv_ishr hx hb d_Mdl_feed_104 ?_
  refine lv_topi (fun v104_11 ev104_11 => ?_)
  refine lv_i2b hx hb d_Mdl_feed_105 rfl ?_
  refine lv_topi (fun v105_11 ev105_11 => ?_)
  refine va_bast hx hb hK hP hD hS 1 2 rfl rfl (i := 11) (x := v105_11) (by unfold vp_in; decide) d_Mdl_feed_106 (fun H locs hP hD hS => ?_)
  have hP : va_P D vC ([(h0, .inr (16, [.int 0, .ref m1, .int 11, .ref m3, .ref m4, .ref m5, .ref m6, .ref m7, .ref m8, .ref m9, .ref m10, .ref m11, .int m12, .int m13, .int m14, .ref m15, .int m16, .int m17, .int m18, .int m19, .int m20, .int m21, .int m22, .int m23, .int m24, .int m25, .int m26, .long m27, .int m28, .int m29, .ref m30, .ref m31, .int m32, .int m33, .int m34, .int m35, .ref m36])), (m1, .inl (g 2, 65536, .inl (upd f106_10 11 (vp_nar .byte v105_11))))] ++ ([] : va_W)) H := hP
  have hD : va_D A ([(h0, .inr (16, [.int 0, .ref m1, .int 11, .ref m3, .ref m4, .ref m5, .ref m6, .ref m7, .ref m8, .ref m9, .ref m10, .ref m11, .int m12, .int m13, .int m14, .ref m15, .int m16, .int m17, .int m18, .int m19, .int m20, .int m21, .int m22, .int m23, .int m24, .int m25, .int m26, .long m27, .int m28, .int m29, .ref m30, .ref m31, .int m32, .int m33, .int m34, .int m35, .ref m36])), (m1, .inl (g 2, 65536, .inl (upd f106_10 11 (vp_nar .byte v105_11))))] ++ ([] : va_W)) := hD
  generalize upd f106_10 11 (vp_nar .byte v105_11) = f106_11 at hP hD
  refine lv_aload_n hx hb d_Mdl_feed_107 rfl (lv_at hl 3 rfl) ?_
  refine lv_dup hx hb d_Mdl_feed_108 rfl ?_
  refine va_get (D := D) (ci := 16) (v := .int 11) (C := "MatrixScriptsModel") (T := T_Mdl) (N := 37) hx hb hT in_Mdl hown hK hP 0 rfl rfl 2 (by decide) (hT _ tw_2217) (fun _ h9 => h9) rfl d_Mdl_feed_109 ?_
  refine lv_iconst (v := 1) hx hb d_Mdl_feed_112 (by decide) ?_
  refine lv_iadd hx hb d_Mdl_feed_113 ?_
  refine lv_topi (fun v113_11 ev113_11 => ?_)
  obtain rfl : v113_11 = 12 := ev113_11.trans (by decide)
  refine va_put (D := D) (ci := 16) (v := .int 12) (ty := .int) (C := "MatrixScriptsModel") (T := T_Mdl) (N := 37) hx hb hT in_Mdl ty_Mdl ty_Mdl_ok nm_Mdl hown hK hP hD hS 0 rfl rfl 2 (by decide) (hT _ tw_2217) (fun _ h9 => h9) rfl (by decide +kernel) rfl rfl (Nat.le_of_ble_eq_true rfl) d_Mdl_feed_114 (fun H locs hP hD hS => ?_)
  have hP : va_P D vC ([(h0, .inr (16, [.int 0, .ref m1, .int 12, .ref m3, .ref m4, .ref m5, .ref m6, .ref m7, .ref m8, .ref m9, .ref m10, .ref m11, .int m12, .int m13, .int m14, .ref m15, .int m16, .int m17, .int m18, .int m19, .int m20, .int m21, .int m22, .int m23, .int m24, .int m25, .int m26, .long m27, .int m28, .int m29, .ref m30, .ref m31, .int m32, .int m33, .int m34, .int m35, .ref m36])), (m1, .inl (g 2, 65536, .inl f106_11))] ++ ([] : va_W)) H := hP
  have hD : va_D A ([(h0, .inr (16, [.int 0, .ref m1, .int 12, .ref m3, .ref m4, .ref m5, .ref m6, .ref m7, .ref m8, .ref m9, .ref m10, .ref m11, .int m12, .int m13, .int m14, .ref m15, .int m16, .int m17, .int m18, .int m19, .int m20, .int m21, .int m22, .int m23, .int m24, .int m25, .int m26, .long m27, .int m28, .int m29, .ref m30, .ref m31, .int m32, .int m33, .int m34, .int m35, .ref m36])), (m1, .inl (g 2, 65536, .inl f106_11))] ++ ([] : va_W)) := hD
  refine lv_iinc (v := (-8)) (lv' := [(8, .int (-8)), (7, .int n3), (6, .int 2), (0, .ref h0), (1, .int n1), (2, .int n2), (3, .int n3), (4, .int n4), (5, .int n5)]) hx hb d_Mdl_feed_117 hl (k := 0) rfl (by decide) (by decide) rfl (fun ls hl => ?_)
  refine lv_goto (tgt := 87) hx hb d_Mdl_feed_120 (by decide) ?_
  refine lv_iload hx hb d_Mdl_feed_87 (lv_at hl 0 rfl) ?_
  refine lv_if_lt (tgt := 123) hx hb d_Mdl_feed_89 (by decide) (fun c89 => ?_) (fun c89 => absurd (by decide) c89)
  refine lv_iinc (v := 3) (lv' := [(6, .int 3), (8, .int (-8)), (7, .int n3), (0, .ref h0), (1, .int n1), (2, .int n2), (3, .int n3), (4, .int n4), (5, .int n5)]) hx hb d_Mdl_feed_123 hl (k := 2) rfl (by decide) (by decide) rfl (fun ls hl => ?_)
  refine lv_goto (tgt := 33) hx hb d_Mdl_feed_126 (by decide) ?_
  refine lv_iload hx hb d_Mdl_feed_33 (lv_at hl 0 rfl) ?_
  refine lv_iconst (v := 5) hx hb d_Mdl_feed_35 (by decide) ?_
  refine lv_icmp_ge (tgt := 129) hx hb d_Mdl_feed_36 (by decide) (fun c36 => absurd c36 (by decide)) (fun c36 => ?_)
  refine lv_iload hx hb d_Mdl_feed_39 (lv_at hl 0 rfl) ?_
  refine lv_if_ne (tgt := 48) hx hb d_Mdl_feed_41 (by decide) (fun c41 => ?_) (fun c41 => absurd c41 (by decide))
  refine lv_iload hx hb d_Mdl_feed_48 (lv_at hl 0 rfl) ?_
  refine lv_iconst (v := 1) hx hb d_Mdl_feed_50 (by decide) ?_
  refine lv_icmp_ne (tgt := 58) hx hb d_Mdl_feed_51 (by decide) (fun c51 => ?_) (fun c51 => absurd c51 (by decide))
  refine lv_iload hx hb d_Mdl_feed_58 (lv_at hl 0 rfl) ?_
  refine lv_iconst (v := 2) hx hb d_Mdl_feed_60 (by decide) ?_
  refine lv_icmp_ne (tgt := 68) hx hb d_Mdl_feed_61 (by decide) (fun c61 => ?_) (fun c61 => absurd c61 (by decide))
  refine lv_iload hx hb d_Mdl_feed_68 (lv_at hl 0 rfl) ?_
  refine lv_iconst (v := 3) hx hb d_Mdl_feed_70 (by decide) ?_
  refine lv_icmp_ne (tgt := 79) hx hb d_Mdl_feed_71 (by decide) (fun c71 => absurd (by decide) c71) (fun c71 => ?_)
  refine lv_iload hx hb d_Mdl_feed_74 (lv_at hl 7 rfl) ?_
  refine lv_goto (tgt := 81) hx hb d_Mdl_feed_76 (by decide) ?_
  refine lv_istore (lv' := [(7, .int n4), (6, .int 3), (8, .int (-8)), (0, .ref h0), (1, .int n1), (2, .int n2), (3, .int n3), (4, .int n4), (5, .int n5)]) hx hb d_Mdl_feed_81 hl (by decide) rfl (fun ls hl => ?_)
  refine lv_bipush (v := 24) hx hb d_Mdl_feed_83 (by decide) ?_
  refine lv_istore (lv' := [(8, .int 24), (7, .int n4), (6, .int 3), (0, .ref h0), (1, .int n1), (2, .int n2), (3, .int n3), (4, .int n4), (5, .int n5)]) hx hb d_Mdl_feed_85 hl (by decide) rfl (fun ls hl => ?_)
  refine lv_iload hx hb d_Mdl_feed_87 (lv_at hl 0 rfl) ?_
  refine lv_if_lt (tgt := 123) hx hb d_Mdl_feed_89 (by decide) (fun c89 => absurd c89 (by decide)) (fun c89 => ?_)
  refine lv_aload_n hx hb d_Mdl_feed_92 rfl (lv_at hl 3 rfl) ?_
  refine va_get (D := D) (ci := 16) (v := .ref m1) (C := "MatrixScriptsModel") (T := T_Mdl) (N := 37) hx hb hT in_Mdl hown hK hP 0 rfl rfl 1 (by decide) (hT _ tw_2216) (fun _ h9 => h9) rfl d_Mdl_feed_93 ?_
  refine lv_aload_n hx hb d_Mdl_feed_96 rfl (lv_at hl 3 rfl) ?_
  refine va_get (D := D) (ci := 16) (v := .int 12) (C := "MatrixScriptsModel") (T := T_Mdl) (N := 37) hx hb hT in_Mdl hown hK hP 0 rfl rfl 2 (by decide) (hT _ tw_2217) (fun _ h9 => h9) rfl d_Mdl_feed_97 ?_
  refine lv_iload hx hb d_Mdl_feed_100 (lv_at hl 1 rfl) ?_
  refine lv_iload hx hb d_Mdl_feed_102 (lv_at hl 0 rfl) ?_
  refine lv_ishr hx hb d_Mdl_feed_104 ?_
  refine lv_topi (fun v104_12 ev104_12 => ?_)
  refine lv_i2b hx hb d_Mdl_feed_105 rfl ?_
  refine lv_topi (fun v105_12 ev105_12 => ?_)
  refine va_bast hx hb hK hP hD hS 1 2 rfl rfl (i := 12) (x := v105_12) (by unfold vp_in; decide) d_Mdl_feed_106 (fun H locs hP hD hS => ?_)
  have hP : va_P D vC ([(h0, .inr (16, [.int 0, .ref m1, .int 12, .ref m3, .ref m4, .ref m5, .ref m6, .ref m7, .ref m8, .ref m9, .ref m10, .ref m11, .int m12, .int m13, .int m14, .ref m15, .int m16, .int m17, .int m18, .int m19, .int m20, .int m21, .int m22, .int m23, .int m24, .int m25, .int m26, .long m27, .int m28, .int m29, .ref m30, .ref m31, .int m32, .int m33, .int m34, .int m35, .ref m36])), (m1, .inl (g 2, 65536, .inl (upd f106_11 12 (vp_nar .byte v105_12))))] ++ ([] : va_W)) H := hP
  have hD : va_D A ([(h0, .inr (16, [.int 0, .ref m1, .int 12, .ref m3, .ref m4, .ref m5, .ref m6, .ref m7, .ref m8, .ref m9, .ref m10, .ref m11, .int m12, .int m13, .int m14, .ref m15, .int m16, .int m17, .int m18, .int m19, .int m20, .int m21, .int m22, .int m23, .int m24, .int m25, .int m26, .long m27, .int m28, .int m29, .ref m30, .ref m31, .int m32, .int m33, .int m34, .int m35, .ref m36])), (m1, .inl (g 2, 65536, .inl (upd f106_11 12 (vp_nar .byte v105_12))))] ++ ([] : va_W)) := hD
  generalize upd f106_11 12 (vp_nar .byte v105_12) = f106_12 at hP hD
  refine lv_aload_n hx hb d_Mdl_feed_107 rfl (lv_at hl 3 rfl) ?_
  refine lv_dup hx hb d_Mdl_feed_108 rfl ?_
  refine va_get (D := D) (ci := 16) (v := .int 12) (C := "MatrixScriptsModel") (T := T_Mdl) (N := 37) hx hb hT in_Mdl hown hK hP 0 rfl rfl 2 (by decide) (hT _ tw_2217) (fun _ h9 => h9) rfl d_Mdl_feed_109 ?_
  refine lv_iconst (v := 1) hx hb d_Mdl_feed_112 (by decide) ?_
  refine lv_iadd hx hb d_Mdl_feed_113 ?_
  refine lv_topi (fun v113_12 ev113_12 => ?_)
  obtain rfl : v113_12 = 13 := ev113_12.trans (by decide)
  refine va_put (D := D) (ci := 16) (v := .int 13) (ty := .int) (C := "MatrixScriptsModel") (T := T_Mdl) (N := 37) hx hb hT in_Mdl ty_Mdl ty_Mdl_ok nm_Mdl hown hK hP hD hS 0 rfl rfl 2 (by decide) (hT _ tw_2217) (fun _ h9 => h9) rfl (by decide +kernel) rfl rfl (Nat.le_of_ble_eq_true rfl) d_Mdl_feed_114 (fun H locs hP hD hS => ?_)
  have hP : va_P D vC ([(h0, .inr (16, [.int 0, .ref m1, .int 13, .ref m3, .ref m4, .ref m5, .ref m6, .ref m7, .ref m8, .ref m9, .ref m10, .ref m11, .int m12, .int m13, .int m14, .ref m15, .int m16, .int m17, .int m18, .int m19, .int m20, .int m21, .int m22, .int m23, .int m24, .int m25, .int m26, .long m27, .int m28, .int m29, .ref m30, .ref m31, .int m32, .int m33, .int m34, .int m35, .ref m36])), (m1, .inl (g 2, 65536, .inl f106_12))] ++ ([] : va_W)) H := hP
  have hD : va_D A ([(h0, .inr (16, [.int 0, .ref m1, .int 13, .ref m3, .ref m4, .ref m5, .ref m6, .ref m7, .ref m8, .ref m9, .ref m10, .ref m11, .int m12, .int m13, .int m14, .ref m15, .int m16, .int m17, .int m18, .int m19, .int m20, .int m21, .int m22, .int m23, .int m24, .int m25, .int m26, .long m27, .int m28, .int m29, .ref m30, .ref m31, .int m32, .int m33, .int m34, .int m35, .ref m36])), (m1, .inl (g 2, 65536, .inl f106_12))] ++ ([] : va_W)) := hD
  refine lv_iinc (v := 16) (lv' := [(8, .int 16), (7, .int n4), (6, .int 3), (0, .ref h0), (1, .int n1), (2, .int n2), (3, .int n3), (4, .int n4), (5, .int n5)]) hx hb d_Mdl_feed_117 hl (k := 0) rfl (by decide) (by decide) rfl (fun ls hl => ?_)
  refine lv_goto (tgt := 87) hx hb d_Mdl_feed_120 (by decide) ?_
  refine lv_iload hx hb d_Mdl_feed_87 (lv_at hl 0 rfl) ?_
  refine lv_if_lt (tgt := 123) hx hb d_Mdl_feed_89 (by decide) (fun c89 => absurd c89 (by decide)) (fun c89 => ?_)
  refine lv_aload_n hx hb d_Mdl_feed_92 rfl (lv_at hl 3 rfl) ?_
  refine va_get (D := D) (ci := 16) (v := .ref m1) (C := "MatrixScriptsModel") (T := T_Mdl) (N := 37) hx hb hT in_Mdl hown hK hP 0 rfl rfl 1 (by decide) (hT _ tw_2216) (fun _ h9 => h9) rfl d_Mdl_feed_93 ?_
  refine lv_aload_n hx hb d_Mdl_feed_96 rfl (lv_at hl 3 rfl) ?_
  refine va_get (D := D) (ci := 16) (v := .int 13) (C := "MatrixScriptsModel") (T := T_Mdl) (N := 37) hx hb hT in_Mdl hown hK hP 0 rfl rfl 2 (by decide) (hT _ tw_2217) (fun _ h9 => h9) rfl d_Mdl_feed_97 ?_
  refine lv_iload hx hb d_Mdl_feed_100 (lv_at hl 1 rfl) ?_
  refine lv_iload hx hb d_Mdl_feed_102 (lv_at hl 0 rfl) ?_
  refine lv_ishr hx hb d_Mdl_feed_104 ?_
  refine lv_topi (fun v104_13 ev104_13 => ?_)
  refine lv_i2b hx hb d_Mdl_feed_105 rfl ?_
  refine lv_topi (fun v105_13 ev105_13 => ?_)
  refine va_bast hx hb hK hP hD hS 1 2 rfl rfl (i := 13) (x := v105_13) (by unfold vp_in; decide) d_Mdl_feed_106 (fun H locs hP hD hS => ?_)
  have hP : va_P D vC ([(h0, .inr (16, [.int 0, .ref m1, .int 13, .ref m3, .ref m4, .ref m5, .ref m6, .ref m7, .ref m8, .ref m9, .ref m10, .ref m11, .int m12, .int m13, .int m14, .ref m15, .int m16, .int m17, .int m18, .int m19, .int m20, .int m21, .int m22, .int m23, .int m24, .int m25, .int m26, .long m27, .int m28, .int m29, .ref m30, .ref m31, .int m32, .int m33, .int m34, .int m35, .ref m36])), (m1, .inl (g 2, 65536, .inl (upd f106_12 13 (vp_nar .byte v105_13))))] ++ ([] : va_W)) H := hP
  have hD : va_D A ([(h0, .inr (16, [.int 0, .ref m1, .int 13, .ref m3, .ref m4, .ref m5, .ref m6, .ref m7, .ref m8, .ref m9, .ref m10, .ref m11, .int m12, .int m13, .int m14, .ref m15, .int m16, .int m17, .int m18, .int m19, .int m20, .int m21, .int m22, .int m23, .int m24, .int m25, .int m26, .long m27, .int m28, .int m29, .ref m30, .ref m31, .int m32, .int m33, .int m34, .int m35, .ref m36])), (m1, .inl (g 2, 65536, .inl (upd f106_12 13 (vp_nar .byte v105_13))))] ++ ([] : va_W)) := hD
  generalize upd f106_12 13 (vp_nar .byte v105_13) = f106_13 at hP hD
  refine lv_aload_n hx hb d_Mdl_feed_107 rfl (lv_at hl 3 rfl) ?_
  refine lv_dup hx hb d_Mdl_feed_108 rfl ?_
  refine va_get (D := D) (ci := 16) (v := .int 13) (C := "MatrixScriptsModel") (T := T_Mdl) (N := 37) hx hb hT in_Mdl hown hK hP 0 rfl rfl 2 (by decide) (hT _ tw_2217) (fun _ h9 => h9) rfl d_Mdl_feed_109 ?_
  refine lv_iconst (v := 1) hx hb d_Mdl_feed_112 (by decide) ?_
  refine lv_iadd hx hb d_Mdl_feed_113 ?_
  refine lv_topi (fun v113_13 ev113_13 => ?_)
  obtain rfl : v113_13 = 14 := ev113_13.trans (by decide)
  refine va_put (D := D) (ci := 16) (v := .int 14) (ty := .int) (C := "MatrixScriptsModel") (T := T_Mdl) (N := 37) hx hb hT in_Mdl ty_Mdl ty_Mdl_ok nm_Mdl hown hK hP hD hS 0 rfl rfl 2 (by decide) (hT _ tw_2217) (fun _ h9 => h9) rfl (by decide +kernel) rfl rfl (Nat.le_of_ble_eq_true rfl) d_Mdl_feed_114 (fun H locs hP hD hS => ?_)
  have hP : va_P D vC ([(h0, .inr (16, [.int 0, .ref m1, .int 14, .ref m3, .ref m4, .ref m5, .ref m6, .ref m7, .ref m8, .ref m9, .ref m10, .ref m11, .int m12, .int m13, .int m14, .ref m15, .int m16, .int m17, .int m18, .int m19, .int m20, .int m21, .int m22, .int m23, .int m24, .int m25, .int m26, .long m27, .int m28, .int m29, .ref m30, .ref m31, .int m32, .int m33, .int m34, .int m35, .ref m36])), (m1, .inl (g 2, 65536, .inl f106_13))] ++ ([] : va_W)) H := hP
  have hD : va_D A ([(h0, .inr (16, [.int 0, .ref m1, .int 14, .ref m3, .ref m4, .ref m5, .ref m6, .ref m7, .ref m8, .ref m9, .ref m10, .ref m11, .int m12, .int m13, .int m14, .ref m15, .int m16, .int m17, .int m18, .int m19, .int m20, .int m21, .int m22, .int m23, .int m24, .int m25, .int m26, .long m27, .int m28, .int m29, .ref m30, .ref m31, .int m32, .int m33, .int m34, .int m35, .ref m36])), (m1, .inl (g 2, 65536, .inl f106_13))] ++ ([] : va_W)) := hD
  refine lv_iinc (v := 8) (lv' := [(8, .int 8), (7, .int n4), (6, .int 3), (0, .ref h0), (1, .int n1), (2, .int n2), (3, .int n3), (4, .int n4), (5, .int n5)]) hx hb d_Mdl_feed_117 hl (k := 0) rfl (by decide) (by decide) rfl (fun ls hl => ?_)
  refine lv_goto (tgt := 87) hx hb d_Mdl_feed_120 (by decide) ?_
  refine lv_iload hx hb d_Mdl_feed_87 (lv_at hl 0 rfl) ?_
  refine lv_if_lt (tgt := 123) hx hb d_Mdl_feed_89 (by decide) (fun c89 => absurd c89 (by decide)) (fun c89 => ?_)
  refine lv_aload_n hx hb d_Mdl_feed_92 rfl (lv_at hl 3 rfl) ?_
  refine va_get (D := D) (ci := 16) (v := .ref m1) (C := "MatrixScriptsModel") (T := T_Mdl) (N := 37) hx hb hT in_Mdl hown hK hP 0 rfl rfl 1 (by decide) (hT _ tw_2216) (fun _ h9 => h9) rfl d_Mdl_feed_93 ?_
  refine lv_aload_n hx hb d_Mdl_feed_96 rfl (lv_at hl 3 rfl) ?_
  refine va_get (D := D) (ci := 16) (v := .int 14) (C := "MatrixScriptsModel") (T := T_Mdl) (N := 37) hx hb hT in_Mdl hown hK hP 0 rfl rfl 2 (by decide) (hT _ tw_2217) (fun _ h9 => h9) rfl d_Mdl_feed_97 ?_
  refine lv_iload hx hb d_Mdl_feed_100 (lv_at hl 1 rfl) ?_
  refine lv_iload hx hb d_Mdl_feed_102 (lv_at hl 0 rfl) ?_
  refine lv_ishr hx hb d_Mdl_feed_104 ?_
  refine lv_topi (fun v104_14 ev104_14 => ?_)
  refine lv_i2b hx hb d_Mdl_feed_105 rfl ?_
  refine lv_topi (fun v105_14 ev105_14 => ?_)
  refine va_bast hx hb hK hP hD hS 1 2 rfl rfl (i := 14) (x := v105_14) (by unfold vp_in; decide) d_Mdl_feed_106 (fun H locs hP hD hS => ?_)
  have hP : va_P D vC ([(h0, .inr (16, [.int 0, .ref m1, .int 14, .ref m3, .ref m4, .ref m5, .ref m6, .ref m7, .ref m8, .ref m9, .ref m10, .ref m11, .int m12, .int m13, .int m14, .ref m15, .int m16, .int m17, .int m18, .int m19, .int m20, .int m21, .int m22, .int m23, .int m24, .int m25, .int m26, .long m27, .int m28, .int m29, .ref m30, .ref m31, .int m32, .int m33, .int m34, .int m35, .ref m36])), (m1, .inl (g 2, 65536, .inl (upd f106_13 14 (vp_nar .byte v105_14))))] ++ ([] : va_W)) H := hP
  have hD : va_D A ([(h0, .inr (16, [.int 0, .ref m1, .int 14, .ref m3, .ref m4, .ref m5, .ref m6, .ref m7, .ref m8, .ref m9, .ref m10, .ref m11, .int m12, .int m13, .int m14, .ref m15, .int m16, .int m17, .int m18, .int m19, .int m20, .int m21, .int m22, .int m23, .int m24, .int m25, .int m26, .long m27, .int m28, .int m29, .ref m30, .ref m31, .int m32, .int m33, .int m34, .int m35, .ref m36])), (m1, .inl (g 2, 65536, .inl (upd f106_13 14 (vp_nar .byte v105_14))))] ++ ([] : va_W)) := hD
  generalize upd f106_13 14 (vp_nar .byte v105_14) = f106_14 at hP hD
  refine lv_aload_n hx hb d_Mdl_feed_107 rfl (lv_at hl 3 rfl) ?_
  refine lv_dup hx hb d_Mdl_feed_108 rfl ?_
  refine va_get (D := D) (ci := 16) (v := .int 14) (C := "MatrixScriptsModel") (T := T_Mdl) (N := 37) hx hb hT in_Mdl hown hK hP 0 rfl rfl 2 (by decide) (hT _ tw_2217) (fun _ h9 => h9) rfl d_Mdl_feed_109 ?_
  refine lv_iconst (v := 1) hx hb d_Mdl_feed_112 (by decide) ?_
  refine lv_iadd hx hb d_Mdl_feed_113 ?_
  refine lv_topi (fun v113_14 ev113_14 => ?_)
  obtain rfl : v113_14 = 15 := ev113_14.trans (by decide)
  refine va_put (D := D) (ci := 16) (v := .int 15) (ty := .int) (C := "MatrixScriptsModel") (T := T_Mdl) (N := 37) hx hb hT in_Mdl ty_Mdl ty_Mdl_ok nm_Mdl hown hK hP hD hS 0 rfl rfl 2 (by decide) (hT _ tw_2217) (fun _ h9 => h9) rfl (by decide +kernel) rfl rfl (Nat.le_of_ble_eq_true rfl) d_Mdl_feed_114 (fun H locs hP hD hS => ?_)
  have hP : va_P D vC ([(h0, .inr (16, [.int 0, .ref m1, .int 15, .ref m3, .ref m4, .ref m5, .ref m6, .ref m7, .ref m8, .ref m9, .ref m10, .ref m11, .int m12, .int m13, .int m14, .ref m15, .int m16, .int m17, .int m18, .int m19, .int m20, .int m21, .int m22, .int m23, .int m24, .int m25, .int m26, .long m27, .int m28, .int m29, .ref m30, .ref m31, .int m32, .int m33, .int m34, .int m35, .ref m36])), (m1, .inl (g 2, 65536, .inl f106_14))] ++ ([] : va_W)) H := hP
  have hD : va_D A ([(h0, .inr (16, [.int 0, .ref m1, .int 15, .ref m3, .ref m4, .ref m5, .ref m6, .ref m7, .ref m8, .ref m9, .ref m10, .ref m11, .int m12, .int m13, .int m14, .ref m15, .int m16, .int m17, .int m18, .int m19, .int m20, .int m21, .int m22, .int m23, .int m24, .int m25, .int m26, .long m27, .int m28, .int m29, .ref m30, .ref m31, .int m32, .int m33, .int m34, .int m35, .ref m36])), (m1, .inl (g 2, 65536, .inl f106_14))] ++ ([] : va_W)) := hD
  refine lv_iinc (v := 0) (lv' := [(8, .int 0), (7, .int n4), (6, .int 3), (0, .ref h0), (1, .int n1), (2, .int n2), (3, .int n3), (4, .int n4), (5, .int n5)]) hx hb d_Mdl_feed_117 hl (k := 0) rfl (by decide) (by decide) rfl (fun ls hl => ?_)
  refine lv_goto (tgt := 87) hx hb d_Mdl_feed_120 (by decide) ?_
  refine lv_iload hx hb d_Mdl_feed_87 (lv_at hl 0 rfl) ?_
  refine lv_if_lt (tgt := 123) hx hb d_Mdl_feed_89 (by decide) (fun c89 => absurd c89 (by decide)) (fun c89 => ?_)
  refine lv_aload_n hx hb d_Mdl_feed_92 rfl (lv_at hl 3 rfl) ?_
  refine va_get (D := D) (ci := 16) (v := .ref m1) (C := "MatrixScriptsModel") (T := T_Mdl) (N := 37) hx hb hT in_Mdl hown hK hP 0 rfl rfl 1 (by decide) (hT _ tw_2216) (fun _ h9 => h9) rfl d_Mdl_feed_93 ?_
  refine lv_aload_n hx hb d_Mdl_feed_96 rfl (lv_at hl 3 rfl) ?_
  refine va_get (D := D) (ci := 16) (v := .int 15) (C := "MatrixScriptsModel") (T := T_Mdl) (N := 37) hx hb hT in_Mdl hown hK hP 0 rfl rfl 2 (by decide) (hT _ tw_2217) (fun _ h9 => h9) rfl d_Mdl_feed_97 ?_
  refine lv_iload hx hb d_Mdl_feed_100 (lv_at hl 1 rfl) ?_
  refine lv_iload hx hb d_Mdl_feed_102 (lv_at hl 0 rfl) ?_
  refine lv_ishr hx hb d_Mdl_feed_104 ?_
  refine lv_topi (fun v104_15 ev104_15 => ?_)
  refine lv_i2b hx hb d_Mdl_feed_105 rfl ?_
  refine lv_topi (fun v105_15 ev105_15 => ?_)
  refine va_bast hx hb hK hP hD hS 1 2 rfl rfl (i := 15) (x := v105_15) (by unfold vp_in; decide) d_Mdl_feed_106 (fun H locs hP hD hS => ?_)
  have hP : va_P D vC ([(h0, .inr (16, [.int 0, .ref m1, .int 15, .ref m3, .ref m4, .ref m5, .ref m6, .ref m7, .ref m8, .ref m9, .ref m10, .ref m11, .int m12, .int m13, .int m14, .ref m15, .int m16, .int m17, .int m18, .int m19, .int m20, .int m21, .int m22, .int m23, .int m24, .int m25, .int m26, .long m27, .int m28, .int m29, .ref m30, .ref m31, .int m32, .int m33, .int m34, .int m35, .ref m36])), (m1, .inl (g 2, 65536, .inl (upd f106_14 15 (vp_nar .byte v105_15))))] ++ ([] : va_W)) H := hP
  have hD : va_D A ([(h0, .inr (16, [.int 0, .ref m1, .int 15, .ref m3, .ref m4, .ref m5, .ref m6, .ref m7, .ref m8, .ref m9, .ref m10, .ref m11, .int m12, .int m13, .int m14, .ref m15, .int m16, .int m17, .int m18, .int m19, .int m20, .int m21, .int m22, .int m23, .int m24, .int m25, .int m26, .long m27, .int m28, .int m29, .ref m30, .ref m31, .int m32, .int m33, .int m34, .int m35, .ref m36])), (m1, .inl (g 2, 65536, .inl (upd f106_14 15 (vp_nar .byte v105_15))))] ++ ([] : va_W)) := hD
  generalize upd f106_14 15 (vp_nar .byte v105_15) = f106_15 at hP hD
  refine lv_aload_n hx hb d_Mdl_feed_107 rfl (lv_at hl 3 rfl) ?_
  refine lv_dup hx hb d_Mdl_feed_108 rfl ?_
  refine va_get (D := D) (ci := 16) (v := .int 15) (C := "MatrixScriptsModel") (T := T_Mdl) (N := 37) hx hb hT in_Mdl hown hK hP 0 rfl rfl 2 (by decide) (hT _ tw_2217) (fun _ h9 => h9) rfl d_Mdl_feed_109 ?_
  refine lv_iconst (v := 1) hx hb d_Mdl_feed_112 (by decide) ?_
  refine lv_iadd hx hb d_Mdl_feed_113 ?_
  refine lv_topi (fun v113_15 ev113_15 => ?_)
  obtain rfl : v113_15 = 16 := ev113_15.trans (by decide)
  refine va_put (D := D) (ci := 16) (v := .int 16) (ty := .int) (C := "MatrixScriptsModel") (T := T_Mdl) (N := 37) hx hb hT in_Mdl ty_Mdl ty_Mdl_ok nm_Mdl hown hK hP hD hS 0 rfl rfl 2 (by decide) (hT _ tw_2217) (fun _ h9 => h9) rfl (by decide +kernel) rfl rfl (Nat.le_of_ble_eq_true rfl) d_Mdl_feed_114 (fun H locs hP hD hS => ?_)
  have hP : va_P D vC ([(h0, .inr (16, [.int 0, .ref m1, .int 16, .ref m3, .ref m4, .ref m5, .ref m6, .ref m7, .ref m8, .ref m9, .ref m10, .ref m11, .int m12, .int m13, .int m14, .ref m15, .int m16, .int m17, .int m18, .int m19, .int m20, .int m21, .int m22, .int m23, .int m24, .int m25, .int m26, .long m27, .int m28, .int m29, .ref m30, .ref m31, .int m32, .int m33, .int m34, .int m35, .ref m36])), (m1, .inl (g 2, 65536, .inl f106_15))] ++ ([] : va_W)) H := hP
  have hD : va_D A ([(h0, .inr (16, [.int 0, .ref m1, .int 16, .ref m3, .ref m4, .ref m5, .ref m6, .ref m7, .ref m8, .ref m9, .ref m10, .ref m11, .int m12, .int m13, .int m14, .ref m15, .int m16, .int m17, .int m18, .int m19, .int m20, .int m21, .int m22, .int m23, .int m24, .int m25, .int m26, .long m27, .int m28, .int m29, .ref m30, .ref m31, .int m32, .int m33, .int m34, .int m35, .ref m36])), (m1, .inl (g 2, 65536, .inl f106_15))] ++ ([] : va_W)) := hD
  refine lv_iinc (v := (-8)) (lv' := [(8, .int (-8)), (7, .int n4), (6, .int 3), (0, .ref h0), (1, .int n1), (2, .int n2), (3, .int n3), (4, .int n4), (5, .int n5)]) hx hb d_Mdl_feed_117 hl (k := 0) rfl (by decide) (by decide) rfl (fun ls hl => ?_)
  refine lv_goto (tgt := 87) hx hb d_Mdl_feed_120 (by decide) ?_
  refine lv_iload hx hb d_Mdl_feed_87 (lv_at hl 0 rfl) ?_
  refine lv_if_lt (tgt := 123) hx hb d_Mdl_feed_89 (by decide) (fun c89 => ?_) (fun c89 => absurd (by decide) c89)
  refine lv_iinc (v := 4) (lv' := [(6, .int 4), (8, .int (-8)), (7, .int n4), (0, .ref h0), (1, .int n1), (2, .int n2), (3, .int n3), (4, .int n4), (5, .int n5)]) hx hb d_Mdl_feed_123 hl (k := 2) rfl (by decide) (by decide) rfl (fun ls hl => ?_)
  refine lv_goto (tgt := 33) hx hb d_Mdl_feed_126 (by decide) ?_
  refine lv_iload hx hb d_Mdl_feed_33 (lv_at hl 0 rfl) ?_
  refine lv_iconst (v := 5) hx hb d_Mdl_feed_35 (by decide) ?_
  refine lv_icmp_ge (tgt := 129) hx hb d_Mdl_feed_36 (by decide) (fun c36 => absurd c36 (by decide)) (fun c36 => ?_)
  refine lv_iload hx hb d_Mdl_feed_39 (lv_at hl 0 rfl) ?_
  refine lv_if_ne (tgt := 48) hx hb d_Mdl_feed_41 (by decide) (fun c41 => ?_) (fun c41 => absurd c41 (by decide))
  refine lv_iload hx hb d_Mdl_feed_48 (lv_at hl 0 rfl) ?_
  refine lv_iconst (v := 1) hx hb d_Mdl_feed_50 (by decide) ?_
  refine lv_icmp_ne (tgt := 58) hx hb d_Mdl_feed_51 (by decide) (fun c51 => ?_) (fun c51 => absurd c51 (by decide))
  refine lv_iload hx hb d_Mdl_feed_58 (lv_at hl 0 rfl) ?_
  refine lv_iconst (v := 2) hx hb d_Mdl_feed_60 (by decide) ?_
  refine lv_icmp_ne (tgt := 68) hx hb d_Mdl_feed_61 (by decide) (fun c61 => ?_) (fun c61 => absurd c61 (by decide))
  refine lv_iload hx hb d_Mdl_feed_68 (lv_at hl 0 rfl) ?_
  refine lv_iconst (v := 3) hx hb d_Mdl_feed_70 (by decide) ?_
  refine lv_icmp_ne (tgt := 79) hx hb d_Mdl_feed_71 (by decide) (fun c71 => ?_) (fun c71 => absurd c71 (by decide))
  refine lv_iload hx hb d_Mdl_feed_79 (lv_at hl 8 rfl) ?_
  refine lv_istore (lv' := [(7, .int n5), (6, .int 4), (8, .int (-8)), (0, .ref h0), (1, .int n1), (2, .int n2), (3, .int n3), (4, .int n4), (5, .int n5)]) hx hb d_Mdl_feed_81 hl (by decide) rfl (fun ls hl => ?_)
  refine lv_bipush (v := 24) hx hb d_Mdl_feed_83 (by decide) ?_
  refine lv_istore (lv' := [(8, .int 24), (7, .int n5), (6, .int 4), (0, .ref h0), (1, .int n1), (2, .int n2), (3, .int n3), (4, .int n4), (5, .int n5)]) hx hb d_Mdl_feed_85 hl (by decide) rfl (fun ls hl => ?_)
  refine lv_iload hx hb d_Mdl_feed_87 (lv_at hl 0 rfl) ?_
  refine lv_if_lt (tgt := 123) hx hb d_Mdl_feed_89 (by decide) (fun c89 => absurd c89 (by decide)) (fun c89 => ?_)
  refine lv_aload_n hx hb d_Mdl_feed_92 rfl (lv_at hl 3 rfl) ?_
  refine va_get (D := D) (ci := 16) (v := .ref m1) (C := "MatrixScriptsModel") (T := T_Mdl) (N := 37) hx hb hT in_Mdl hown hK hP 0 rfl rfl 1 (by decide) (hT _ tw_2216) (fun _ h9 => h9) rfl d_Mdl_feed_93 ?_
  refine lv_aload_n hx hb d_Mdl_feed_96 rfl (lv_at hl 3 rfl) ?_
  refine va_get (D := D) (ci := 16) (v := .int 16) (C := "MatrixScriptsModel") (T := T_Mdl) (N := 37) hx hb hT in_Mdl hown hK hP 0 rfl rfl 2 (by decide) (hT _ tw_2217) (fun _ h9 => h9) rfl d_Mdl_feed_97 ?_
  refine lv_iload hx hb d_Mdl_feed_100 (lv_at hl 1 rfl) ?_
  refine lv_iload hx hb d_Mdl_feed_102 (lv_at hl 0 rfl) ?_
  refine lv_ishr hx hb d_Mdl_feed_104 ?_
  refine lv_topi (fun v104_16 ev104_16 => ?_)
  refine lv_i2b hx hb d_Mdl_feed_105 rfl ?_
  refine lv_topi (fun v105_16 ev105_16 => ?_)
  refine va_bast hx hb hK hP hD hS 1 2 rfl rfl (i := 16) (x := v105_16) (by unfold vp_in; decide) d_Mdl_feed_106 (fun H locs hP hD hS => ?_)
  have hP : va_P D vC ([(h0, .inr (16, [.int 0, .ref m1, .int 16, .ref m3, .ref m4, .ref m5, .ref m6, .ref m7, .ref m8, .ref m9, .ref m10, .ref m11, .int m12, .int m13, .int m14, .ref m15, .int m16, .int m17, .int m18, .int m19, .int m20, .int m21, .int m22, .int m23, .int m24, .int m25, .int m26, .long m27, .int m28, .int m29, .ref m30, .ref m31, .int m32, .int m33, .int m34, .int m35, .ref m36])), (m1, .inl (g 2, 65536, .inl (upd f106_15 16 (vp_nar .byte v105_16))))] ++ ([] : va_W)) H := hP
  have hD : va_D A ([(h0, .inr (16, [.int 0, .ref m1, .int 16, .ref m3, .ref m4, .ref m5, .ref m6, .ref m7, .ref m8, .ref m9, .ref m10, .ref m11, .int m12, .int m13, .int m14, .ref m15, .int m16, .int m17, .int m18, .int m19, .int m20, .int m21, .int m22, .int m23, .int m24, .int m25, .int m26, .long m27, .int m28, .int m29, .ref m30, .ref m31, .int m32, .int m33, .int m34, .int m35, .ref m36])), (m1, .inl (g 2, 65536, .inl (upd f106_15 16 (vp_nar .byte v105_16))))] ++ ([] : va_W)) := hD
  generalize upd f106_15 16 (vp_nar .byte v105_16) = f106_16 at hP hD
  refine lv_aload_n hx hb d_Mdl_feed_107 rfl (lv_at hl 3 rfl) ?_
  refine lv_dup hx hb d_Mdl_feed_108 rfl ?_
  refine va_get (D := D) (ci := 16) (v := .int 16) (C := "MatrixScriptsModel") (T := T_Mdl) (N := 37) hx hb hT in_Mdl hown hK hP 0 rfl rfl 2 (by decide) (hT _ tw_2217) (fun _ h9 => h9) rfl d_Mdl_feed_109 ?_
  refine lv_iconst (v := 1) hx hb d_Mdl_feed_112 (by decide) ?_
  refine lv_iadd hx hb d_Mdl_feed_113 ?_
  refine lv_topi (fun v113_16 ev113_16 => ?_)
  obtain rfl : v113_16 = 17 := ev113_16.trans (by decide)
  refine va_put (D := D) (ci := 16) (v := .int 17) (ty := .int) (C := "MatrixScriptsModel") (T := T_Mdl) (N := 37) hx hb hT in_Mdl ty_Mdl ty_Mdl_ok nm_Mdl hown hK hP hD hS 0 rfl rfl 2 (by decide) (hT _ tw_2217) (fun _ h9 => h9) rfl (by decide +kernel) rfl rfl (Nat.le_of_ble_eq_true rfl) d_Mdl_feed_114 (fun H locs hP hD hS => ?_)
  have hP : va_P D vC ([(h0, .inr (16, [.int 0, .ref m1, .int 17, .ref m3, .ref m4, .ref m5, .ref m6, .ref m7, .ref m8, .ref m9, .ref m10, .ref m11, .int m12, .int m13, .int m14, .ref m15, .int m16, .int m17, .int m18, .int m19, .int m20, .int m21, .int m22, .int m23, .int m24, .int m25, .int m26, .long m27, .int m28, .int m29, .ref m30, .ref m31, .int m32, .int m33, .int m34, .int m35, .ref m36])), (m1, .inl (g 2, 65536, .inl f106_16))] ++ ([] : va_W)) H := hP
  have hD : va_D A ([(h0, .inr (16, [.int 0, .ref m1, .int 17, .ref m3, .ref m4, .ref m5, .ref m6, .ref m7, .ref m8, .ref m9, .ref m10, .ref m11, .int m12, .int m13, .int m14, .ref m15, .int m16, .int m17, .int m18, .int m19, .int m20, .int m21, .int m22, .int m23, .int m24, .int m25, .int m26, .long m27, .int m28, .int m29, .ref m30, .ref m31, .int m32, .int m33, .int m34, .int m35, .ref m36])), (m1, .inl (g 2, 65536, .inl f106_16))] ++ ([] : va_W)) := hD
  refine lv_iinc (v := 16) (lv' := [(8, .int 16), (7, .int n5), (6, .int 4), (0, .ref h0), (1, .int n1), (2, .int n2), (3, .int n3), (4, .int n4), (5, .int n5)]) hx hb d_Mdl_feed_117 hl (k := 0) rfl (by decide) (by decide) rfl (fun ls hl => ?_)
  refine lv_goto (tgt := 87) hx hb d_Mdl_feed_120 (by decide) ?_
  refine lv_iload hx hb d_Mdl_feed_87 (lv_at hl 0 rfl) ?_
  refine lv_if_lt (tgt := 123) hx hb d_Mdl_feed_89 (by decide) (fun c89 => absurd c89 (by decide)) (fun c89 => ?_)
  refine lv_aload_n hx hb d_Mdl_feed_92 rfl (lv_at hl 3 rfl) ?_
  refine va_get (D := D) (ci := 16) (v := .ref m1) (C := "MatrixScriptsModel") (T := T_Mdl) (N := 37) hx hb hT in_Mdl hown hK hP 0 rfl rfl 1 (by decide) (hT _ tw_2216) (fun _ h9 => h9) rfl d_Mdl_feed_93 ?_
  refine lv_aload_n hx hb d_Mdl_feed_96 rfl (lv_at hl 3 rfl) ?_
  refine va_get (D := D) (ci := 16) (v := .int 17) (C := "MatrixScriptsModel") (T := T_Mdl) (N := 37) hx hb hT in_Mdl hown hK hP 0 rfl rfl 2 (by decide) (hT _ tw_2217) (fun _ h9 => h9) rfl d_Mdl_feed_97 ?_
  refine lv_iload hx hb d_Mdl_feed_100 (lv_at hl 1 rfl) ?_
  refine lv_iload hx hb d_Mdl_feed_102 (lv_at hl 0 rfl) ?_
  refine lv_ishr hx hb d_Mdl_feed_104 ?_
  refine lv_topi (fun v104_17 ev104_17 => ?_)
  refine lv_i2b hx hb d_Mdl_feed_105 rfl ?_
  refine lv_topi (fun v105_17 ev105_17 => ?_)
  refine va_bast hx hb hK hP hD hS 1 2 rfl rfl (i := 17) (x := v105_17) (by unfold vp_in; decide) d_Mdl_feed_106 (fun H locs hP hD hS => ?_)
  have hP : va_P D vC ([(h0, .inr (16, [.int 0, .ref m1, .int 17, .ref m3, .ref m4, .ref m5, .ref m6, .ref m7, .ref m8, .ref m9, .ref m10, .ref m11, .int m12, .int m13, .int m14, .ref m15, .int m16, .int m17, .int m18, .int m19, .int m20, .int m21, .int m22, .int m23, .int m24, .int m25, .int m26, .long m27, .int m28, .int m29, .ref m30, .ref m31, .int m32, .int m33, .int m34, .int m35, .ref m36])), (m1, .inl (g 2, 65536, .inl (upd f106_16 17 (vp_nar .byte v105_17))))] ++ ([] : va_W)) H := hP
  have hD : va_D A ([(h0, .inr (16, [.int 0, .ref m1, .int 17, .ref m3, .ref m4, .ref m5, .ref m6, .ref m7, .ref m8, .ref m9, .ref m10, .ref m11, .int m12, .int m13, .int m14, .ref m15, .int m16, .int m17, .int m18, .int m19, .int m20, .int m21, .int m22, .int m23, .int m24, .int m25, .int m26, .long m27, .int m28, .int m29, .ref m30, .ref m31, .int m32, .int m33, .int m34, .int m35, .ref m36])), (m1, .inl (g 2, 65536, .inl (upd f106_16 17 (vp_nar .byte v105_17))))] ++ ([] : va_W)) := hD
  generalize upd f106_16 17 (vp_nar .byte v105_17) = f106_17 at hP hD
  refine lv_aload_n hx hb d_Mdl_feed_107 rfl (lv_at hl 3 rfl) ?_
  refine lv_dup hx hb d_Mdl_feed_108 rfl ?_
  refine va_get (D := D) (ci := 16) (v := .int 17) (C := "MatrixScriptsModel") (T := T_Mdl) (N := 37) hx hb hT in_Mdl hown hK hP 0 rfl rfl 2 (by decide) (hT _ tw_2217) (fun _ h9 => h9) rfl d_Mdl_feed_109 ?_
  refine lv_iconst (v := 1) hx hb d_Mdl_feed_112 (by decide) ?_
  refine lv_iadd hx hb d_Mdl_feed_113 ?_
  refine lv_topi (fun v113_17 ev113_17 => ?_)
  obtain rfl : v113_17 = 18 := ev113_17.trans (by decide)
  refine va_put (D := D) (ci := 16) (v := .int 18) (ty := .int) (C := "MatrixScriptsModel") (T := T_Mdl) (N := 37) hx hb hT in_Mdl ty_Mdl ty_Mdl_ok nm_Mdl hown hK hP hD hS 0 rfl rfl 2 (by decide) (hT _ tw_2217) (fun _ h9 => h9) rfl (by decide +kernel) rfl rfl (Nat.le_of_ble_eq_true rfl) d_Mdl_feed_114 (fun H locs hP hD hS => ?_)
  have hP : va_P D vC ([(h0, .inr (16, [.int 0, .ref m1, .int 18, .ref m3, .ref m4, .ref m5, .ref m6, .ref m7, .ref m8, .ref m9, .ref m10, .ref m11, .int m12, .int m13, .int m14, .ref m15, .int m16, .int m17, .int m18, .int m19, .int m20, .int m21, .int m22, .int m23, .int m24, .int m25, .int m26, .long m27, .int m28, .int m29, .ref m30, .ref m31, .int m32, .int m33, .int m34, .int m35, .ref m36])), (m1, .inl (g 2, 65536, .inl f106_17))] ++ ([] : va_W)) H := hP
  have hD : va_D A ([(h0, .inr (16, [.int 0, .ref m1, .int 18, .ref m3, .ref m4, .ref m5, .ref m6, .ref m7, .ref m8, .ref m9, .ref m10, .ref m11, .int m12, .int m13, .int m14, .ref m15, .int m16, .int m17, .int m18, .int m19, .int m20, .int m21, .int m22, .int m23, .int m24, .int m25, .int m26, .long m27, .int m28, .int m29, .ref m30, .ref m31, .int m32, .int m33, .int m34, .int m35, .ref m36])), (m1, .inl (g 2, 65536, .inl f106_17))] ++ ([] : va_W)) := hD
  refine lv_iinc (v := 8) (lv' := [(8, .int 8), (7, .int n5), (6, .int 4), (0, .ref h0), (1, .int n1), (2, .int n2), (3, .int n3), (4, .int n4), (5, .int n5)]) hx hb d_Mdl_feed_117 hl (k := 0) rfl (by decide) (by decide) rfl (fun ls hl => ?_)
  refine lv_goto (tgt := 87) hx hb d_Mdl_feed_120 (by decide) ?_
  refine lv_iload hx hb d_Mdl_feed_87 (lv_at hl 0 rfl) ?_
  refine lv_if_lt (tgt := 123) hx hb d_Mdl_feed_89 (by decide) (fun c89 => absurd c89 (by decide)) (fun c89 => ?_)
  refine lv_aload_n hx hb d_Mdl_feed_92 rfl (lv_at hl 3 rfl) ?_
  refine va_get (D := D) (ci := 16) (v := .ref m1) (C := "MatrixScriptsModel") (T := T_Mdl) (N := 37) hx hb hT in_Mdl hown hK hP 0 rfl rfl 1 (by decide) (hT _ tw_2216) (fun _ h9 => h9) rfl d_Mdl_feed_93 ?_
  refine lv_aload_n hx hb d_Mdl_feed_96 rfl (lv_at hl 3 rfl) ?_
  refine va_get (D := D) (ci := 16) (v := .int 18) (C := "MatrixScriptsModel") (T := T_Mdl) (N := 37) hx hb hT in_Mdl hown hK hP 0 rfl rfl 2 (by decide) (hT _ tw_2217) (fun _ h9 => h9) rfl d_Mdl_feed_97 ?_
  refine lv_iload hx hb d_Mdl_feed_100 (lv_at hl 1 rfl) ?_
  refine lv_iload hx hb d_Mdl_feed_102 (lv_at hl 0 rfl) ?_
  refine lv_ishr hx hb d_Mdl_feed_104 ?_
  refine lv_topi (fun v104_18 ev104_18 => ?_)
  refine lv_i2b hx hb d_Mdl_feed_105 rfl ?_
  refine lv_topi (fun v105_18 ev105_18 => ?_)
  refine va_bast hx hb hK hP hD hS 1 2 rfl rfl (i := 18) (x := v105_18) (by unfold vp_in; decide) d_Mdl_feed_106 (fun H locs hP hD hS => ?_)
  have hP : va_P D vC ([(h0, .inr (16, [.int 0, .ref m1, .int 18, .ref m3, .ref m4, .ref m5, .ref m6, .ref m7, .ref m8, .ref m9, .ref m10, .ref m11, .int m12, .int m13, .int m14, .ref m15, .int m16, .int m17, .int m18, .int m19, .int m20, .int m21, .int m22, .int m23, .int m24, .int m25, .int m26, .long m27, .int m28, .int m29, .ref m30, .ref m31, .int m32, .int m33, .int m34, .int m35, .ref m36])), (m1, .inl (g 2, 65536, .inl (upd f106_17 18 (vp_nar .byte v105_18))))] ++ ([] : va_W)) H := hP
  have hD : va_D A ([(h0, .inr (16, [.int 0, .ref m1, .int 18, .ref m3, .ref m4, .ref m5, .ref m6, .ref m7, .ref m8, .ref m9, .ref m10, .ref m11, .int m12, .int m13, .int m14, .ref m15, .int m16, .int m17, .int m18, .int m19, .int m20, .int m21, .int m22, .int m23, .int m24, .int m25, .int m26, .long m27, .int m28, .int m29, .ref m30, .ref m31, .int m32, .int m33, .int m34, .int m35, .ref m36])), (m1, .inl (g 2, 65536, .inl (upd f106_17 18 (vp_nar .byte v105_18))))] ++ ([] : va_W)) := hD
  generalize upd f106_17 18 (vp_nar .byte v105_18) = f106_18 at hP hD
  refine lv_aload_n hx hb d_Mdl_feed_107 rfl (lv_at hl 3 rfl) ?_
  refine lv_dup hx hb d_Mdl_feed_108 rfl ?_
  refine va_get (D := D) (ci := 16) (v := .int 18) (C := "MatrixScriptsModel") (T := T_Mdl) (N := 37) hx hb hT in_Mdl hown hK hP 0 rfl rfl 2 (by decide) (hT _ tw_2217) (fun _ h9 => h9) rfl d_Mdl_feed_109 ?_
  refine lv_iconst (v := 1) hx hb d_Mdl_feed_112 (by decide) ?_
  refine lv_iadd hx hb d_Mdl_feed_113 ?_
  refine lv_topi (fun v113_18 ev113_18 => ?_)
  obtain rfl : v113_18 = 19 := ev113_18.trans (by decide)
  refine va_put (D := D) (ci := 16) (v := .int 19) (ty := .int) (C := "MatrixScriptsModel") (T := T_Mdl) (N := 37) hx hb hT in_Mdl ty_Mdl ty_Mdl_ok nm_Mdl hown hK hP hD hS 0 rfl rfl 2 (by decide) (hT _ tw_2217) (fun _ h9 => h9) rfl (by decide +kernel) rfl rfl (Nat.le_of_ble_eq_true rfl) d_Mdl_feed_114 (fun H locs hP hD hS => ?_)
  have hP : va_P D vC ([(h0, .inr (16, [.int 0, .ref m1, .int 19, .ref m3, .ref m4, .ref m5, .ref m6, .ref m7, .ref m8, .ref m9, .ref m10, .ref m11, .int m12, .int m13, .int m14, .ref m15, .int m16, .int m17, .int m18, .int m19, .int m20, .int m21, .int m22, .int m23, .int m24, .int m25, .int m26, .long m27, .int m28, .int m29, .ref m30, .ref m31, .int m32, .int m33, .int m34, .int m35, .ref m36])), (m1, .inl (g 2, 65536, .inl f106_18))] ++ ([] : va_W)) H := hP
  have hD : va_D A ([(h0, .inr (16, [.int 0, .ref m1, .int 19, .ref m3, .ref m4, .ref m5, .ref m6, .ref m7, .ref m8, .ref m9, .ref m10, .ref m11, .int m12, .int m13, .int m14, .ref m15, .int m16, .int m17, .int m18, .int m19, .int m20, .int m21, .int m22, .int m23, .int m24, .int m25, .int m26, .long m27, .int m28, .int m29, .ref m30, .ref m31, .int m32, .int m33, .int m34, .int m35, .ref m36])), (m1, .inl (g 2, 65536, .inl f106_18))] ++ ([] : va_W)) := hD
  refine lv_iinc (v := 0) (lv' := [(8, .int 0), (7, .int n5), (6, .int 4), (0, .ref h0), (1, .int n1), (2, .int n2), (3, .int n3), (4, .int n4), (5, .int n5)]) hx hb d_Mdl_feed_117 hl (k := 0) rfl (by decide) (by decide) rfl (fun ls hl => ?_)
  refine lv_goto (tgt := 87) hx hb d_Mdl_feed_120 (by decide) ?_
  refine lv_iload hx hb d_Mdl_feed_87 (lv_at hl 0 rfl) ?_
  refine lv_if_lt (tgt := 123) hx hb d_Mdl_feed_89 (by decide) (fun c89 => absurd c89 (by decide)) (fun c89 => ?_)
  refine lv_aload_n hx hb d_Mdl_feed_92 rfl (lv_at hl 3 rfl) ?_
  refine va_get (D := D) (ci := 16) (v := .ref m1) (C := "MatrixScriptsModel") (T := T_Mdl) (N := 37) hx hb hT in_Mdl hown hK hP 0 rfl rfl 1 (by decide) (hT _ tw_2216) (fun _ h9 => h9) rfl d_Mdl_feed_93 ?_
  refine lv_aload_n hx hb d_Mdl_feed_96 rfl (lv_at hl 3 rfl) ?_
  refine va_get (D := D) (ci := 16) (v := .int 19) (C := "MatrixScriptsModel") (T := T_Mdl) (N := 37) hx hb hT in_Mdl hown hK hP 0 rfl rfl 2 (by decide) (hT _ tw_2217) (fun _ h9 => h9) rfl d_Mdl_feed_97 ?_
  refine lv_iload hx hb d_Mdl_feed_100 (lv_at hl 1 rfl) ?_
  refine lv_iload hx hb d_Mdl_feed_102 (lv_at hl 0 rfl) ?_
  refine lv_ishr hx hb d_Mdl_feed_104 ?_
  refine lv_topi (fun v104_19 ev104_19 => ?_)
  refine lv_i2b hx hb d_Mdl_feed_105 rfl ?_
  refine lv_topi (fun v105_19 ev105_19 => ?_)
  refine va_bast hx hb hK hP hD hS 1 2 rfl rfl (i := 19) (x := v105_19) (by unfold vp_in; decide) d_Mdl_feed_106 (fun H locs hP hD hS => ?_)
  have hP : va_P D vC ([(h0, .inr (16, [.int 0, .ref m1, .int 19, .ref m3, .ref m4, .ref m5, .ref m6, .ref m7, .ref m8, .ref m9, .ref m10, .ref m11, .int m12, .int m13, .int m14, .ref m15, .int m16, .int m17, .int m18, .int m19, .int m20, .int m21, .int m22, .int m23, .int m24, .int m25, .int m26, .long m27, .int m28, .int m29, .ref m30, .ref m31, .int m32, .int m33, .int m34, .int m35, .ref m36])), (m1, .inl (g 2, 65536, .inl (upd f106_18 19 (vp_nar .byte v105_19))))] ++ ([] : va_W)) H := hP
  have hD : va_D A ([(h0, .inr (16, [.int 0, .ref m1, .int 19, .ref m3, .ref m4, .ref m5, .ref m6, .ref m7, .ref m8, .ref m9, .ref m10, .ref m11, .int m12, .int m13, .int m14, .ref m15, .int m16, .int m17, .int m18, .int m19, .int m20, .int m21, .int m22, .int m23, .int m24, .int m25, .int m26, .long m27, .int m28, .int m29, .ref m30, .ref m31, .int m32, .int m33, .int m34, .int m35, .ref m36])), (m1, .inl (g 2, 65536, .inl (upd f106_18 19 (vp_nar .byte v105_19))))] ++ ([] : va_W)) := hD
  generalize upd f106_18 19 (vp_nar .byte v105_19) = f106_19 at hP hD
  refine lv_aload_n hx hb d_Mdl_feed_107 rfl (lv_at hl 3 rfl) ?_
  refine lv_dup hx hb d_Mdl_feed_108 rfl ?_
  refine va_get (D := D) (ci := 16) (v := .int 19) (C := "MatrixScriptsModel") (T := T_Mdl) (N := 37) hx hb hT in_Mdl hown hK hP 0 rfl rfl 2 (by decide) (hT _ tw_2217) (fun _ h9 => h9) rfl d_Mdl_feed_109 ?_
  refine lv_iconst (v := 1) hx hb d_Mdl_feed_112 (by decide) ?_
  refine lv_iadd hx hb d_Mdl_feed_113 ?_
  refine lv_topi (fun v113_19 ev113_19 => ?_)
  obtain rfl : v113_19 = 20 := ev113_19.trans (by decide)
  refine va_put (D := D) (ci := 16) (v := .int 20) (ty := .int) (C := "MatrixScriptsModel") (T := T_Mdl) (N := 37) hx hb hT in_Mdl ty_Mdl ty_Mdl_ok nm_Mdl hown hK hP hD hS 0 rfl rfl 2 (by decide) (hT _ tw_2217) (fun _ h9 => h9) rfl (by decide +kernel) rfl rfl (Nat.le_of_ble_eq_true rfl) d_Mdl_feed_114 (fun H locs hP hD hS => ?_)
  have hP : va_P D vC ([(h0, .inr (16, [.int 0, .ref m1, .int 20, .ref m3, .ref m4, .ref m5, .ref m6, .ref m7, .ref m8, .ref m9, .ref m10, .ref m11, .int m12, .int m13, .int m14, .ref m15, .int m16, .int m17, .int m18, .int m19, .int m20, .int m21, .int m22, .int m23, .int m24, .int m25, .int m26, .long m27, .int m28, .int m29, .ref m30, .ref m31, .int m32, .int m33, .int m34, .int m35, .ref m36])), (m1, .inl (g 2, 65536, .inl f106_19))] ++ ([] : va_W)) H := hP
  have hD : va_D A ([(h0, .inr (16, [.int 0, .ref m1, .int 20, .ref m3, .ref m4, .ref m5, .ref m6, .ref m7, .ref m8, .ref m9, .ref m10, .ref m11, .int m12, .int m13, .int m14, .ref m15, .int m16, .int m17, .int m18, .int m19, .int m20, .int m21, .int m22, .int m23, .int m24, .int m25, .int m26, .long m27, .int m28, .int m29, .ref m30, .ref m31, .int m32, .int m33, .int m34, .int m35, .ref m36])), (m1, .inl (g 2, 65536, .inl f106_19))] ++ ([] : va_W)) := hD
  refine lv_iinc (v := (-8)) (lv' := [(8, .int (-8)), (7, .int n5), (6, .int 4), (0, .ref h0), (1, .int n1), (2, .int n2), (3, .int n3), (4, .int n4), (5, .int n5)]) hx hb d_Mdl_feed_117 hl (k := 0) rfl (by decide) (by decide) rfl (fun ls hl => ?_)
  refine lv_goto (tgt := 87) hx hb d_Mdl_feed_120 (by decide) ?_
  refine lv_iload hx hb d_Mdl_feed_87 (lv_at hl 0 rfl) ?_
  refine lv_if_lt (tgt := 123) hx hb d_Mdl_feed_89 (by decide) (fun c89 => ?_) (fun c89 => absurd (by decide) c89)
  refine lv_iinc (v := 5) (lv' := [(6, .int 5), (8, .int (-8)), (7, .int n5), (0, .ref h0), (1, .int n1), (2, .int n2), (3, .int n3), (4, .int n4), (5, .int n5)]) hx hb d_Mdl_feed_123 hl (k := 2) rfl (by decide) (by decide) rfl (fun ls hl => ?_)
  refine lv_goto (tgt := 33) hx hb d_Mdl_feed_126 (by decide) ?_
  refine lv_iload hx hb d_Mdl_feed_33 (lv_at hl 0 rfl) ?_
  refine lv_iconst (v := 5) hx hb d_Mdl_feed_35 (by decide) ?_
  refine lv_icmp_ge (tgt := 129) hx hb d_Mdl_feed_36 (by decide) (fun c36 => ?_) (fun c36 => absurd (by decide) c36)
  refine lv_aload_n hx hb d_Mdl_feed_129 rfl (lv_at hl 3 rfl) ?_
  refine va_get (D := D) (ci := 16) (v := .int 20) (C := "MatrixScriptsModel") (T := T_Mdl) (N := 37) hx hb hT in_Mdl hown hK hP 0 rfl rfl 2 (by decide) (hT _ tw_2217) (fun _ h9 => h9) rfl d_Mdl_feed_130 ?_
  have hP9 := pm_subP (a' := [(h0, .inr (16, [.int 0, .ref m1, .int 20, .ref m3, .ref m4, .ref m5, .ref m6, .ref m7, .ref m8, .ref m9, .ref m10, .ref m11, .int m12, .int m13, .int m14, .ref m15, .int m16, .int m17, .int m18, .int m19, .int m20, .int m21, .int m22, .int m23, .int m24, .int m25, .int m26, .long m27, .int m28, .int m29, .ref m30, .ref m31, .int m32, .int m33, .int m34, .int m35, .ref m36])), (m1, .inl (g 2, 65536, .inl f106_19))]) hP [0, 1] rfl
  have hD9 := pm_subD (a' := [(h0, .inr (16, [.int 0, .ref m1, .int 20, .ref m3, .ref m4, .ref m5, .ref m6, .ref m7, .ref m8, .ref m9, .ref m10, .ref m11, .int m12, .int m13, .int m14, .ref m15, .int m16, .int m17, .int m18, .int m19, .int m20, .int m21, .int m22, .int m23, .int m24, .int m25, .int m26, .long m27, .int m28, .int m29, .ref m30, .ref m31, .int m32, .int m33, .int m34, .int m35, .ref m36])), (m1, .inl (g 2, 65536, .inl f106_19))]) hD [0, 1] (by decide) rfl
  refine W.widen (k := 0) (n := 0) (Nat.le_of_ble_eq_true rfl) (Nat.le_of_ble_eq_true rfl) ?_
  exact W.iret (v := 20) hx hb hr (fun t ht1 hW => ⟨⟨_, f106_19, rfl, rfl, by rw [ht1]; exact hP9, hD9⟩, hS.F ht1⟩) hS.2.2 d_Mdl_feed_133
def w_Law_feed : List Cond := .codeWith ⟨"MatrixScriptsLaw", "feed", "(LMatrixScripts;IIIII[J)I"⟩ method_3_code 8 (some .int) [((0 : Nat), (16 : Nat), (19 : Nat), (13 : Nat))] :: wd_all
theorem gd_Law_feed : GoodIn wd_all w_Law_feed := gd_of tw_2049
set_option maxHeartbeats 4000000 in
set_option maxRecDepth 100000 in
theorem c_Law_feed_e (l : Launch) (D : va_G) (g : Nat → ClassId) (h0 : Nat) (m0 : Nat) (m1 : Nat) (m2 : Nat) (t0 : Nat) (t2 : Int32) (t3 : Int32) (t4 : Int32) (af : Nat → Int32) (of : Nat → Int64) (n1 : Int32) (n2 : Int32) (n3 : Int32) (n4 : Int32) (n5 : Int32) (o : Nat) (sz : Nat) : Met l ⟨"MatrixScriptsLaw", "feed", "(LMatrixScripts;IIIII[J)I"⟩ w_Law_feed { frames := 2, cells := 0, slots := 0, locals := 49 } (cp D g [.ref h0, .int n1, .int n2, .int n3, .int n4, .int n5, .ref o] [(h0, .inr (12, [.ref m0, .ref m1, .ref m2])), (m1, .inr (9, [.ref t0, .int 0, .int t2, .int t3, .int t4])), (t0, .inl (g 0, 64, .inl af)), (o, .inl (g 1, 1, .inr (.inl of)))] sz) (ci D (va_A [(h0, .inr (12, [.ref m0, .ref m1, .ref m2])), (m1, .inr (9, [.ref t0, .int 0, .int t2, .int t3, .int t4])), (t0, .inl (g 0, 64, .inl af)), (o, .inl (g 1, 1, .inr (.inl of)))] sz) (fun r u => r = 0 ∧ u.2 0 = 20) (fun u : (Nat → Int32) × (Nat → Int64) => [(h0, .inr (12, [.ref m0, .ref m1, .ref m2])), (m1, .inr (9, [.ref t0, .int 20, .int t2, .int t3, .int t4])), (t0, .inl (g 0, 64, .inl u.1)), (o, .inl (g 1, 1, .inr (.inl u.2)))])) 0 0 (va_A [(h0, .inr (12, [.ref m0, .ref m1, .ref m2])), (m1, .inr (9, [.ref t0, .int 0, .int t2, .int t3, .int t4])), (t0, .inl (g 0, 64, .inl af)), (o, .inl (g 1, 1, .inr (.inl of)))] sz) := by
  refine Met.ofWH (cc := method_3_code) (maxL := 8) (ret := (some .int)) (by decide) rfl ?_
  intro p e s m args below meth c s₁ B0 hml htab hv
  obtain ⟨rfl, hsz, hP, hK, hD0, hN⟩ := hv
  have hx := B0.exec
  have hb := B0.bytes
  have hr := B0.returns
  have hts := atoms_spec (ws := w_Law_feed) B0.pre
  have hT := fun (w : Cond) (h : w ∈ wd_all) => hts w (List.mem_cons_of_mem _ h)
  have hown : s.vm.findClass "MatrixScriptsLaw" = some m.cls := findClass_of_methodNamed B0.named
  have hlocks := B0.notSynchronized
  subst hsz
  have hD := hD0.self (sz := s.heap.size)
  generalize hAe : va_A [(h0, .inr (12, [.ref m0, .ref m1, .ref m2])), (m1, .inr (9, [.ref t0, .int 0, .int t2, .int t3, .int t4])), (t0, .inl (g 0, 64, .inl af)), (o, .inl (g 1, 1, .inr (.inl of)))] s.heap.size = A at hD ⊢
  have hA : ∀ q : Nat, s.heap.size ≤ q → A q := fun q h => by rw [← hAe]; exact Or.inr h
  have hS : va_S A s.heap s.heap [] := va_S.rf
  have hP : va_P D vC ([(h0, .inr (12, [.ref m0, .ref m1, .ref m2])), (m1, .inr (9, [.ref t0, .int 0, .int t2, .int t3, .int t4])), (t0, .inl (g 0, 64, .inl af)), (o, .inl (g 1, 1, .inr (.inl of)))] ++ ([] : va_W)) s.heap := hP
  have hD : va_D A ([(h0, .inr (12, [.ref m0, .ref m1, .ref m2])), (m1, .inr (9, [.ref t0, .int 0, .int t2, .int t3, .int t4])), (t0, .inl (g 0, 64, .inl af)), (o, .inl (g 1, 1, .inr (.inl of)))] ++ ([] : va_W)) := hD
  have hl := lv_entry ([.ref h0, .int n1, .int n2, .int n3, .int n4, .int n5, .ref o]) (n := 8) (Nat.le_of_ble_eq_true rfl)
  rw [lg_entry_eq]
  generalize (lg_sl ([.ref h0, .int n1, .int n2, .int n3, .int n4, .int n5, .ref o]) ++ List.replicate (8 - (lg_sl ([.ref h0, .int n1, .int n2, .int n3, .int n4, .int n5, .ref o])).length) Slot.unset).toArray = ls at hl ⊢
  have hl : lv_has ls 8 [(0, .ref h0), (1, .int n1), (2, .int n2), (3, .int n3), (4, .int n4), (5, .int n5), (6, .ref o)] := hl
  refine lv_aload hx hb d_Law_feed_0 (lv_at hl 6 rfl) ?_
  refine lv_iconst (v := 0) hx hb d_Law_feed_2 (by decide) ?_
  refine lv_aload_n hx hb d_Law_feed_3 rfl (lv_at hl 0 rfl) ?_
  refine lv_iload_n hx hb d_Law_feed_4 rfl (lv_at hl 1 rfl) ?_
  refine lv_iload_n hx hb d_Law_feed_5 rfl (lv_at hl 2 rfl) ?_
  refine lv_iload_n hx hb d_Law_feed_6 rfl (lv_at hl 3 rfl) ?_
  refine lv_iload hx hb d_Law_feed_7 (lv_at hl 4 rfl) ?_
  refine lv_iload hx hb d_Law_feed_9 (lv_at hl 5 rfl) ?_
  have hP : va_P D vC ([(h0, .inr (12, [.ref m0, .ref m1, .ref m2])), (m1, .inr (9, [.ref t0, .int 0, .int t2, .int t3, .int t4])), (t0, .inl (g 0, 64, .inl af))] ++ ([(o, .inl (g 1, 1, .inr (.inl of)))] ++ ([] : va_W))) s.heap := hP
  have hD : va_D A ([(h0, .inr (12, [.ref m0, .ref m1, .ref m2])), (m1, .inr (9, [.ref t0, .int 0, .int t2, .int t3, .int t4])), (t0, .inl (g 0, 64, .inl af))] ++ ([(o, .inl (g 1, 1, .inr (.inl of)))] ++ ([] : va_W))) := hD
  have hFc := pm_free hD hS hA
  refine va_calli (va_runV (As := [.int n1, .int n2, .int n3, .int n4, .int n5]) (rest := [.int 0, .ref o]) ⟨hx, hb, hml, hown, hT⟩ (c_Ms_feed_e l D g h0 m0 m1 m2 t0 t2 t3 t4 af n1 n2 n3 n4 n5 s.heap.size) (cwV 5 hT (gdV tw_2051 tw_2052 tw_2053 tw_154 tw_2054) rfl rfl rfl (by decide +kernel) ⟨Nat.le_of_ble_eq_true rfl, Nat.le_of_ble_eq_true rfl⟩) (cp_V (C := "MatrixScripts") (T := T_Ms) (N := 3) (ci := 12) hP hK hD hN rfl) rfl rfl hl.1 rfl (lv_room (Nat.le_of_ble_eq_true rfl)) d_Law_feed_11 ⟨Nat.le_of_ble_eq_true rfl, Nat.le_of_ble_eq_true rfl⟩) hS (fun q _ h => hFc q h) hFc (fun r11 u11 t H1 locs ht1 hvm hw hB hz1 hk1 hS => ?_)
  obtain ⟨hP1, hD1⟩ := hB
  rw [ht1] at hP1
  obtain ⟨hP, hD⟩ := pm_join hP hD hk1 hFc hP1 hD1
  generalize H1 = H at hP hS ⊢
  have hw11 := hw
  have hP : va_P D vC ([(h0, .inr (12, [.ref m0, .ref m1, .ref m2])), (m1, .inr (9, [.ref t0, .int 20, .int t2, .int t3, .int t4])), (t0, .inl (g 0, 64, .inl u11)), (o, .inl (g 1, 1, .inr (.inl of)))] ++ ([] : va_W)) H := hP
  have hD : va_D A ([(h0, .inr (12, [.ref m0, .ref m1, .ref m2])), (m1, .inr (9, [.ref t0, .int 20, .int t2, .int t3, .int t4])), (t0, .inl (g 0, 64, .inl u11)), (o, .inl (g 1, 1, .inr (.inl of)))] ++ ([] : va_W)) := hD
  obtain rfl : r11 = 20 := hw
  refine lv_i2l hx hb d_Law_feed_14 rfl ?_
  refine lv_topl (fun w14 ew14 => ?_)
  refine va_last hx hb hK hP hD hS 3 1 rfl rfl (i := 0) (x := w14) (by unfold vp_in; decide) d_Law_feed_15 (fun H locs hP hD hS => ?_)
  have hP : va_P D vC ([(h0, .inr (12, [.ref m0, .ref m1, .ref m2])), (m1, .inr (9, [.ref t0, .int 20, .int t2, .int t3, .int t4])), (t0, .inl (g 0, 64, .inl u11)), (o, .inl (g 1, 1, .inr (.inl (vp_updL of 0 w14))))] ++ ([] : va_W)) H := hP
  have hD : va_D A ([(h0, .inr (12, [.ref m0, .ref m1, .ref m2])), (m1, .inr (9, [.ref t0, .int 20, .int t2, .int t3, .int t4])), (t0, .inl (g 0, 64, .inl u11)), (o, .inl (g 1, 1, .inr (.inl (vp_updL of 0 w14))))] ++ ([] : va_W)) := hD
  refine lv_goto (tgt := 23) hx hb d_Law_feed_16 (by decide) ?_
  refine lv_iconst (v := 0) hx hb d_Law_feed_23 (by decide) ?_
  have hP9 := pm_subP (a' := [(h0, .inr (12, [.ref m0, .ref m1, .ref m2])), (m1, .inr (9, [.ref t0, .int 20, .int t2, .int t3, .int t4])), (t0, .inl (g 0, 64, .inl u11)), (o, .inl (g 1, 1, .inr (.inl (vp_updL of 0 w14))))]) hP [0, 1, 2, 3] rfl
  have hD9 := pm_subD (a' := [(h0, .inr (12, [.ref m0, .ref m1, .ref m2])), (m1, .inr (9, [.ref t0, .int 20, .int t2, .int t3, .int t4])), (t0, .inl (g 0, 64, .inl u11)), (o, .inl (g 1, 1, .inr (.inl (vp_updL of 0 w14))))]) hD [0, 1, 2, 3] (by decide) rfl
  refine W.widen (k := 0) (n := 0) (Nat.le_of_ble_eq_true rfl) (Nat.le_of_ble_eq_true rfl) ?_
  exact W.iret (v := 0) hx hb hr (fun t ht1 hW => ⟨⟨_, (u11, vp_updL of 0 w14), rfl, ⟨rfl, by rw [ew14]; rfl⟩, by rw [ht1]; exact hP9, hD9⟩, hS.F ht1⟩) hS.2.2 d_Law_feed_24
