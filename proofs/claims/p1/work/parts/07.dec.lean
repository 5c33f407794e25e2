theorem d_Whole_init_0 : decode prog_15_method_1_code 0 = .ok (.aload_n 0, 1) := by decide +kernel
theorem d_Whole_init_1 : decode prog_15_method_1_code 1 = .ok (.invokespecial 1, 3) := by decide +kernel
theorem d_Whole_init_4 : decode prog_15_method_1_code 4 = .ok (.aload_n 0, 1) := by decide +kernel
theorem d_Whole_init_5 : decode prog_15_method_1_code 5 = .ok (.iconst 3, 1) := by decide +kernel
theorem d_Whole_init_6 : decode prog_15_method_1_code 6 = .ok (.newarray .int, 2) := by decide +kernel
theorem d_Whole_init_8 : decode prog_15_method_1_code 8 = .ok (.putfield 7, 3) := by decide +kernel
theorem d_Whole_init_11 : decode prog_15_method_1_code 11 = .ok (.return_, 1) := by decide +kernel
theorem d_Tape_init_0 : decode prog_13_method_1_code 0 = .ok (.aload_n 0, 1) := by decide +kernel
theorem d_Tape_init_1 : decode prog_13_method_1_code 1 = .ok (.invokespecial 3, 3) := by decide +kernel
theorem d_Tape_init_4 : decode prog_13_method_1_code 4 = .ok (.aload_n 0, 1) := by decide +kernel
theorem d_Tape_init_5 : decode prog_13_method_1_code 5 = .ok (.bipush 64, 2) := by decide +kernel
theorem d_Tape_init_7 : decode prog_13_method_1_code 7 = .ok (.newarray .int, 2) := by decide +kernel
theorem d_Tape_init_9 : decode prog_13_method_1_code 9 = .ok (.putfield 9, 3) := by decide +kernel
theorem d_Tape_init_12 : decode prog_13_method_1_code 12 = .ok (.return_, 1) := by decide +kernel
theorem d_Page_init_0 : decode prog_10_method_1_code 0 = .ok (.aload_n 0, 1) := by decide +kernel
theorem d_Page_init_1 : decode prog_10_method_1_code 1 = .ok (.invokespecial 1, 3) := by decide +kernel
theorem d_Page_init_4 : decode prog_10_method_1_code 4 = .ok (.aload_n 0, 1) := by decide +kernel
theorem d_Page_init_5 : decode prog_10_method_1_code 5 = .ok (.bipush 64, 2) := by decide +kernel
theorem d_Page_init_7 : decode prog_10_method_1_code 7 = .ok (.newarray .int, 2) := by decide +kernel
theorem d_Page_init_9 : decode prog_10_method_1_code 9 = .ok (.putfield 7, 3) := by decide +kernel
theorem d_Page_init_12 : decode prog_10_method_1_code 12 = .ok (.aload_n 0, 1) := by decide +kernel
theorem d_Page_init_13 : decode prog_10_method_1_code 13 = .ok (.new 13, 3) := by decide +kernel
theorem d_Page_init_16 : decode prog_10_method_1_code 16 = .ok (.dup, 1) := by decide +kernel
theorem d_Page_init_17 : decode prog_10_method_1_code 17 = .ok (.invokespecial 15, 3) := by decide +kernel
theorem d_Page_init_20 : decode prog_10_method_1_code 20 = .ok (.putfield 16, 3) := by decide +kernel
theorem d_Page_init_23 : decode prog_10_method_1_code 23 = .ok (.aload_n 0, 1) := by decide +kernel
theorem d_Page_init_24 : decode prog_10_method_1_code 24 = .ok (.new 13, 3) := by decide +kernel
theorem d_Page_init_27 : decode prog_10_method_1_code 27 = .ok (.dup, 1) := by decide +kernel
theorem d_Page_init_28 : decode prog_10_method_1_code 28 = .ok (.invokespecial 15, 3) := by decide +kernel
theorem d_Page_init_31 : decode prog_10_method_1_code 31 = .ok (.putfield 20, 3) := by decide +kernel
theorem d_Page_init_34 : decode prog_10_method_1_code 34 = .ok (.aload_n 0, 1) := by decide +kernel
theorem d_Page_init_35 : decode prog_10_method_1_code 35 = .ok (.sipush 160, 3) := by decide +kernel
theorem d_Page_init_38 : decode prog_10_method_1_code 38 = .ok (.newarray .int, 2) := by decide +kernel
theorem d_Page_init_40 : decode prog_10_method_1_code 40 = .ok (.putfield 23, 3) := by decide +kernel
theorem d_Page_init_43 : decode prog_10_method_1_code 43 = .ok (.return_, 1) := by decide +kernel
theorem d_Values_init_0 : decode prog_14_method_1_code 0 = .ok (.aload_n 0, 1) := by decide +kernel
theorem d_Values_init_1 : decode prog_14_method_1_code 1 = .ok (.invokespecial 1, 3) := by decide +kernel
theorem d_Values_init_4 : decode prog_14_method_1_code 4 = .ok (.aload_n 0, 1) := by decide +kernel
theorem d_Values_init_5 : decode prog_14_method_1_code 5 = .ok (.sipush 256, 3) := by decide +kernel
theorem d_Values_init_8 : decode prog_14_method_1_code 8 = .ok (.newarray .int, 2) := by decide +kernel
theorem d_Values_init_10 : decode prog_14_method_1_code 10 = .ok (.putfield 7, 3) := by decide +kernel
theorem d_Values_init_13 : decode prog_14_method_1_code 13 = .ok (.aload_n 0, 1) := by decide +kernel
theorem d_Values_init_14 : decode prog_14_method_1_code 14 = .ok (.bipush 16, 2) := by decide +kernel
theorem d_Values_init_16 : decode prog_14_method_1_code 16 = .ok (.newarray .int, 2) := by decide +kernel
theorem d_Values_init_18 : decode prog_14_method_1_code 18 = .ok (.putfield 13, 3) := by decide +kernel
theorem d_Values_init_21 : decode prog_14_method_1_code 21 = .ok (.return_, 1) := by decide +kernel
theorem d_Matrix_init_0 : decode prog_8_method_1_code 0 = .ok (.aload_n 0, 1) := by decide +kernel
theorem d_Matrix_init_1 : decode prog_8_method_1_code 1 = .ok (.invokespecial 1, 3) := by decide +kernel
theorem d_Matrix_init_4 : decode prog_8_method_1_code 4 = .ok (.aload_n 0, 1) := by decide +kernel
theorem d_Matrix_init_5 : decode prog_8_method_1_code 5 = .ok (.new 7, 3) := by decide +kernel
theorem d_Matrix_init_8 : decode prog_8_method_1_code 8 = .ok (.dup, 1) := by decide +kernel
theorem d_Matrix_init_9 : decode prog_8_method_1_code 9 = .ok (.invokespecial 9, 3) := by decide +kernel
theorem d_Matrix_init_12 : decode prog_8_method_1_code 12 = .ok (.putfield 10, 3) := by decide +kernel
theorem d_Matrix_init_15 : decode prog_8_method_1_code 15 = .ok (.aload_n 0, 1) := by decide +kernel
theorem d_Matrix_init_16 : decode prog_8_method_1_code 16 = .ok (.bipush 16, 2) := by decide +kernel
theorem d_Matrix_init_18 : decode prog_8_method_1_code 18 = .ok (.anewarray 7, 3) := by decide +kernel
theorem d_Matrix_init_21 : decode prog_8_method_1_code 21 = .ok (.putfield 16, 3) := by decide +kernel
theorem d_Matrix_init_24 : decode prog_8_method_1_code 24 = .ok (.return_, 1) := by decide +kernel
theorem d_Calc_init_0 : decode prog_3_method_1_code 0 = .ok (.aload_n 0, 1) := by decide +kernel
theorem d_Calc_init_1 : decode prog_3_method_1_code 1 = .ok (.invokespecial 1, 3) := by decide +kernel
theorem d_Calc_init_4 : decode prog_3_method_1_code 4 = .ok (.aload_n 0, 1) := by decide +kernel
theorem d_Calc_init_5 : decode prog_3_method_1_code 5 = .ok (.new 7, 3) := by decide +kernel
theorem d_Calc_init_8 : decode prog_3_method_1_code 8 = .ok (.dup, 1) := by decide +kernel
theorem d_Calc_init_9 : decode prog_3_method_1_code 9 = .ok (.invokespecial 9, 3) := by decide +kernel
theorem d_Calc_init_12 : decode prog_3_method_1_code 12 = .ok (.putfield 10, 3) := by decide +kernel
theorem d_Calc_init_15 : decode prog_3_method_1_code 15 = .ok (.aload_n 0, 1) := by decide +kernel
theorem d_Calc_init_16 : decode prog_3_method_1_code 16 = .ok (.new 7, 3) := by decide +kernel
theorem d_Calc_init_19 : decode prog_3_method_1_code 19 = .ok (.dup, 1) := by decide +kernel
theorem d_Calc_init_20 : decode prog_3_method_1_code 20 = .ok (.invokespecial 9, 3) := by decide +kernel
theorem d_Calc_init_23 : decode prog_3_method_1_code 23 = .ok (.putfield 16, 3) := by decide +kernel
theorem d_Calc_init_26 : decode prog_3_method_1_code 26 = .ok (.aload_n 0, 1) := by decide +kernel
theorem d_Calc_init_27 : decode prog_3_method_1_code 27 = .ok (.new 7, 3) := by decide +kernel
theorem d_Calc_init_30 : decode prog_3_method_1_code 30 = .ok (.dup, 1) := by decide +kernel
theorem d_Calc_init_31 : decode prog_3_method_1_code 31 = .ok (.invokespecial 9, 3) := by decide +kernel
theorem d_Calc_init_34 : decode prog_3_method_1_code 34 = .ok (.putfield 19, 3) := by decide +kernel
theorem d_Calc_init_37 : decode prog_3_method_1_code 37 = .ok (.aload_n 0, 1) := by decide +kernel
theorem d_Calc_init_38 : decode prog_3_method_1_code 38 = .ok (.new 7, 3) := by decide +kernel
theorem d_Calc_init_41 : decode prog_3_method_1_code 41 = .ok (.dup, 1) := by decide +kernel
theorem d_Calc_init_42 : decode prog_3_method_1_code 42 = .ok (.invokespecial 9, 3) := by decide +kernel
theorem d_Calc_init_45 : decode prog_3_method_1_code 45 = .ok (.putfield 22, 3) := by decide +kernel
theorem d_Calc_init_48 : decode prog_3_method_1_code 48 = .ok (.aload_n 0, 1) := by decide +kernel
theorem d_Calc_init_49 : decode prog_3_method_1_code 49 = .ok (.new 7, 3) := by decide +kernel
theorem d_Calc_init_52 : decode prog_3_method_1_code 52 = .ok (.dup, 1) := by decide +kernel
theorem d_Calc_init_53 : decode prog_3_method_1_code 53 = .ok (.invokespecial 9, 3) := by decide +kernel
theorem d_Calc_init_56 : decode prog_3_method_1_code 56 = .ok (.putfield 25, 3) := by decide +kernel
theorem d_Calc_init_59 : decode prog_3_method_1_code 59 = .ok (.aload_n 0, 1) := by decide +kernel
theorem d_Calc_init_60 : decode prog_3_method_1_code 60 = .ok (.new 7, 3) := by decide +kernel
theorem d_Calc_init_63 : decode prog_3_method_1_code 63 = .ok (.dup, 1) := by decide +kernel
theorem d_Calc_init_64 : decode prog_3_method_1_code 64 = .ok (.invokespecial 9, 3) := by decide +kernel
theorem d_Calc_init_67 : decode prog_3_method_1_code 67 = .ok (.putfield 28, 3) := by decide +kernel
theorem d_Calc_init_70 : decode prog_3_method_1_code 70 = .ok (.aload_n 0, 1) := by decide +kernel
theorem d_Calc_init_71 : decode prog_3_method_1_code 71 = .ok (.new 7, 3) := by decide +kernel
theorem d_Calc_init_74 : decode prog_3_method_1_code 74 = .ok (.dup, 1) := by decide +kernel
theorem d_Calc_init_75 : decode prog_3_method_1_code 75 = .ok (.invokespecial 9, 3) := by decide +kernel
theorem d_Calc_init_78 : decode prog_3_method_1_code 78 = .ok (.putfield 31, 3) := by decide +kernel
theorem d_Calc_init_81 : decode prog_3_method_1_code 81 = .ok (.aload_n 0, 1) := by decide +kernel
theorem d_Calc_init_82 : decode prog_3_method_1_code 82 = .ok (.new 7, 3) := by decide +kernel
theorem d_Calc_init_85 : decode prog_3_method_1_code 85 = .ok (.dup, 1) := by decide +kernel
theorem d_Calc_init_86 : decode prog_3_method_1_code 86 = .ok (.invokespecial 9, 3) := by decide +kernel
theorem d_Calc_init_89 : decode prog_3_method_1_code 89 = .ok (.putfield 34, 3) := by decide +kernel
theorem d_Calc_init_92 : decode prog_3_method_1_code 92 = .ok (.aload_n 0, 1) := by decide +kernel
theorem d_Calc_init_93 : decode prog_3_method_1_code 93 = .ok (.new 7, 3) := by decide +kernel
theorem d_Calc_init_96 : decode prog_3_method_1_code 96 = .ok (.dup, 1) := by decide +kernel
theorem d_Calc_init_97 : decode prog_3_method_1_code 97 = .ok (.invokespecial 9, 3) := by decide +kernel
theorem d_Calc_init_100 : decode prog_3_method_1_code 100 = .ok (.putfield 37, 3) := by decide +kernel
theorem d_Calc_init_103 : decode prog_3_method_1_code 103 = .ok (.aload_n 0, 1) := by decide +kernel
theorem d_Calc_init_104 : decode prog_3_method_1_code 104 = .ok (.new 7, 3) := by decide +kernel
theorem d_Calc_init_107 : decode prog_3_method_1_code 107 = .ok (.dup, 1) := by decide +kernel
theorem d_Calc_init_108 : decode prog_3_method_1_code 108 = .ok (.invokespecial 9, 3) := by decide +kernel
theorem d_Calc_init_111 : decode prog_3_method_1_code 111 = .ok (.putfield 40, 3) := by decide +kernel
theorem d_Calc_init_114 : decode prog_3_method_1_code 114 = .ok (.return_, 1) := by decide +kernel
theorem d_Elim_init_0 : decode prog_5_method_1_code 0 = .ok (.aload_n 0, 1) := by decide +kernel
theorem d_Elim_init_1 : decode prog_5_method_1_code 1 = .ok (.invokespecial 1, 3) := by decide +kernel
theorem d_Elim_init_4 : decode prog_5_method_1_code 4 = .ok (.aload_n 0, 1) := by decide +kernel
theorem d_Elim_init_5 : decode prog_5_method_1_code 5 = .ok (.bipush 64, 2) := by decide +kernel
theorem d_Elim_init_7 : decode prog_5_method_1_code 7 = .ok (.newarray .int, 2) := by decide +kernel
theorem d_Elim_init_9 : decode prog_5_method_1_code 9 = .ok (.putfield 9, 3) := by decide +kernel
theorem d_Elim_init_12 : decode prog_5_method_1_code 12 = .ok (.aload_n 0, 1) := by decide +kernel
theorem d_Elim_init_13 : decode prog_5_method_1_code 13 = .ok (.new 15, 3) := by decide +kernel
theorem d_Elim_init_16 : decode prog_5_method_1_code 16 = .ok (.dup, 1) := by decide +kernel
theorem d_Elim_init_17 : decode prog_5_method_1_code 17 = .ok (.invokespecial 17, 3) := by decide +kernel
theorem d_Elim_init_20 : decode prog_5_method_1_code 20 = .ok (.putfield 18, 3) := by decide +kernel
theorem d_Elim_init_23 : decode prog_5_method_1_code 23 = .ok (.aload_n 0, 1) := by decide +kernel
theorem d_Elim_init_24 : decode prog_5_method_1_code 24 = .ok (.new 7, 3) := by decide +kernel
theorem d_Elim_init_27 : decode prog_5_method_1_code 27 = .ok (.dup, 1) := by decide +kernel
theorem d_Elim_init_28 : decode prog_5_method_1_code 28 = .ok (.invokespecial 22, 3) := by decide +kernel
theorem d_Elim_init_31 : decode prog_5_method_1_code 31 = .ok (.putfield 23, 3) := by decide +kernel
theorem d_Elim_init_34 : decode prog_5_method_1_code 34 = .ok (.aload_n 0, 1) := by decide +kernel
theorem d_Elim_init_35 : decode prog_5_method_1_code 35 = .ok (.new 27, 3) := by decide +kernel
theorem d_Elim_init_38 : decode prog_5_method_1_code 38 = .ok (.dup, 1) := by decide +kernel
theorem d_Elim_init_39 : decode prog_5_method_1_code 39 = .ok (.invokespecial 29, 3) := by decide +kernel
theorem d_Elim_init_42 : decode prog_5_method_1_code 42 = .ok (.putfield 30, 3) := by decide +kernel
theorem d_Elim_init_45 : decode prog_5_method_1_code 45 = .ok (.aload_n 0, 1) := by decide +kernel
theorem d_Elim_init_46 : decode prog_5_method_1_code 46 = .ok (.new 7, 3) := by decide +kernel
theorem d_Elim_init_49 : decode prog_5_method_1_code 49 = .ok (.dup, 1) := by decide +kernel
theorem d_Elim_init_50 : decode prog_5_method_1_code 50 = .ok (.invokespecial 22, 3) := by decide +kernel
theorem d_Elim_init_53 : decode prog_5_method_1_code 53 = .ok (.putfield 34, 3) := by decide +kernel
theorem d_Elim_init_56 : decode prog_5_method_1_code 56 = .ok (.aload_n 0, 1) := by decide +kernel
theorem d_Elim_init_57 : decode prog_5_method_1_code 57 = .ok (.new 15, 3) := by decide +kernel
theorem d_Elim_init_60 : decode prog_5_method_1_code 60 = .ok (.dup, 1) := by decide +kernel
theorem d_Elim_init_61 : decode prog_5_method_1_code 61 = .ok (.invokespecial 17, 3) := by decide +kernel
theorem d_Elim_init_64 : decode prog_5_method_1_code 64 = .ok (.putfield 37, 3) := by decide +kernel
theorem d_Elim_init_67 : decode prog_5_method_1_code 67 = .ok (.aload_n 0, 1) := by decide +kernel
theorem d_Elim_init_68 : decode prog_5_method_1_code 68 = .ok (.new 15, 3) := by decide +kernel
theorem d_Elim_init_71 : decode prog_5_method_1_code 71 = .ok (.dup, 1) := by decide +kernel
theorem d_Elim_init_72 : decode prog_5_method_1_code 72 = .ok (.invokespecial 17, 3) := by decide +kernel
theorem d_Elim_init_75 : decode prog_5_method_1_code 75 = .ok (.putfield 40, 3) := by decide +kernel
theorem d_Elim_init_78 : decode prog_5_method_1_code 78 = .ok (.aload_n 0, 1) := by decide +kernel
theorem d_Elim_init_79 : decode prog_5_method_1_code 79 = .ok (.new 15, 3) := by decide +kernel
theorem d_Elim_init_82 : decode prog_5_method_1_code 82 = .ok (.dup, 1) := by decide +kernel
theorem d_Elim_init_83 : decode prog_5_method_1_code 83 = .ok (.invokespecial 17, 3) := by decide +kernel
theorem d_Elim_init_86 : decode prog_5_method_1_code 86 = .ok (.putfield 43, 3) := by decide +kernel
theorem d_Elim_init_89 : decode prog_5_method_1_code 89 = .ok (.aload_n 0, 1) := by decide +kernel
theorem d_Elim_init_90 : decode prog_5_method_1_code 90 = .ok (.new 15, 3) := by decide +kernel
theorem d_Elim_init_93 : decode prog_5_method_1_code 93 = .ok (.dup, 1) := by decide +kernel
theorem d_Elim_init_94 : decode prog_5_method_1_code 94 = .ok (.invokespecial 17, 3) := by decide +kernel
theorem d_Elim_init_97 : decode prog_5_method_1_code 97 = .ok (.putfield 46, 3) := by decide +kernel
theorem d_Elim_init_100 : decode prog_5_method_1_code 100 = .ok (.aload_n 0, 1) := by decide +kernel
theorem d_Elim_init_101 : decode prog_5_method_1_code 101 = .ok (.new 15, 3) := by decide +kernel
theorem d_Elim_init_104 : decode prog_5_method_1_code 104 = .ok (.dup, 1) := by decide +kernel
theorem d_Elim_init_105 : decode prog_5_method_1_code 105 = .ok (.invokespecial 17, 3) := by decide +kernel
theorem d_Elim_init_108 : decode prog_5_method_1_code 108 = .ok (.putfield 49, 3) := by decide +kernel
theorem d_Elim_init_111 : decode prog_5_method_1_code 111 = .ok (.aload_n 0, 1) := by decide +kernel
theorem d_Elim_init_112 : decode prog_5_method_1_code 112 = .ok (.new 15, 3) := by decide +kernel
theorem d_Elim_init_115 : decode prog_5_method_1_code 115 = .ok (.dup, 1) := by decide +kernel
theorem d_Elim_init_116 : decode prog_5_method_1_code 116 = .ok (.invokespecial 17, 3) := by decide +kernel
theorem d_Elim_init_119 : decode prog_5_method_1_code 119 = .ok (.putfield 52, 3) := by decide +kernel
theorem d_Elim_init_122 : decode prog_5_method_1_code 122 = .ok (.aload_n 0, 1) := by decide +kernel
theorem d_Elim_init_123 : decode prog_5_method_1_code 123 = .ok (.bipush 16, 2) := by decide +kernel
theorem d_Elim_init_125 : decode prog_5_method_1_code 125 = .ok (.newarray .int, 2) := by decide +kernel
theorem d_Elim_init_127 : decode prog_5_method_1_code 127 = .ok (.putfield 55, 3) := by decide +kernel
theorem d_Elim_init_130 : decode prog_5_method_1_code 130 = .ok (.return_, 1) := by decide +kernel
theorem d_Latt_init_0 : decode prog_6_method_1_code 0 = .ok (.aload_n 0, 1) := by decide +kernel
theorem d_Latt_init_1 : decode prog_6_method_1_code 1 = .ok (.invokespecial 1, 3) := by decide +kernel
theorem d_Latt_init_4 : decode prog_6_method_1_code 4 = .ok (.aload_n 0, 1) := by decide +kernel
theorem d_Latt_init_5 : decode prog_6_method_1_code 5 = .ok (.new 7, 3) := by decide +kernel
theorem d_Latt_init_8 : decode prog_6_method_1_code 8 = .ok (.dup, 1) := by decide +kernel
theorem d_Latt_init_9 : decode prog_6_method_1_code 9 = .ok (.invokespecial 9, 3) := by decide +kernel
theorem d_Latt_init_12 : decode prog_6_method_1_code 12 = .ok (.putfield 10, 3) := by decide +kernel
theorem d_Latt_init_15 : decode prog_6_method_1_code 15 = .ok (.aload_n 0, 1) := by decide +kernel
theorem d_Latt_init_16 : decode prog_6_method_1_code 16 = .ok (.aload_n 0, 1) := by decide +kernel
theorem d_Latt_init_17 : decode prog_6_method_1_code 17 = .ok (.getfield 10, 3) := by decide +kernel
theorem d_Latt_init_20 : decode prog_6_method_1_code 20 = .ok (.getfield 16, 3) := by decide +kernel
theorem d_Latt_init_23 : decode prog_6_method_1_code 23 = .ok (.putfield 20, 3) := by decide +kernel
theorem d_Latt_init_26 : decode prog_6_method_1_code 26 = .ok (.aload_n 0, 1) := by decide +kernel
theorem d_Latt_init_27 : decode prog_6_method_1_code 27 = .ok (.aload_n 0, 1) := by decide +kernel
theorem d_Latt_init_28 : decode prog_6_method_1_code 28 = .ok (.getfield 10, 3) := by decide +kernel
theorem d_Latt_init_31 : decode prog_6_method_1_code 31 = .ok (.getfield 21, 3) := by decide +kernel
theorem d_Latt_init_34 : decode prog_6_method_1_code 34 = .ok (.putfield 25, 3) := by decide +kernel
theorem d_Latt_init_37 : decode prog_6_method_1_code 37 = .ok (.aload_n 0, 1) := by decide +kernel
theorem d_Latt_init_38 : decode prog_6_method_1_code 38 = .ok (.new 26, 3) := by decide +kernel
theorem d_Latt_init_41 : decode prog_6_method_1_code 41 = .ok (.dup, 1) := by decide +kernel
theorem d_Latt_init_42 : decode prog_6_method_1_code 42 = .ok (.invokespecial 28, 3) := by decide +kernel
theorem d_Latt_init_45 : decode prog_6_method_1_code 45 = .ok (.putfield 29, 3) := by decide +kernel
theorem d_Latt_init_48 : decode prog_6_method_1_code 48 = .ok (.aload_n 0, 1) := by decide +kernel
theorem d_Latt_init_49 : decode prog_6_method_1_code 49 = .ok (.new 26, 3) := by decide +kernel
theorem d_Latt_init_52 : decode prog_6_method_1_code 52 = .ok (.dup, 1) := by decide +kernel
theorem d_Latt_init_53 : decode prog_6_method_1_code 53 = .ok (.invokespecial 28, 3) := by decide +kernel
theorem d_Latt_init_56 : decode prog_6_method_1_code 56 = .ok (.putfield 33, 3) := by decide +kernel
theorem d_Latt_init_59 : decode prog_6_method_1_code 59 = .ok (.aload_n 0, 1) := by decide +kernel
theorem d_Latt_init_60 : decode prog_6_method_1_code 60 = .ok (.new 26, 3) := by decide +kernel
theorem d_Latt_init_63 : decode prog_6_method_1_code 63 = .ok (.dup, 1) := by decide +kernel
theorem d_Latt_init_64 : decode prog_6_method_1_code 64 = .ok (.invokespecial 28, 3) := by decide +kernel
theorem d_Latt_init_67 : decode prog_6_method_1_code 67 = .ok (.putfield 36, 3) := by decide +kernel
theorem d_Latt_init_70 : decode prog_6_method_1_code 70 = .ok (.aload_n 0, 1) := by decide +kernel
theorem d_Latt_init_71 : decode prog_6_method_1_code 71 = .ok (.new 26, 3) := by decide +kernel
theorem d_Latt_init_74 : decode prog_6_method_1_code 74 = .ok (.dup, 1) := by decide +kernel
theorem d_Latt_init_75 : decode prog_6_method_1_code 75 = .ok (.invokespecial 28, 3) := by decide +kernel
theorem d_Latt_init_78 : decode prog_6_method_1_code 78 = .ok (.putfield 39, 3) := by decide +kernel
theorem d_Latt_init_81 : decode prog_6_method_1_code 81 = .ok (.aload_n 0, 1) := by decide +kernel
theorem d_Latt_init_82 : decode prog_6_method_1_code 82 = .ok (.new 26, 3) := by decide +kernel
theorem d_Latt_init_85 : decode prog_6_method_1_code 85 = .ok (.dup, 1) := by decide +kernel
theorem d_Latt_init_86 : decode prog_6_method_1_code 86 = .ok (.invokespecial 28, 3) := by decide +kernel
theorem d_Latt_init_89 : decode prog_6_method_1_code 89 = .ok (.putfield 42, 3) := by decide +kernel
theorem d_Latt_init_92 : decode prog_6_method_1_code 92 = .ok (.aload_n 0, 1) := by decide +kernel
theorem d_Latt_init_93 : decode prog_6_method_1_code 93 = .ok (.new 26, 3) := by decide +kernel
theorem d_Latt_init_96 : decode prog_6_method_1_code 96 = .ok (.dup, 1) := by decide +kernel
theorem d_Latt_init_97 : decode prog_6_method_1_code 97 = .ok (.invokespecial 28, 3) := by decide +kernel
theorem d_Latt_init_100 : decode prog_6_method_1_code 100 = .ok (.putfield 45, 3) := by decide +kernel
theorem d_Latt_init_103 : decode prog_6_method_1_code 103 = .ok (.aload_n 0, 1) := by decide +kernel
theorem d_Latt_init_104 : decode prog_6_method_1_code 104 = .ok (.new 26, 3) := by decide +kernel
theorem d_Latt_init_107 : decode prog_6_method_1_code 107 = .ok (.dup, 1) := by decide +kernel
theorem d_Latt_init_108 : decode prog_6_method_1_code 108 = .ok (.invokespecial 28, 3) := by decide +kernel
theorem d_Latt_init_111 : decode prog_6_method_1_code 111 = .ok (.putfield 48, 3) := by decide +kernel
theorem d_Latt_init_114 : decode prog_6_method_1_code 114 = .ok (.aload_n 0, 1) := by decide +kernel
theorem d_Latt_init_115 : decode prog_6_method_1_code 115 = .ok (.new 26, 3) := by decide +kernel
theorem d_Latt_init_118 : decode prog_6_method_1_code 118 = .ok (.dup, 1) := by decide +kernel
theorem d_Latt_init_119 : decode prog_6_method_1_code 119 = .ok (.invokespecial 28, 3) := by decide +kernel
theorem d_Latt_init_122 : decode prog_6_method_1_code 122 = .ok (.putfield 51, 3) := by decide +kernel
theorem d_Latt_init_125 : decode prog_6_method_1_code 125 = .ok (.return_, 1) := by decide +kernel
theorem d_Modu_init_0 : decode prog_9_method_1_code 0 = .ok (.aload_n 0, 1) := by decide +kernel
theorem d_Modu_init_1 : decode prog_9_method_1_code 1 = .ok (.invokespecial 1, 3) := by decide +kernel
theorem d_Modu_init_4 : decode prog_9_method_1_code 4 = .ok (.aload_n 0, 1) := by decide +kernel
theorem d_Modu_init_5 : decode prog_9_method_1_code 5 = .ok (.bipush 32, 2) := by decide +kernel
theorem d_Modu_init_7 : decode prog_9_method_1_code 7 = .ok (.newarray .int, 2) := by decide +kernel
theorem d_Modu_init_9 : decode prog_9_method_1_code 9 = .ok (.putfield 9, 3) := by decide +kernel
theorem d_Modu_init_12 : decode prog_9_method_1_code 12 = .ok (.aload_n 0, 1) := by decide +kernel
theorem d_Modu_init_13 : decode prog_9_method_1_code 13 = .ok (.bipush 32, 2) := by decide +kernel
theorem d_Modu_init_15 : decode prog_9_method_1_code 15 = .ok (.newarray .int, 2) := by decide +kernel
theorem d_Modu_init_17 : decode prog_9_method_1_code 17 = .ok (.putfield 13, 3) := by decide +kernel
theorem d_Modu_init_20 : decode prog_9_method_1_code 20 = .ok (.aload_n 0, 1) := by decide +kernel
theorem d_Modu_init_21 : decode prog_9_method_1_code 21 = .ok (.sipush 1024, 3) := by decide +kernel
theorem d_Modu_init_24 : decode prog_9_method_1_code 24 = .ok (.newarray .int, 2) := by decide +kernel
theorem d_Modu_init_26 : decode prog_9_method_1_code 26 = .ok (.putfield 16, 3) := by decide +kernel
theorem d_Modu_init_29 : decode prog_9_method_1_code 29 = .ok (.aload_n 0, 1) := by decide +kernel
theorem d_Modu_init_30 : decode prog_9_method_1_code 30 = .ok (.sipush 1056, 3) := by decide +kernel
theorem d_Modu_init_33 : decode prog_9_method_1_code 33 = .ok (.newarray .int, 2) := by decide +kernel
theorem d_Modu_init_35 : decode prog_9_method_1_code 35 = .ok (.putfield 19, 3) := by decide +kernel
theorem d_Modu_init_38 : decode prog_9_method_1_code 38 = .ok (.aload_n 0, 1) := by decide +kernel
theorem d_Modu_init_39 : decode prog_9_method_1_code 39 = .ok (.bipush 33, 2) := by decide +kernel
theorem d_Modu_init_41 : decode prog_9_method_1_code 41 = .ok (.newarray .int, 2) := by decide +kernel
theorem d_Modu_init_43 : decode prog_9_method_1_code 43 = .ok (.putfield 22, 3) := by decide +kernel
theorem d_Modu_init_46 : decode prog_9_method_1_code 46 = .ok (.aload_n 0, 1) := by decide +kernel
theorem d_Modu_init_47 : decode prog_9_method_1_code 47 = .ok (.sipush 1089, 3) := by decide +kernel
theorem d_Modu_init_50 : decode prog_9_method_1_code 50 = .ok (.newarray .int, 2) := by decide +kernel
theorem d_Modu_init_52 : decode prog_9_method_1_code 52 = .ok (.putfield 25, 3) := by decide +kernel
theorem d_Modu_init_55 : decode prog_9_method_1_code 55 = .ok (.aload_n 0, 1) := by decide +kernel
theorem d_Modu_init_56 : decode prog_9_method_1_code 56 = .ok (.bipush 33, 2) := by decide +kernel
theorem d_Modu_init_58 : decode prog_9_method_1_code 58 = .ok (.newarray .int, 2) := by decide +kernel
theorem d_Modu_init_60 : decode prog_9_method_1_code 60 = .ok (.putfield 28, 3) := by decide +kernel
theorem d_Modu_init_63 : decode prog_9_method_1_code 63 = .ok (.aload_n 0, 1) := by decide +kernel
theorem d_Modu_init_64 : decode prog_9_method_1_code 64 = .ok (.bipush 33, 2) := by decide +kernel
theorem d_Modu_init_66 : decode prog_9_method_1_code 66 = .ok (.newarray .int, 2) := by decide +kernel
theorem d_Modu_init_68 : decode prog_9_method_1_code 68 = .ok (.putfield 31, 3) := by decide +kernel
theorem d_Modu_init_71 : decode prog_9_method_1_code 71 = .ok (.aload_n 0, 1) := by decide +kernel
theorem d_Modu_init_72 : decode prog_9_method_1_code 72 = .ok (.bipush 32, 2) := by decide +kernel
theorem d_Modu_init_74 : decode prog_9_method_1_code 74 = .ok (.newarray .int, 2) := by decide +kernel
theorem d_Modu_init_76 : decode prog_9_method_1_code 76 = .ok (.putfield 34, 3) := by decide +kernel
theorem d_Modu_init_79 : decode prog_9_method_1_code 79 = .ok (.aload_n 0, 1) := by decide +kernel
theorem d_Modu_init_80 : decode prog_9_method_1_code 80 = .ok (.bipush 32, 2) := by decide +kernel
theorem d_Modu_init_82 : decode prog_9_method_1_code 82 = .ok (.newarray .int, 2) := by decide +kernel
theorem d_Modu_init_84 : decode prog_9_method_1_code 84 = .ok (.putfield 37, 3) := by decide +kernel
theorem d_Modu_init_87 : decode prog_9_method_1_code 87 = .ok (.aload_n 0, 1) := by decide +kernel
theorem d_Modu_init_88 : decode prog_9_method_1_code 88 = .ok (.bipush 32, 2) := by decide +kernel
theorem d_Modu_init_90 : decode prog_9_method_1_code 90 = .ok (.newarray .int, 2) := by decide +kernel
theorem d_Modu_init_92 : decode prog_9_method_1_code 92 = .ok (.putfield 40, 3) := by decide +kernel
theorem d_Modu_init_95 : decode prog_9_method_1_code 95 = .ok (.aload_n 0, 1) := by decide +kernel
theorem d_Modu_init_96 : decode prog_9_method_1_code 96 = .ok (.bipush 32, 2) := by decide +kernel
theorem d_Modu_init_98 : decode prog_9_method_1_code 98 = .ok (.newarray .int, 2) := by decide +kernel
theorem d_Modu_init_100 : decode prog_9_method_1_code 100 = .ok (.putfield 43, 3) := by decide +kernel
theorem d_Modu_init_103 : decode prog_9_method_1_code 103 = .ok (.return_, 1) := by decide +kernel
theorem d_Poly_init_0 : decode prog_11_method_1_code 0 = .ok (.aload_n 0, 1) := by decide +kernel
theorem d_Poly_init_1 : decode prog_11_method_1_code 1 = .ok (.invokespecial 1, 3) := by decide +kernel
theorem d_Poly_init_4 : decode prog_11_method_1_code 4 = .ok (.aload_n 0, 1) := by decide +kernel
theorem d_Poly_init_5 : decode prog_11_method_1_code 5 = .ok (.new 7, 3) := by decide +kernel
theorem d_Poly_init_8 : decode prog_11_method_1_code 8 = .ok (.dup, 1) := by decide +kernel
theorem d_Poly_init_9 : decode prog_11_method_1_code 9 = .ok (.invokespecial 9, 3) := by decide +kernel
theorem d_Poly_init_12 : decode prog_11_method_1_code 12 = .ok (.putfield 10, 3) := by decide +kernel
theorem d_Poly_init_15 : decode prog_11_method_1_code 15 = .ok (.aload_n 0, 1) := by decide +kernel
theorem d_Poly_init_16 : decode prog_11_method_1_code 16 = .ok (.new 16, 3) := by decide +kernel
theorem d_Poly_init_19 : decode prog_11_method_1_code 19 = .ok (.dup, 1) := by decide +kernel
theorem d_Poly_init_20 : decode prog_11_method_1_code 20 = .ok (.invokespecial 18, 3) := by decide +kernel
theorem d_Poly_init_23 : decode prog_11_method_1_code 23 = .ok (.putfield 19, 3) := by decide +kernel
theorem d_Poly_init_26 : decode prog_11_method_1_code 26 = .ok (.aload_n 0, 1) := by decide +kernel
theorem d_Poly_init_27 : decode prog_11_method_1_code 27 = .ok (.new 16, 3) := by decide +kernel
theorem d_Poly_init_30 : decode prog_11_method_1_code 30 = .ok (.dup, 1) := by decide +kernel
theorem d_Poly_init_31 : decode prog_11_method_1_code 31 = .ok (.invokespecial 18, 3) := by decide +kernel
theorem d_Poly_init_34 : decode prog_11_method_1_code 34 = .ok (.putfield 23, 3) := by decide +kernel
theorem d_Poly_init_37 : decode prog_11_method_1_code 37 = .ok (.aload_n 0, 1) := by decide +kernel
theorem d_Poly_init_38 : decode prog_11_method_1_code 38 = .ok (.new 26, 3) := by decide +kernel
theorem d_Poly_init_41 : decode prog_11_method_1_code 41 = .ok (.dup, 1) := by decide +kernel
theorem d_Poly_init_42 : decode prog_11_method_1_code 42 = .ok (.invokespecial 28, 3) := by decide +kernel
theorem d_Poly_init_45 : decode prog_11_method_1_code 45 = .ok (.putfield 29, 3) := by decide +kernel
theorem d_Poly_init_48 : decode prog_11_method_1_code 48 = .ok (.aload_n 0, 1) := by decide +kernel
theorem d_Poly_init_49 : decode prog_11_method_1_code 49 = .ok (.bipush 32, 2) := by decide +kernel
theorem d_Poly_init_51 : decode prog_11_method_1_code 51 = .ok (.newarray .int, 2) := by decide +kernel
theorem d_Poly_init_53 : decode prog_11_method_1_code 53 = .ok (.putfield 33, 3) := by decide +kernel
theorem d_Poly_init_56 : decode prog_11_method_1_code 56 = .ok (.aload_n 0, 1) := by decide +kernel
theorem d_Poly_init_57 : decode prog_11_method_1_code 57 = .ok (.new 16, 3) := by decide +kernel
theorem d_Poly_init_60 : decode prog_11_method_1_code 60 = .ok (.dup, 1) := by decide +kernel
theorem d_Poly_init_61 : decode prog_11_method_1_code 61 = .ok (.invokespecial 18, 3) := by decide +kernel
theorem d_Poly_init_64 : decode prog_11_method_1_code 64 = .ok (.putfield 37, 3) := by decide +kernel
theorem d_Poly_init_67 : decode prog_11_method_1_code 67 = .ok (.aload_n 0, 1) := by decide +kernel
theorem d_Poly_init_68 : decode prog_11_method_1_code 68 = .ok (.new 26, 3) := by decide +kernel
theorem d_Poly_init_71 : decode prog_11_method_1_code 71 = .ok (.dup, 1) := by decide +kernel
theorem d_Poly_init_72 : decode prog_11_method_1_code 72 = .ok (.invokespecial 28, 3) := by decide +kernel
theorem d_Poly_init_75 : decode prog_11_method_1_code 75 = .ok (.putfield 40, 3) := by decide +kernel
theorem d_Poly_init_78 : decode prog_11_method_1_code 78 = .ok (.aload_n 0, 1) := by decide +kernel
theorem d_Poly_init_79 : decode prog_11_method_1_code 79 = .ok (.new 26, 3) := by decide +kernel
theorem d_Poly_init_82 : decode prog_11_method_1_code 82 = .ok (.dup, 1) := by decide +kernel
theorem d_Poly_init_83 : decode prog_11_method_1_code 83 = .ok (.invokespecial 28, 3) := by decide +kernel
theorem d_Poly_init_86 : decode prog_11_method_1_code 86 = .ok (.putfield 43, 3) := by decide +kernel
theorem d_Poly_init_89 : decode prog_11_method_1_code 89 = .ok (.return_, 1) := by decide +kernel
theorem d_Maker_init_0 : decode prog_7_method_1_code 0 = .ok (.aload_n 0, 1) := by decide +kernel
theorem d_Maker_init_1 : decode prog_7_method_1_code 1 = .ok (.invokespecial 1, 3) := by decide +kernel
theorem d_Maker_init_4 : decode prog_7_method_1_code 4 = .ok (.aload_n 0, 1) := by decide +kernel
theorem d_Maker_init_5 : decode prog_7_method_1_code 5 = .ok (.new 7, 3) := by decide +kernel
theorem d_Maker_init_8 : decode prog_7_method_1_code 8 = .ok (.dup, 1) := by decide +kernel
theorem d_Maker_init_9 : decode prog_7_method_1_code 9 = .ok (.invokespecial 9, 3) := by decide +kernel
theorem d_Maker_init_12 : decode prog_7_method_1_code 12 = .ok (.putfield 10, 3) := by decide +kernel
theorem d_Maker_init_15 : decode prog_7_method_1_code 15 = .ok (.aload_n 0, 1) := by decide +kernel
theorem d_Maker_init_16 : decode prog_7_method_1_code 16 = .ok (.new 16, 3) := by decide +kernel
theorem d_Maker_init_19 : decode prog_7_method_1_code 19 = .ok (.dup, 1) := by decide +kernel
theorem d_Maker_init_20 : decode prog_7_method_1_code 20 = .ok (.invokespecial 18, 3) := by decide +kernel
theorem d_Maker_init_23 : decode prog_7_method_1_code 23 = .ok (.putfield 19, 3) := by decide +kernel
theorem d_Maker_init_26 : decode prog_7_method_1_code 26 = .ok (.aload_n 0, 1) := by decide +kernel
theorem d_Maker_init_27 : decode prog_7_method_1_code 27 = .ok (.aload_n 0, 1) := by decide +kernel
theorem d_Maker_init_28 : decode prog_7_method_1_code 28 = .ok (.getfield 19, 3) := by decide +kernel
theorem d_Maker_init_31 : decode prog_7_method_1_code 31 = .ok (.getfield 23, 3) := by decide +kernel
theorem d_Maker_init_34 : decode prog_7_method_1_code 34 = .ok (.putfield 27, 3) := by decide +kernel
theorem d_Maker_init_37 : decode prog_7_method_1_code 37 = .ok (.aload_n 0, 1) := by decide +kernel
theorem d_Maker_init_38 : decode prog_7_method_1_code 38 = .ok (.new 28, 3) := by decide +kernel
theorem d_Maker_init_41 : decode prog_7_method_1_code 41 = .ok (.dup, 1) := by decide +kernel
theorem d_Maker_init_42 : decode prog_7_method_1_code 42 = .ok (.invokespecial 30, 3) := by decide +kernel
theorem d_Maker_init_45 : decode prog_7_method_1_code 45 = .ok (.putfield 31, 3) := by decide +kernel
theorem d_Maker_init_48 : decode prog_7_method_1_code 48 = .ok (.aload_n 0, 1) := by decide +kernel
theorem d_Maker_init_49 : decode prog_7_method_1_code 49 = .ok (.aload_n 0, 1) := by decide +kernel
theorem d_Maker_init_50 : decode prog_7_method_1_code 50 = .ok (.getfield 27, 3) := by decide +kernel
theorem d_Maker_init_53 : decode prog_7_method_1_code 53 = .ok (.getfield 35, 3) := by decide +kernel
theorem d_Maker_init_56 : decode prog_7_method_1_code 56 = .ok (.putfield 41, 3) := by decide +kernel
theorem d_Maker_init_59 : decode prog_7_method_1_code 59 = .ok (.aload_n 0, 1) := by decide +kernel
theorem d_Maker_init_60 : decode prog_7_method_1_code 60 = .ok (.new 42, 3) := by decide +kernel
theorem d_Maker_init_63 : decode prog_7_method_1_code 63 = .ok (.dup, 1) := by decide +kernel
theorem d_Maker_init_64 : decode prog_7_method_1_code 64 = .ok (.invokespecial 44, 3) := by decide +kernel
theorem d_Maker_init_67 : decode prog_7_method_1_code 67 = .ok (.putfield 45, 3) := by decide +kernel
theorem d_Maker_init_70 : decode prog_7_method_1_code 70 = .ok (.aload_n 0, 1) := by decide +kernel
theorem d_Maker_init_71 : decode prog_7_method_1_code 71 = .ok (.new 42, 3) := by decide +kernel
theorem d_Maker_init_74 : decode prog_7_method_1_code 74 = .ok (.dup, 1) := by decide +kernel
theorem d_Maker_init_75 : decode prog_7_method_1_code 75 = .ok (.invokespecial 44, 3) := by decide +kernel
theorem d_Maker_init_78 : decode prog_7_method_1_code 78 = .ok (.putfield 49, 3) := by decide +kernel
theorem d_Maker_init_81 : decode prog_7_method_1_code 81 = .ok (.aload_n 0, 1) := by decide +kernel
theorem d_Maker_init_82 : decode prog_7_method_1_code 82 = .ok (.new 42, 3) := by decide +kernel
theorem d_Maker_init_85 : decode prog_7_method_1_code 85 = .ok (.dup, 1) := by decide +kernel
theorem d_Maker_init_86 : decode prog_7_method_1_code 86 = .ok (.invokespecial 44, 3) := by decide +kernel
theorem d_Maker_init_89 : decode prog_7_method_1_code 89 = .ok (.putfield 52, 3) := by decide +kernel
theorem d_Maker_init_92 : decode prog_7_method_1_code 92 = .ok (.aload_n 0, 1) := by decide +kernel
theorem d_Maker_init_93 : decode prog_7_method_1_code 93 = .ok (.new 55, 3) := by decide +kernel
theorem d_Maker_init_96 : decode prog_7_method_1_code 96 = .ok (.dup, 1) := by decide +kernel
theorem d_Maker_init_97 : decode prog_7_method_1_code 97 = .ok (.invokespecial 57, 3) := by decide +kernel
theorem d_Maker_init_100 : decode prog_7_method_1_code 100 = .ok (.putfield 58, 3) := by decide +kernel
theorem d_Maker_init_103 : decode prog_7_method_1_code 103 = .ok (.aload_n 0, 1) := by decide +kernel
theorem d_Maker_init_104 : decode prog_7_method_1_code 104 = .ok (.new 55, 3) := by decide +kernel
theorem d_Maker_init_107 : decode prog_7_method_1_code 107 = .ok (.dup, 1) := by decide +kernel
theorem d_Maker_init_108 : decode prog_7_method_1_code 108 = .ok (.invokespecial 57, 3) := by decide +kernel
theorem d_Maker_init_111 : decode prog_7_method_1_code 111 = .ok (.putfield 62, 3) := by decide +kernel
theorem d_Maker_init_114 : decode prog_7_method_1_code 114 = .ok (.aload_n 0, 1) := by decide +kernel
theorem d_Maker_init_115 : decode prog_7_method_1_code 115 = .ok (.new 55, 3) := by decide +kernel
theorem d_Maker_init_118 : decode prog_7_method_1_code 118 = .ok (.dup, 1) := by decide +kernel
theorem d_Maker_init_119 : decode prog_7_method_1_code 119 = .ok (.invokespecial 57, 3) := by decide +kernel
theorem d_Maker_init_122 : decode prog_7_method_1_code 122 = .ok (.putfield 65, 3) := by decide +kernel
theorem d_Maker_init_125 : decode prog_7_method_1_code 125 = .ok (.return_, 1) := by decide +kernel
theorem d_Script_init_0 : decode prog_12_method_1_code 0 = .ok (.aload_n 0, 1) := by decide +kernel
theorem d_Script_init_1 : decode prog_12_method_1_code 1 = .ok (.invokespecial 3, 3) := by decide +kernel
theorem d_Script_init_4 : decode prog_12_method_1_code 4 = .ok (.aload_n 0, 1) := by decide +kernel
theorem d_Script_init_5 : decode prog_12_method_1_code 5 = .ok (.new 9, 3) := by decide +kernel
theorem d_Script_init_8 : decode prog_12_method_1_code 8 = .ok (.dup, 1) := by decide +kernel
theorem d_Script_init_9 : decode prog_12_method_1_code 9 = .ok (.invokespecial 11, 3) := by decide +kernel
theorem d_Script_init_12 : decode prog_12_method_1_code 12 = .ok (.putfield 12, 3) := by decide +kernel
theorem d_Script_init_15 : decode prog_12_method_1_code 15 = .ok (.aload_n 0, 1) := by decide +kernel
theorem d_Script_init_16 : decode prog_12_method_1_code 16 = .ok (.new 18, 3) := by decide +kernel
theorem d_Script_init_19 : decode prog_12_method_1_code 19 = .ok (.dup, 1) := by decide +kernel
theorem d_Script_init_20 : decode prog_12_method_1_code 20 = .ok (.invokespecial 20, 3) := by decide +kernel
theorem d_Script_init_23 : decode prog_12_method_1_code 23 = .ok (.putfield 21, 3) := by decide +kernel
theorem d_Script_init_26 : decode prog_12_method_1_code 26 = .ok (.aload_n 0, 1) := by decide +kernel
theorem d_Script_init_27 : decode prog_12_method_1_code 27 = .ok (.new 25, 3) := by decide +kernel
theorem d_Script_init_30 : decode prog_12_method_1_code 30 = .ok (.dup, 1) := by decide +kernel
theorem d_Script_init_31 : decode prog_12_method_1_code 31 = .ok (.invokespecial 27, 3) := by decide +kernel
theorem d_Script_init_34 : decode prog_12_method_1_code 34 = .ok (.putfield 28, 3) := by decide +kernel
theorem d_Script_init_37 : decode prog_12_method_1_code 37 = .ok (.aload_n 0, 1) := by decide +kernel
theorem d_Script_init_38 : decode prog_12_method_1_code 38 = .ok (.iconst (-1), 1) := by decide +kernel
theorem d_Script_init_39 : decode prog_12_method_1_code 39 = .ok (.putfield 32, 3) := by decide +kernel
theorem d_Script_init_42 : decode prog_12_method_1_code 42 = .ok (.aload_n 0, 1) := by decide +kernel
theorem d_Script_init_43 : decode prog_12_method_1_code 43 = .ok (.new 36, 3) := by decide +kernel
theorem d_Script_init_46 : decode prog_12_method_1_code 46 = .ok (.dup, 1) := by decide +kernel
theorem d_Script_init_47 : decode prog_12_method_1_code 47 = .ok (.invokespecial 38, 3) := by decide +kernel
theorem d_Script_init_50 : decode prog_12_method_1_code 50 = .ok (.putfield 39, 3) := by decide +kernel
theorem d_Script_init_53 : decode prog_12_method_1_code 53 = .ok (.aload_n 0, 1) := by decide +kernel
theorem d_Script_init_54 : decode prog_12_method_1_code 54 = .ok (.aload_n 0, 1) := by decide +kernel
theorem d_Script_init_55 : decode prog_12_method_1_code 55 = .ok (.getfield 39, 3) := by decide +kernel
theorem d_Script_init_58 : decode prog_12_method_1_code 58 = .ok (.getfield 43, 3) := by decide +kernel
theorem d_Script_init_61 : decode prog_12_method_1_code 61 = .ok (.putfield 46, 3) := by decide +kernel
theorem d_Script_init_64 : decode prog_12_method_1_code 64 = .ok (.aload_n 0, 1) := by decide +kernel
theorem d_Script_init_65 : decode prog_12_method_1_code 65 = .ok (.bipush 10, 2) := by decide +kernel
theorem d_Script_init_67 : decode prog_12_method_1_code 67 = .ok (.newarray .int, 2) := by decide +kernel
theorem d_Script_init_69 : decode prog_12_method_1_code 69 = .ok (.putfield 47, 3) := by decide +kernel
theorem d_Script_init_72 : decode prog_12_method_1_code 72 = .ok (.aload_n 0, 1) := by decide +kernel
theorem d_Script_init_73 : decode prog_12_method_1_code 73 = .ok (.sipush 160, 3) := by decide +kernel
theorem d_Script_init_76 : decode prog_12_method_1_code 76 = .ok (.newarray .int, 2) := by decide +kernel
theorem d_Script_init_78 : decode prog_12_method_1_code 78 = .ok (.putfield 51, 3) := by decide +kernel
theorem d_Script_init_81 : decode prog_12_method_1_code 81 = .ok (.aload_n 0, 1) := by decide +kernel
theorem d_Script_init_82 : decode prog_12_method_1_code 82 = .ok (.iconst 4, 1) := by decide +kernel
theorem d_Script_init_83 : decode prog_12_method_1_code 83 = .ok (.newarray .long, 2) := by decide +kernel
theorem d_Script_init_85 : decode prog_12_method_1_code 85 = .ok (.putfield 54, 3) := by decide +kernel
theorem d_Script_init_88 : decode prog_12_method_1_code 88 = .ok (.aload_n 0, 1) := by decide +kernel
theorem d_Script_init_89 : decode prog_12_method_1_code 89 = .ok (.bipush 64, 2) := by decide +kernel
theorem d_Script_init_91 : decode prog_12_method_1_code 91 = .ok (.newarray .int, 2) := by decide +kernel
theorem d_Script_init_93 : decode prog_12_method_1_code 93 = .ok (.putfield 58, 3) := by decide +kernel
theorem d_Script_init_96 : decode prog_12_method_1_code 96 = .ok (.return_, 1) := by decide +kernel
theorem d_Ms_init_0 : decode prog_1_method_1_code 0 = .ok (.aload_n 0, 1) := by decide +kernel
theorem d_Ms_init_1 : decode prog_1_method_1_code 1 = .ok (.invokespecial 1, 3) := by decide +kernel
theorem d_Ms_init_4 : decode prog_1_method_1_code 4 = .ok (.aload_n 0, 1) := by decide +kernel
theorem d_Ms_init_5 : decode prog_1_method_1_code 5 = .ok (.new 7, 3) := by decide +kernel
theorem d_Ms_init_8 : decode prog_1_method_1_code 8 = .ok (.dup, 1) := by decide +kernel
theorem d_Ms_init_9 : decode prog_1_method_1_code 9 = .ok (.invokespecial 9, 3) := by decide +kernel
theorem d_Ms_init_12 : decode prog_1_method_1_code 12 = .ok (.putfield 10, 3) := by decide +kernel
theorem d_Ms_init_15 : decode prog_1_method_1_code 15 = .ok (.aload_n 0, 1) := by decide +kernel
theorem d_Ms_init_16 : decode prog_1_method_1_code 16 = .ok (.aload_n 0, 1) := by decide +kernel
theorem d_Ms_init_17 : decode prog_1_method_1_code 17 = .ok (.getfield 10, 3) := by decide +kernel
theorem d_Ms_init_20 : decode prog_1_method_1_code 20 = .ok (.getfield 16, 3) := by decide +kernel
theorem d_Ms_init_23 : decode prog_1_method_1_code 23 = .ok (.putfield 20, 3) := by decide +kernel
theorem d_Ms_init_26 : decode prog_1_method_1_code 26 = .ok (.aload_n 0, 1) := by decide +kernel
theorem d_Ms_init_27 : decode prog_1_method_1_code 27 = .ok (.aload_n 0, 1) := by decide +kernel
theorem d_Ms_init_28 : decode prog_1_method_1_code 28 = .ok (.getfield 10, 3) := by decide +kernel
theorem d_Ms_init_31 : decode prog_1_method_1_code 31 = .ok (.getfield 21, 3) := by decide +kernel
theorem d_Ms_init_34 : decode prog_1_method_1_code 34 = .ok (.putfield 25, 3) := by decide +kernel
theorem d_Ms_init_37 : decode prog_1_method_1_code 37 = .ok (.return_, 1) := by decide +kernel
theorem d_Whs_init_0 : decode prog_20_method_1_code 0 = .ok (.aload_n 0, 1) := by decide +kernel
theorem d_Whs_init_1 : decode prog_20_method_1_code 1 = .ok (.invokespecial 1, 3) := by decide +kernel
theorem d_Whs_init_4 : decode prog_20_method_1_code 4 = .ok (.aload_n 0, 1) := by decide +kernel
theorem d_Whs_init_5 : decode prog_20_method_1_code 5 = .ok (.sipush 4096, 3) := by decide +kernel
theorem d_Whs_init_8 : decode prog_20_method_1_code 8 = .ok (.newarray .int, 2) := by decide +kernel
theorem d_Whs_init_10 : decode prog_20_method_1_code 10 = .ok (.putfield 7, 3) := by decide +kernel
theorem d_Whs_init_13 : decode prog_20_method_1_code 13 = .ok (.aload_n 0, 1) := by decide +kernel
theorem d_Whs_init_14 : decode prog_20_method_1_code 14 = .ok (.iconst 1, 1) := by decide +kernel
theorem d_Whs_init_15 : decode prog_20_method_1_code 15 = .ok (.putfield 13, 3) := by decide +kernel
theorem d_Whs_init_18 : decode prog_20_method_1_code 18 = .ok (.return_, 1) := by decide +kernel
theorem d_Frac_init_0 : decode prog_19_method_1_code 0 = .ok (.aload_n 0, 1) := by decide +kernel
theorem d_Frac_init_1 : decode prog_19_method_1_code 1 = .ok (.invokespecial 1, 3) := by decide +kernel
theorem d_Frac_init_4 : decode prog_19_method_1_code 4 = .ok (.aload_n 0, 1) := by decide +kernel
theorem d_Frac_init_5 : decode prog_19_method_1_code 5 = .ok (.new 7, 3) := by decide +kernel
theorem d_Frac_init_8 : decode prog_19_method_1_code 8 = .ok (.dup, 1) := by decide +kernel
theorem d_Frac_init_9 : decode prog_19_method_1_code 9 = .ok (.invokespecial 9, 3) := by decide +kernel
theorem d_Frac_init_12 : decode prog_19_method_1_code 12 = .ok (.putfield 10, 3) := by decide +kernel
theorem d_Frac_init_15 : decode prog_19_method_1_code 15 = .ok (.aload_n 0, 1) := by decide +kernel
theorem d_Frac_init_16 : decode prog_19_method_1_code 16 = .ok (.sipush 4096, 3) := by decide +kernel
theorem d_Frac_init_19 : decode prog_19_method_1_code 19 = .ok (.newarray .int, 2) := by decide +kernel
theorem d_Frac_init_21 : decode prog_19_method_1_code 21 = .ok (.putfield 16, 3) := by decide +kernel
theorem d_Frac_init_24 : decode prog_19_method_1_code 24 = .ok (.aload_n 0, 1) := by decide +kernel
theorem d_Frac_init_25 : decode prog_19_method_1_code 25 = .ok (.bipush 64, 2) := by decide +kernel
theorem d_Frac_init_27 : decode prog_19_method_1_code 27 = .ok (.newarray .int, 2) := by decide +kernel
theorem d_Frac_init_29 : decode prog_19_method_1_code 29 = .ok (.putfield 20, 3) := by decide +kernel
theorem d_Frac_init_32 : decode prog_19_method_1_code 32 = .ok (.aload_n 0, 1) := by decide +kernel
theorem d_Frac_init_33 : decode prog_19_method_1_code 33 = .ok (.getfield 10, 3) := by decide +kernel
theorem d_Frac_init_36 : decode prog_19_method_1_code 36 = .ok (.getfield 23, 3) := by decide +kernel
theorem d_Frac_init_39 : decode prog_19_method_1_code 39 = .ok (.iconst 1, 1) := by decide +kernel
theorem d_Frac_init_40 : decode prog_19_method_1_code 40 = .ok (.iconst 1, 1) := by decide +kernel
theorem d_Frac_init_41 : decode prog_19_method_1_code 41 = .ok (.iastore, 1) := by decide +kernel
theorem d_Frac_init_42 : decode prog_19_method_1_code 42 = .ok (.aload_n 0, 1) := by decide +kernel
theorem d_Frac_init_43 : decode prog_19_method_1_code 43 = .ok (.getfield 10, 3) := by decide +kernel
theorem d_Frac_init_46 : decode prog_19_method_1_code 46 = .ok (.getfield 23, 3) := by decide +kernel
theorem d_Frac_init_49 : decode prog_19_method_1_code 49 = .ok (.iconst 2, 1) := by decide +kernel
theorem d_Frac_init_50 : decode prog_19_method_1_code 50 = .ok (.iconst 1, 1) := by decide +kernel
theorem d_Frac_init_51 : decode prog_19_method_1_code 51 = .ok (.iastore, 1) := by decide +kernel
theorem d_Frac_init_52 : decode prog_19_method_1_code 52 = .ok (.aload_n 0, 1) := by decide +kernel
theorem d_Frac_init_53 : decode prog_19_method_1_code 53 = .ok (.getfield 10, 3) := by decide +kernel
theorem d_Frac_init_56 : decode prog_19_method_1_code 56 = .ok (.iconst 3, 1) := by decide +kernel
theorem d_Frac_init_57 : decode prog_19_method_1_code 57 = .ok (.putfield 26, 3) := by decide +kernel
theorem d_Frac_init_60 : decode prog_19_method_1_code 60 = .ok (.return_, 1) := by decide +kernel
theorem d_Forms_init_0 : decode prog_18_method_1_code 0 = .ok (.aload_n 0, 1) := by decide +kernel
theorem d_Forms_init_1 : decode prog_18_method_1_code 1 = .ok (.invokespecial 3, 3) := by decide +kernel
theorem d_Forms_init_4 : decode prog_18_method_1_code 4 = .ok (.aload_n 0, 1) := by decide +kernel
theorem d_Forms_init_5 : decode prog_18_method_1_code 5 = .ok (.sipush 8192, 3) := by decide +kernel
theorem d_Forms_init_8 : decode prog_18_method_1_code 8 = .ok (.newarray .long, 2) := by decide +kernel
theorem d_Forms_init_10 : decode prog_18_method_1_code 10 = .ok (.putfield 9, 3) := by decide +kernel
theorem d_Forms_init_13 : decode prog_18_method_1_code 13 = .ok (.aload_n 0, 1) := by decide +kernel
theorem d_Forms_init_14 : decode prog_18_method_1_code 14 = .ok (.bipush 64, 2) := by decide +kernel
theorem d_Forms_init_16 : decode prog_18_method_1_code 16 = .ok (.newarray .int, 2) := by decide +kernel
theorem d_Forms_init_18 : decode prog_18_method_1_code 18 = .ok (.putfield 15, 3) := by decide +kernel
theorem d_Forms_init_21 : decode prog_18_method_1_code 21 = .ok (.aload_n 0, 1) := by decide +kernel
theorem d_Forms_init_22 : decode prog_18_method_1_code 22 = .ok (.bipush 64, 2) := by decide +kernel
theorem d_Forms_init_24 : decode prog_18_method_1_code 24 = .ok (.newarray .int, 2) := by decide +kernel
theorem d_Forms_init_26 : decode prog_18_method_1_code 26 = .ok (.putfield 19, 3) := by decide +kernel
theorem d_Forms_init_29 : decode prog_18_method_1_code 29 = .ok (.aload_n 0, 1) := by decide +kernel
theorem d_Forms_init_30 : decode prog_18_method_1_code 30 = .ok (.bipush 64, 2) := by decide +kernel
theorem d_Forms_init_32 : decode prog_18_method_1_code 32 = .ok (.newarray .int, 2) := by decide +kernel
theorem d_Forms_init_34 : decode prog_18_method_1_code 34 = .ok (.putfield 22, 3) := by decide +kernel
theorem d_Forms_init_37 : decode prog_18_method_1_code 37 = .ok (.aload_n 0, 1) := by decide +kernel
theorem d_Forms_init_38 : decode prog_18_method_1_code 38 = .ok (.bipush 64, 2) := by decide +kernel
theorem d_Forms_init_40 : decode prog_18_method_1_code 40 = .ok (.newarray .int, 2) := by decide +kernel
theorem d_Forms_init_42 : decode prog_18_method_1_code 42 = .ok (.putfield 25, 3) := by decide +kernel
theorem d_Forms_init_45 : decode prog_18_method_1_code 45 = .ok (.aload_n 0, 1) := by decide +kernel
theorem d_Forms_init_46 : decode prog_18_method_1_code 46 = .ok (.aload_n 1, 1) := by decide +kernel
theorem d_Forms_init_47 : decode prog_18_method_1_code 47 = .ok (.putfield 28, 3) := by decide +kernel
theorem d_Forms_init_50 : decode prog_18_method_1_code 50 = .ok (.aload_n 0, 1) := by decide +kernel
theorem d_Forms_init_51 : decode prog_18_method_1_code 51 = .ok (.aload_n 1, 1) := by decide +kernel
theorem d_Forms_init_52 : decode prog_18_method_1_code 52 = .ok (.getfield 32, 3) := by decide +kernel
theorem d_Forms_init_55 : decode prog_18_method_1_code 55 = .ok (.putfield 38, 3) := by decide +kernel
theorem d_Forms_init_58 : decode prog_18_method_1_code 58 = .ok (.return_, 1) := by decide +kernel
theorem d_Mdl_init_0 : decode prog_17_method_1_code 0 = .ok (.aload_n 0, 1) := by decide +kernel
theorem d_Mdl_init_1 : decode prog_17_method_1_code 1 = .ok (.invokespecial 1, 3) := by decide +kernel
theorem d_Mdl_init_4 : decode prog_17_method_1_code 4 = .ok (.aload_n 0, 1) := by decide +kernel
theorem d_Mdl_init_5 : decode prog_17_method_1_code 5 = .ok (.ldc 9, 2) := by decide +kernel
theorem d_Mdl_init_7 : decode prog_17_method_1_code 7 = .ok (.newarray .byte, 2) := by decide +kernel
theorem d_Mdl_init_9 : decode prog_17_method_1_code 9 = .ok (.putfield 10, 3) := by decide +kernel
theorem d_Mdl_init_12 : decode prog_17_method_1_code 12 = .ok (.aload_n 0, 1) := by decide +kernel
theorem d_Mdl_init_13 : decode prog_17_method_1_code 13 = .ok (.new 14, 3) := by decide +kernel
theorem d_Mdl_init_16 : decode prog_17_method_1_code 16 = .ok (.dup, 1) := by decide +kernel
theorem d_Mdl_init_17 : decode prog_17_method_1_code 17 = .ok (.invokespecial 16, 3) := by decide +kernel
theorem d_Mdl_init_20 : decode prog_17_method_1_code 20 = .ok (.putfield 17, 3) := by decide +kernel
theorem d_Mdl_init_23 : decode prog_17_method_1_code 23 = .ok (.aload_n 0, 1) := by decide +kernel
theorem d_Mdl_init_24 : decode prog_17_method_1_code 24 = .ok (.new 21, 3) := by decide +kernel
theorem d_Mdl_init_27 : decode prog_17_method_1_code 27 = .ok (.dup, 1) := by decide +kernel
theorem d_Mdl_init_28 : decode prog_17_method_1_code 28 = .ok (.aload_n 0, 1) := by decide +kernel
theorem d_Mdl_init_29 : decode prog_17_method_1_code 29 = .ok (.getfield 17, 3) := by decide +kernel
theorem d_Mdl_init_32 : decode prog_17_method_1_code 32 = .ok (.invokespecial 23, 3) := by decide +kernel
theorem d_Mdl_init_35 : decode prog_17_method_1_code 35 = .ok (.putfield 26, 3) := by decide +kernel
theorem d_Mdl_init_38 : decode prog_17_method_1_code 38 = .ok (.aload_n 0, 1) := by decide +kernel
theorem d_Mdl_init_39 : decode prog_17_method_1_code 39 = .ok (.new 14, 3) := by decide +kernel
theorem d_Mdl_init_42 : decode prog_17_method_1_code 42 = .ok (.dup, 1) := by decide +kernel
theorem d_Mdl_init_43 : decode prog_17_method_1_code 43 = .ok (.invokespecial 16, 3) := by decide +kernel
theorem d_Mdl_init_46 : decode prog_17_method_1_code 46 = .ok (.putfield 30, 3) := by decide +kernel
theorem d_Mdl_init_49 : decode prog_17_method_1_code 49 = .ok (.aload_n 0, 1) := by decide +kernel
theorem d_Mdl_init_50 : decode prog_17_method_1_code 50 = .ok (.new 14, 3) := by decide +kernel
theorem d_Mdl_init_53 : decode prog_17_method_1_code 53 = .ok (.dup, 1) := by decide +kernel
theorem d_Mdl_init_54 : decode prog_17_method_1_code 54 = .ok (.invokespecial 16, 3) := by decide +kernel
theorem d_Mdl_init_57 : decode prog_17_method_1_code 57 = .ok (.putfield 33, 3) := by decide +kernel
theorem d_Mdl_init_60 : decode prog_17_method_1_code 60 = .ok (.aload_n 0, 1) := by decide +kernel
theorem d_Mdl_init_61 : decode prog_17_method_1_code 61 = .ok (.sipush 8200, 3) := by decide +kernel
theorem d_Mdl_init_64 : decode prog_17_method_1_code 64 = .ok (.newarray .byte, 2) := by decide +kernel
theorem d_Mdl_init_66 : decode prog_17_method_1_code 66 = .ok (.putfield 36, 3) := by decide +kernel
theorem d_Mdl_init_69 : decode prog_17_method_1_code 69 = .ok (.aload_n 0, 1) := by decide +kernel
theorem d_Mdl_init_70 : decode prog_17_method_1_code 70 = .ok (.sipush 200, 3) := by decide +kernel
theorem d_Mdl_init_73 : decode prog_17_method_1_code 73 = .ok (.newarray .int, 2) := by decide +kernel
theorem d_Mdl_init_75 : decode prog_17_method_1_code 75 = .ok (.putfield 39, 3) := by decide +kernel
theorem d_Mdl_init_78 : decode prog_17_method_1_code 78 = .ok (.aload_n 0, 1) := by decide +kernel
theorem d_Mdl_init_79 : decode prog_17_method_1_code 79 = .ok (.sipush 200, 3) := by decide +kernel
theorem d_Mdl_init_82 : decode prog_17_method_1_code 82 = .ok (.newarray .int, 2) := by decide +kernel
theorem d_Mdl_init_84 : decode prog_17_method_1_code 84 = .ok (.putfield 43, 3) := by decide +kernel
theorem d_Mdl_init_87 : decode prog_17_method_1_code 87 = .ok (.aload_n 0, 1) := by decide +kernel
theorem d_Mdl_init_88 : decode prog_17_method_1_code 88 = .ok (.sipush 200, 3) := by decide +kernel
theorem d_Mdl_init_91 : decode prog_17_method_1_code 91 = .ok (.newarray .int, 2) := by decide +kernel
theorem d_Mdl_init_93 : decode prog_17_method_1_code 93 = .ok (.putfield 46, 3) := by decide +kernel
theorem d_Mdl_init_96 : decode prog_17_method_1_code 96 = .ok (.aload_n 0, 1) := by decide +kernel
theorem d_Mdl_init_97 : decode prog_17_method_1_code 97 = .ok (.sipush 200, 3) := by decide +kernel
theorem d_Mdl_init_100 : decode prog_17_method_1_code 100 = .ok (.newarray .int, 2) := by decide +kernel
theorem d_Mdl_init_102 : decode prog_17_method_1_code 102 = .ok (.putfield 49, 3) := by decide +kernel
theorem d_Mdl_init_105 : decode prog_17_method_1_code 105 = .ok (.aload_n 0, 1) := by decide +kernel
theorem d_Mdl_init_106 : decode prog_17_method_1_code 106 = .ok (.sipush 1024, 3) := by decide +kernel
theorem d_Mdl_init_109 : decode prog_17_method_1_code 109 = .ok (.newarray .byte, 2) := by decide +kernel
theorem d_Mdl_init_111 : decode prog_17_method_1_code 111 = .ok (.putfield 52, 3) := by decide +kernel
theorem d_Mdl_init_114 : decode prog_17_method_1_code 114 = .ok (.aload_n 0, 1) := by decide +kernel
theorem d_Mdl_init_115 : decode prog_17_method_1_code 115 = .ok (.iconst (-1), 1) := by decide +kernel
theorem d_Mdl_init_116 : decode prog_17_method_1_code 116 = .ok (.putfield 55, 3) := by decide +kernel
theorem d_Mdl_init_119 : decode prog_17_method_1_code 119 = .ok (.aload_n 0, 1) := by decide +kernel
theorem d_Mdl_init_120 : decode prog_17_method_1_code 120 = .ok (.sipush 200, 3) := by decide +kernel
theorem d_Mdl_init_123 : decode prog_17_method_1_code 123 = .ok (.newarray .long, 2) := by decide +kernel
theorem d_Mdl_init_125 : decode prog_17_method_1_code 125 = .ok (.putfield 59, 3) := by decide +kernel
theorem d_Mdl_init_128 : decode prog_17_method_1_code 128 = .ok (.aload_n 0, 1) := by decide +kernel
theorem d_Mdl_init_129 : decode prog_17_method_1_code 129 = .ok (.bipush 64, 2) := by decide +kernel
theorem d_Mdl_init_131 : decode prog_17_method_1_code 131 = .ok (.newarray .int, 2) := by decide +kernel
theorem d_Mdl_init_133 : decode prog_17_method_1_code 133 = .ok (.putfield 63, 3) := by decide +kernel
theorem d_Mdl_init_136 : decode prog_17_method_1_code 136 = .ok (.aload_n 0, 1) := by decide +kernel
theorem d_Mdl_init_137 : decode prog_17_method_1_code 137 = .ok (.sipush 320, 3) := by decide +kernel
theorem d_Mdl_init_140 : decode prog_17_method_1_code 140 = .ok (.newarray .int, 2) := by decide +kernel
theorem d_Mdl_init_142 : decode prog_17_method_1_code 142 = .ok (.putfield 66, 3) := by decide +kernel
theorem d_Mdl_init_145 : decode prog_17_method_1_code 145 = .ok (.return_, 1) := by decide +kernel
