theorem d_Mdl_end_0 : decode prog_17_method_62_code 0 = .ok (.aload_n 0, 1) := by decide +kernel
theorem d_Mdl_end_1 : decode prog_17_method_62_code 1 = .ok (.iload_n 1, 1) := by decide +kernel
theorem d_Mdl_end_2 : decode prog_17_method_62_code 2 = .ok (.ifCond .lt 11, 3) := by decide +kernel
theorem d_Mdl_end_5 : decode prog_17_method_62_code 5 = .ok (.iload_n 1, 1) := by decide +kernel
theorem d_Mdl_end_6 : decode prog_17_method_62_code 6 = .ok (.aload_n 0, 1) := by decide +kernel
theorem d_Mdl_end_7 : decode prog_17_method_62_code 7 = .ok (.getfield 91, 3) := by decide +kernel
theorem d_Mdl_end_10 : decode prog_17_method_62_code 10 = .ok (.if_icmp .le 7, 3) := by decide +kernel
theorem d_Mdl_end_13 : decode prog_17_method_62_code 13 = .ok (.iconst 1, 1) := by decide +kernel
theorem d_Mdl_end_14 : decode prog_17_method_62_code 14 = .ok (.goto 4, 3) := by decide +kernel
theorem d_Mdl_end_17 : decode prog_17_method_62_code 17 = .ok (.iconst 0, 1) := by decide +kernel
theorem d_Mdl_end_18 : decode prog_17_method_62_code 18 = .ok (.putfield 69, 3) := by decide +kernel
theorem d_Mdl_end_21 : decode prog_17_method_62_code 21 = .ok (.aload_n 0, 1) := by decide +kernel
theorem d_Mdl_end_22 : decode prog_17_method_62_code 22 = .ok (.getfield 69, 3) := by decide +kernel
theorem d_Mdl_end_25 : decode prog_17_method_62_code 25 = .ok (.ifCond .ne 8, 3) := by decide +kernel
theorem d_Mdl_end_28 : decode prog_17_method_62_code 28 = .ok (.aload_n 0, 1) := by decide +kernel
theorem d_Mdl_end_29 : decode prog_17_method_62_code 29 = .ok (.iload_n 1, 1) := by decide +kernel
theorem d_Mdl_end_30 : decode prog_17_method_62_code 30 = .ok (.putfield 91, 3) := by decide +kernel
theorem d_Mdl_end_33 : decode prog_17_method_62_code 33 = .ok (.return_, 1) := by decide +kernel
theorem d_Mdl_forget_0 : decode prog_17_method_68_code 0 = .ok (.aload_n 0, 1) := by decide +kernel
theorem d_Mdl_forget_1 : decode prog_17_method_68_code 1 = .ok (.iconst 0, 1) := by decide +kernel
theorem d_Mdl_forget_2 : decode prog_17_method_68_code 2 = .ok (.putfield 69, 3) := by decide +kernel
theorem d_Mdl_forget_5 : decode prog_17_method_68_code 5 = .ok (.aload_n 0, 1) := by decide +kernel
theorem d_Mdl_forget_6 : decode prog_17_method_68_code 6 = .ok (.getfield 146, 3) := by decide +kernel
theorem d_Mdl_forget_9 : decode prog_17_method_68_code 9 = .ok (.istore_n 1, 1) := by decide +kernel
theorem d_Mdl_forget_10 : decode prog_17_method_68_code 10 = .ok (.aload_n 0, 1) := by decide +kernel
theorem d_Mdl_forget_11 : decode prog_17_method_68_code 11 = .ok (.iconst 0, 1) := by decide +kernel
theorem d_Mdl_forget_12 : decode prog_17_method_68_code 12 = .ok (.putfield 146, 3) := by decide +kernel
theorem d_Mdl_forget_15 : decode prog_17_method_68_code 15 = .ok (.aload_n 0, 1) := by decide +kernel
theorem d_Mdl_forget_16 : decode prog_17_method_68_code 16 = .ok (.iconst 0, 1) := by decide +kernel
theorem d_Mdl_forget_17 : decode prog_17_method_68_code 17 = .ok (.putfield 529, 3) := by decide +kernel
theorem d_Mdl_forget_20 : decode prog_17_method_68_code 20 = .ok (.aload_n 0, 1) := by decide +kernel
theorem d_Mdl_forget_21 : decode prog_17_method_68_code 21 = .ok (.iconst 0, 1) := by decide +kernel
theorem d_Mdl_forget_22 : decode prog_17_method_68_code 22 = .ok (.putfield 532, 3) := by decide +kernel
theorem d_Mdl_forget_25 : decode prog_17_method_68_code 25 = .ok (.aload_n 0, 1) := by decide +kernel
theorem d_Mdl_forget_26 : decode prog_17_method_68_code 26 = .ok (.getfield 30, 3) := by decide +kernel
theorem d_Mdl_forget_29 : decode prog_17_method_68_code 29 = .ok (.getfield 155, 3) := by decide +kernel
theorem d_Mdl_forget_32 : decode prog_17_method_68_code 32 = .ok (.iconst 3, 1) := by decide +kernel
theorem d_Mdl_forget_33 : decode prog_17_method_68_code 33 = .ok (.putfield 159, 3) := by decide +kernel
theorem d_Mdl_forget_36 : decode prog_17_method_68_code 36 = .ok (.aload_n 0, 1) := by decide +kernel
theorem d_Mdl_forget_37 : decode prog_17_method_68_code 37 = .ok (.getfield 30, 3) := by decide +kernel
theorem d_Mdl_forget_40 : decode prog_17_method_68_code 40 = .ok (.iconst 0, 1) := by decide +kernel
theorem d_Mdl_forget_41 : decode prog_17_method_68_code 41 = .ok (.putfield 277, 3) := by decide +kernel
theorem d_Mdl_forget_44 : decode prog_17_method_68_code 44 = .ok (.iload_n 1, 1) := by decide +kernel
theorem d_Mdl_forget_45 : decode prog_17_method_68_code 45 = .ok (.ireturn, 1) := by decide +kernel
theorem d_Mdl_length_0 : decode prog_17_method_65_code 0 = .ok (.aload_n 0, 1) := by decide +kernel
theorem d_Mdl_length_1 : decode prog_17_method_65_code 1 = .ok (.iconst 0, 1) := by decide +kernel
theorem d_Mdl_length_2 : decode prog_17_method_65_code 2 = .ok (.putfield 69, 3) := by decide +kernel
theorem d_Mdl_length_5 : decode prog_17_method_65_code 5 = .ok (.aload_n 0, 1) := by decide +kernel
theorem d_Mdl_length_6 : decode prog_17_method_65_code 6 = .ok (.getfield 541, 3) := by decide +kernel
theorem d_Mdl_length_9 : decode prog_17_method_65_code 9 = .ok (.ireturn, 1) := by decide +kernel
theorem d_Mdl_place_0 : decode prog_17_method_64_code 0 = .ok (.aload_n 0, 1) := by decide +kernel
theorem d_Mdl_place_1 : decode prog_17_method_64_code 1 = .ok (.iconst 0, 1) := by decide +kernel
theorem d_Mdl_place_2 : decode prog_17_method_64_code 2 = .ok (.putfield 69, 3) := by decide +kernel
theorem d_Mdl_place_5 : decode prog_17_method_64_code 5 = .ok (.aload_n 0, 1) := by decide +kernel
theorem d_Mdl_place_6 : decode prog_17_method_64_code 6 = .ok (.getfield 55, 3) := by decide +kernel
theorem d_Mdl_place_9 : decode prog_17_method_64_code 9 = .ok (.ireturn, 1) := by decide +kernel
theorem d_Mdl_thrown_0 : decode prog_17_method_2_code 0 = .ok (.aload_n 0, 1) := by decide +kernel
theorem d_Mdl_thrown_1 : decode prog_17_method_2_code 1 = .ok (.getfield 69, 3) := by decide +kernel
theorem d_Mdl_thrown_4 : decode prog_17_method_2_code 4 = .ok (.ireturn, 1) := by decide +kernel
theorem d_Mdl_told_0 : decode prog_17_method_69_code 0 = .ok (.aload_n 0, 1) := by decide +kernel
theorem d_Mdl_told_1 : decode prog_17_method_69_code 1 = .ok (.iconst 0, 1) := by decide +kernel
theorem d_Mdl_told_2 : decode prog_17_method_69_code 2 = .ok (.putfield 69, 3) := by decide +kernel
theorem d_Mdl_told_5 : decode prog_17_method_69_code 5 = .ok (.iload_n 1, 1) := by decide +kernel
theorem d_Mdl_told_6 : decode prog_17_method_69_code 6 = .ok (.ifCond .ne 10, 3) := by decide +kernel
theorem d_Mdl_told_9 : decode prog_17_method_69_code 9 = .ok (.aload_n 0, 1) := by decide +kernel
theorem d_Mdl_told_10 : decode prog_17_method_69_code 10 = .ok (.getfield 146, 3) := by decide +kernel
theorem d_Mdl_told_13 : decode prog_17_method_69_code 13 = .ok (.goto 40, 3) := by decide +kernel
theorem d_Mdl_told_16 : decode prog_17_method_69_code 16 = .ok (.iload_n 1, 1) := by decide +kernel
theorem d_Mdl_told_17 : decode prog_17_method_69_code 17 = .ok (.iconst 1, 1) := by decide +kernel
theorem d_Mdl_told_18 : decode prog_17_method_69_code 18 = .ok (.if_icmp .ne 10, 3) := by decide +kernel
theorem d_Mdl_told_21 : decode prog_17_method_69_code 21 = .ok (.aload_n 0, 1) := by decide +kernel
theorem d_Mdl_told_22 : decode prog_17_method_69_code 22 = .ok (.getfield 529, 3) := by decide +kernel
theorem d_Mdl_told_25 : decode prog_17_method_69_code 25 = .ok (.goto 28, 3) := by decide +kernel
theorem d_Mdl_told_28 : decode prog_17_method_69_code 28 = .ok (.iload_n 1, 1) := by decide +kernel
theorem d_Mdl_told_29 : decode prog_17_method_69_code 29 = .ok (.iconst 2, 1) := by decide +kernel
theorem d_Mdl_told_30 : decode prog_17_method_69_code 30 = .ok (.if_icmp .ne 10, 3) := by decide +kernel
theorem d_Mdl_told_33 : decode prog_17_method_69_code 33 = .ok (.aload_n 0, 1) := by decide +kernel
theorem d_Mdl_told_34 : decode prog_17_method_69_code 34 = .ok (.getfield 595, 3) := by decide +kernel
theorem d_Mdl_told_37 : decode prog_17_method_69_code 37 = .ok (.goto 16, 3) := by decide +kernel
theorem d_Mdl_told_40 : decode prog_17_method_69_code 40 = .ok (.iload_n 1, 1) := by decide +kernel
theorem d_Mdl_told_41 : decode prog_17_method_69_code 41 = .ok (.iconst 3, 1) := by decide +kernel
theorem d_Mdl_told_42 : decode prog_17_method_69_code 42 = .ok (.if_icmp .ne 10, 3) := by decide +kernel
theorem d_Mdl_told_45 : decode prog_17_method_69_code 45 = .ok (.aload_n 0, 1) := by decide +kernel
theorem d_Mdl_told_46 : decode prog_17_method_69_code 46 = .ok (.getfield 91, 3) := by decide +kernel
theorem d_Mdl_told_49 : decode prog_17_method_69_code 49 = .ok (.goto 4, 3) := by decide +kernel
theorem d_Mdl_told_52 : decode prog_17_method_69_code 52 = .ok (.iconst (-1), 1) := by decide +kernel
theorem d_Mdl_told_53 : decode prog_17_method_69_code 53 = .ok (.ireturn, 1) := by decide +kernel
theorem d_Mdl_wipe_0 : decode prog_17_method_67_code 0 = .ok (.aload_n 0, 1) := by decide +kernel
theorem d_Mdl_wipe_1 : decode prog_17_method_67_code 1 = .ok (.iconst 0, 1) := by decide +kernel
theorem d_Mdl_wipe_2 : decode prog_17_method_67_code 2 = .ok (.putfield 69, 3) := by decide +kernel
theorem d_Mdl_wipe_5 : decode prog_17_method_67_code 5 = .ok (.aload_n 0, 1) := by decide +kernel
theorem d_Mdl_wipe_6 : decode prog_17_method_67_code 6 = .ok (.getfield 541, 3) := by decide +kernel
theorem d_Mdl_wipe_9 : decode prog_17_method_67_code 9 = .ok (.istore_n 1, 1) := by decide +kernel
theorem d_Mdl_wipe_10 : decode prog_17_method_67_code 10 = .ok (.aload_n 0, 1) := by decide +kernel
theorem d_Mdl_wipe_11 : decode prog_17_method_67_code 11 = .ok (.iconst 0, 1) := by decide +kernel
theorem d_Mdl_wipe_12 : decode prog_17_method_67_code 12 = .ok (.putfield 541, 3) := by decide +kernel
theorem d_Mdl_wipe_15 : decode prog_17_method_67_code 15 = .ok (.iload_n 1, 1) := by decide +kernel
theorem d_Mdl_wipe_16 : decode prog_17_method_67_code 16 = .ok (.ireturn, 1) := by decide +kernel
theorem d_Ms_end_0 : decode prog_1_method_3_code 0 = .ok (.iload_n 1, 1) := by decide +kernel
theorem d_Ms_end_1 : decode prog_1_method_3_code 1 = .ok (.ifCond .lt 14, 3) := by decide +kernel
theorem d_Ms_end_4 : decode prog_1_method_3_code 4 = .ok (.iload_n 1, 1) := by decide +kernel
theorem d_Ms_end_5 : decode prog_1_method_3_code 5 = .ok (.aload_n 0, 1) := by decide +kernel
theorem d_Ms_end_6 : decode prog_1_method_3_code 6 = .ok (.getfield 20, 3) := by decide +kernel
theorem d_Ms_end_9 : decode prog_1_method_3_code 9 = .ok (.getfield 26, 3) := by decide +kernel
theorem d_Ms_end_12 : decode prog_1_method_3_code 12 = .ok (.if_icmp .le 11, 3) := by decide +kernel
theorem d_Ms_end_15 : decode prog_1_method_3_code 15 = .ok (.new 40, 3) := by decide +kernel
theorem d_Ms_end_18 : decode prog_1_method_3_code 18 = .ok (.dup, 1) := by decide +kernel
theorem d_Ms_end_19 : decode prog_1_method_3_code 19 = .ok (.invokespecial 42, 3) := by decide +kernel
theorem d_Ms_end_22 : decode prog_1_method_3_code 22 = .ok (.athrow, 1) := by decide +kernel
theorem d_Ms_end_23 : decode prog_1_method_3_code 23 = .ok (.aload_n 0, 1) := by decide +kernel
theorem d_Ms_end_24 : decode prog_1_method_3_code 24 = .ok (.getfield 20, 3) := by decide +kernel
theorem d_Ms_end_27 : decode prog_1_method_3_code 27 = .ok (.iload_n 1, 1) := by decide +kernel
theorem d_Ms_end_28 : decode prog_1_method_3_code 28 = .ok (.putfield 26, 3) := by decide +kernel
theorem d_Ms_end_31 : decode prog_1_method_3_code 31 = .ok (.return_, 1) := by decide +kernel
theorem d_Ms_forget_0 : decode prog_1_method_9_code 0 = .ok (.aload_n 0, 1) := by decide +kernel
theorem d_Ms_forget_1 : decode prog_1_method_9_code 1 = .ok (.getfield 10, 3) := by decide +kernel
theorem d_Ms_forget_4 : decode prog_1_method_9_code 4 = .ok (.getfield 77, 3) := by decide +kernel
theorem d_Ms_forget_7 : decode prog_1_method_9_code 7 = .ok (.invokevirtual 81, 3) := by decide +kernel
theorem d_Ms_forget_10 : decode prog_1_method_9_code 10 = .ok (.ireturn, 1) := by decide +kernel
theorem d_Ms_length_0 : decode prog_1_method_6_code 0 = .ok (.aload_n 0, 1) := by decide +kernel
theorem d_Ms_length_1 : decode prog_1_method_6_code 1 = .ok (.getfield 25, 3) := by decide +kernel
theorem d_Ms_length_4 : decode prog_1_method_6_code 4 = .ok (.getfield 67, 3) := by decide +kernel
theorem d_Ms_length_7 : decode prog_1_method_6_code 7 = .ok (.ireturn, 1) := by decide +kernel
theorem d_Ms_place_0 : decode prog_1_method_5_code 0 = .ok (.aload_n 0, 1) := by decide +kernel
theorem d_Ms_place_1 : decode prog_1_method_5_code 1 = .ok (.getfield 10, 3) := by decide +kernel
theorem d_Ms_place_4 : decode prog_1_method_5_code 4 = .ok (.getfield 64, 3) := by decide +kernel
theorem d_Ms_place_7 : decode prog_1_method_5_code 7 = .ok (.ireturn, 1) := by decide +kernel
theorem d_Ms_told_0 : decode prog_1_method_10_code 0 = .ok (.iload_n 1, 1) := by decide +kernel
theorem d_Ms_told_1 : decode prog_1_method_10_code 1 = .ok (.tableswitch 69 0 3 #[31, 42, 53, 61], 31) := by decide +kernel
theorem d_Ms_told_32 : decode prog_1_method_10_code 32 = .ok (.aload_n 0, 1) := by decide +kernel
theorem d_Ms_told_33 : decode prog_1_method_10_code 33 = .ok (.getfield 10, 3) := by decide +kernel
theorem d_Ms_told_36 : decode prog_1_method_10_code 36 = .ok (.getfield 77, 3) := by decide +kernel
theorem d_Ms_told_39 : decode prog_1_method_10_code 39 = .ok (.getfield 87, 3) := by decide +kernel
theorem d_Ms_told_42 : decode prog_1_method_10_code 42 = .ok (.ireturn, 1) := by decide +kernel
theorem d_Ms_told_43 : decode prog_1_method_10_code 43 = .ok (.aload_n 0, 1) := by decide +kernel
theorem d_Ms_told_44 : decode prog_1_method_10_code 44 = .ok (.getfield 10, 3) := by decide +kernel
theorem d_Ms_told_47 : decode prog_1_method_10_code 47 = .ok (.getfield 77, 3) := by decide +kernel
theorem d_Ms_told_50 : decode prog_1_method_10_code 50 = .ok (.getfield 90, 3) := by decide +kernel
theorem d_Ms_told_53 : decode prog_1_method_10_code 53 = .ok (.ireturn, 1) := by decide +kernel
theorem d_Ms_told_54 : decode prog_1_method_10_code 54 = .ok (.aload_n 0, 1) := by decide +kernel
theorem d_Ms_told_55 : decode prog_1_method_10_code 55 = .ok (.getfield 10, 3) := by decide +kernel
theorem d_Ms_told_58 : decode prog_1_method_10_code 58 = .ok (.getfield 93, 3) := by decide +kernel
theorem d_Ms_told_61 : decode prog_1_method_10_code 61 = .ok (.ireturn, 1) := by decide +kernel
theorem d_Ms_told_62 : decode prog_1_method_10_code 62 = .ok (.aload_n 0, 1) := by decide +kernel
theorem d_Ms_told_63 : decode prog_1_method_10_code 63 = .ok (.getfield 20, 3) := by decide +kernel
theorem d_Ms_told_66 : decode prog_1_method_10_code 66 = .ok (.getfield 26, 3) := by decide +kernel
theorem d_Ms_told_69 : decode prog_1_method_10_code 69 = .ok (.ireturn, 1) := by decide +kernel
theorem d_Ms_told_70 : decode prog_1_method_10_code 70 = .ok (.iconst (-1), 1) := by decide +kernel
theorem d_Ms_told_71 : decode prog_1_method_10_code 71 = .ok (.ireturn, 1) := by decide +kernel
theorem d_Ms_wipe_0 : decode prog_1_method_8_code 0 = .ok (.aload_n 0, 1) := by decide +kernel
theorem d_Ms_wipe_1 : decode prog_1_method_8_code 1 = .ok (.getfield 25, 3) := by decide +kernel
theorem d_Ms_wipe_4 : decode prog_1_method_8_code 4 = .ok (.getfield 67, 3) := by decide +kernel
theorem d_Ms_wipe_7 : decode prog_1_method_8_code 7 = .ok (.istore_n 1, 1) := by decide +kernel
theorem d_Ms_wipe_8 : decode prog_1_method_8_code 8 = .ok (.aload_n 0, 1) := by decide +kernel
theorem d_Ms_wipe_9 : decode prog_1_method_8_code 9 = .ok (.getfield 25, 3) := by decide +kernel
theorem d_Ms_wipe_12 : decode prog_1_method_8_code 12 = .ok (.iconst 0, 1) := by decide +kernel
theorem d_Ms_wipe_13 : decode prog_1_method_8_code 13 = .ok (.putfield 67, 3) := by decide +kernel
theorem d_Ms_wipe_16 : decode prog_1_method_8_code 16 = .ok (.iload_n 1, 1) := by decide +kernel
theorem d_Ms_wipe_17 : decode prog_1_method_8_code 17 = .ok (.ireturn, 1) := by decide +kernel
theorem d_Script_begin_0 : decode prog_12_method_2_code 0 = .ok (.aload_n 0, 1) := by decide +kernel
theorem d_Script_begin_1 : decode prog_12_method_2_code 1 = .ok (.iconst 0, 1) := by decide +kernel
theorem d_Script_begin_2 : decode prog_12_method_2_code 2 = .ok (.putfield 61, 3) := by decide +kernel
theorem d_Script_begin_5 : decode prog_12_method_2_code 5 = .ok (.aload_n 0, 1) := by decide +kernel
theorem d_Script_begin_6 : decode prog_12_method_2_code 6 = .ok (.iconst 0, 1) := by decide +kernel
theorem d_Script_begin_7 : decode prog_12_method_2_code 7 = .ok (.putfield 64, 3) := by decide +kernel
theorem d_Script_begin_10 : decode prog_12_method_2_code 10 = .ok (.aload_n 0, 1) := by decide +kernel
theorem d_Script_begin_11 : decode prog_12_method_2_code 11 = .ok (.iconst (-1), 1) := by decide +kernel
theorem d_Script_begin_12 : decode prog_12_method_2_code 12 = .ok (.putfield 32, 3) := by decide +kernel
theorem d_Script_begin_15 : decode prog_12_method_2_code 15 = .ok (.aload_n 0, 1) := by decide +kernel
theorem d_Script_begin_16 : decode prog_12_method_2_code 16 = .ok (.getfield 39, 3) := by decide +kernel
theorem d_Script_begin_19 : decode prog_12_method_2_code 19 = .ok (.iconst 0, 1) := by decide +kernel
theorem d_Script_begin_20 : decode prog_12_method_2_code 20 = .ok (.putfield 67, 3) := by decide +kernel
theorem d_Script_begin_23 : decode prog_12_method_2_code 23 = .ok (.aload_n 0, 1) := by decide +kernel
theorem d_Script_begin_24 : decode prog_12_method_2_code 24 = .ok (.getfield 46, 3) := by decide +kernel
theorem d_Script_begin_27 : decode prog_12_method_2_code 27 = .ok (.invokevirtual 70, 3) := by decide +kernel
theorem d_Script_begin_30 : decode prog_12_method_2_code 30 = .ok (.pop, 1) := by decide +kernel
theorem d_Script_begin_31 : decode prog_12_method_2_code 31 = .ok (.aload_n 0, 1) := by decide +kernel
theorem d_Script_begin_32 : decode prog_12_method_2_code 32 = .ok (.iconst 0, 1) := by decide +kernel
theorem d_Script_begin_33 : decode prog_12_method_2_code 33 = .ok (.putfield 74, 3) := by decide +kernel
theorem d_Script_begin_36 : decode prog_12_method_2_code 36 = .ok (.aload_n 0, 1) := by decide +kernel
theorem d_Script_begin_37 : decode prog_12_method_2_code 37 = .ok (.iconst 0, 1) := by decide +kernel
theorem d_Script_begin_38 : decode prog_12_method_2_code 38 = .ok (.putfield 77, 3) := by decide +kernel
theorem d_Script_begin_41 : decode prog_12_method_2_code 41 = .ok (.aload_n 0, 1) := by decide +kernel
theorem d_Script_begin_42 : decode prog_12_method_2_code 42 = .ok (.iconst 0, 1) := by decide +kernel
theorem d_Script_begin_43 : decode prog_12_method_2_code 43 = .ok (.putfield 80, 3) := by decide +kernel
theorem d_Script_begin_46 : decode prog_12_method_2_code 46 = .ok (.aload_n 0, 1) := by decide +kernel
theorem d_Script_begin_47 : decode prog_12_method_2_code 47 = .ok (.getfield 12, 3) := by decide +kernel
theorem d_Script_begin_50 : decode prog_12_method_2_code 50 = .ok (.iconst 0, 1) := by decide +kernel
theorem d_Script_begin_51 : decode prog_12_method_2_code 51 = .ok (.putfield 83, 3) := by decide +kernel
theorem d_Script_begin_54 : decode prog_12_method_2_code 54 = .ok (.return_, 1) := by decide +kernel
theorem d_Script_dropCode_0 : decode prog_12_method_3_code 0 = .ok (.aload_n 0, 1) := by decide +kernel
theorem d_Script_dropCode_1 : decode prog_12_method_3_code 1 = .ok (.iconst 0, 1) := by decide +kernel
theorem d_Script_dropCode_2 : decode prog_12_method_3_code 2 = .ok (.putfield 77, 3) := by decide +kernel
theorem d_Script_dropCode_5 : decode prog_12_method_3_code 5 = .ok (.return_, 1) := by decide +kernel
theorem d_Values_clear_0 : decode prog_14_method_2_code 0 = .ok (.aload_n 0, 1) := by decide +kernel
theorem d_Values_clear_1 : decode prog_14_method_2_code 1 = .ok (.getfield 16, 3) := by decide +kernel
theorem d_Values_clear_4 : decode prog_14_method_2_code 4 = .ok (.istore_n 1, 1) := by decide +kernel
theorem d_Values_clear_5 : decode prog_14_method_2_code 5 = .ok (.aload_n 0, 1) := by decide +kernel
theorem d_Values_clear_6 : decode prog_14_method_2_code 6 = .ok (.iconst 0, 1) := by decide +kernel
theorem d_Values_clear_7 : decode prog_14_method_2_code 7 = .ok (.putfield 16, 3) := by decide +kernel
theorem d_Values_clear_10 : decode prog_14_method_2_code 10 = .ok (.aload_n 0, 1) := by decide +kernel
theorem d_Values_clear_11 : decode prog_14_method_2_code 11 = .ok (.iconst 0, 1) := by decide +kernel
theorem d_Values_clear_12 : decode prog_14_method_2_code 12 = .ok (.putfield 20, 3) := by decide +kernel
theorem d_Values_clear_15 : decode prog_14_method_2_code 15 = .ok (.aload_n 0, 1) := by decide +kernel
theorem d_Values_clear_16 : decode prog_14_method_2_code 16 = .ok (.iconst 0, 1) := by decide +kernel
theorem d_Values_clear_17 : decode prog_14_method_2_code 17 = .ok (.putfield 23, 3) := by decide +kernel
theorem d_Values_clear_20 : decode prog_14_method_2_code 20 = .ok (.aload_n 0, 1) := by decide +kernel
theorem d_Values_clear_21 : decode prog_14_method_2_code 21 = .ok (.iconst 0, 1) := by decide +kernel
theorem d_Values_clear_22 : decode prog_14_method_2_code 22 = .ok (.putfield 26, 3) := by decide +kernel
theorem d_Values_clear_25 : decode prog_14_method_2_code 25 = .ok (.iload_n 1, 1) := by decide +kernel
theorem d_Values_clear_26 : decode prog_14_method_2_code 26 = .ok (.ireturn, 1) := by decide +kernel
