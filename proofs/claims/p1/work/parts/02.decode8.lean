theorem d_Model_lay_8 : decode prog_9_method_16_code 8 = .ok (.aload_n 0, 1) := by decide +kernel
theorem d_Model_lay_9 : decode prog_9_method_16_code 9 = .ok (.getfield 16, 3) := by decide +kernel
theorem d_Model_lay_12 : decode prog_9_method_16_code 12 = .ok (.aload_n 0, 1) := by decide +kernel
theorem d_Model_lay_13 : decode prog_9_method_16_code 13 = .ok (.getfield 129, 3) := by decide +kernel
theorem d_Model_lay_16 : decode prog_9_method_16_code 16 = .ok (.iload_n 1, 1) := by decide +kernel
theorem d_Model_lay_17 : decode prog_9_method_16_code 17 = .ok (.iastore, 1) := by decide +kernel
theorem d_Model_lay_18 : decode prog_9_method_16_code 18 = .ok (.aload_n 0, 1) := by decide +kernel
theorem d_Model_lay_19 : decode prog_9_method_16_code 19 = .ok (.getfield 20, 3) := by decide +kernel
theorem d_Model_lay_22 : decode prog_9_method_16_code 22 = .ok (.aload_n 0, 1) := by decide +kernel
theorem d_Model_lay_23 : decode prog_9_method_16_code 23 = .ok (.getfield 129, 3) := by decide +kernel
theorem d_Model_lay_26 : decode prog_9_method_16_code 26 = .ok (.iload_n 2, 1) := by decide +kernel
theorem d_Model_lay_27 : decode prog_9_method_16_code 27 = .ok (.iastore, 1) := by decide +kernel
theorem d_Model_lay_28 : decode prog_9_method_16_code 28 = .ok (.aload_n 0, 1) := by decide +kernel
theorem d_Model_lay_29 : decode prog_9_method_16_code 29 = .ok (.getfield 23, 3) := by decide +kernel
theorem d_Model_lay_32 : decode prog_9_method_16_code 32 = .ok (.aload_n 0, 1) := by decide +kernel
theorem d_Model_lay_33 : decode prog_9_method_16_code 33 = .ok (.getfield 129, 3) := by decide +kernel
theorem d_Model_lay_36 : decode prog_9_method_16_code 36 = .ok (.iload_n 3, 1) := by decide +kernel
theorem d_Model_lay_37 : decode prog_9_method_16_code 37 = .ok (.iastore, 1) := by decide +kernel
theorem d_Model_lay_38 : decode prog_9_method_16_code 38 = .ok (.aload_n 0, 1) := by decide +kernel
theorem d_Model_lay_39 : decode prog_9_method_16_code 39 = .ok (.getfield 26, 3) := by decide +kernel
theorem d_Model_lay_42 : decode prog_9_method_16_code 42 = .ok (.aload_n 0, 1) := by decide +kernel
theorem d_Model_lay_43 : decode prog_9_method_16_code 43 = .ok (.getfield 129, 3) := by decide +kernel
theorem d_Model_lay_46 : decode prog_9_method_16_code 46 = .ok (.aload_n 0, 1) := by decide +kernel
theorem d_Model_lay_47 : decode prog_9_method_16_code 47 = .ok (.getfield 91, 3) := by decide +kernel
theorem d_Model_lay_50 : decode prog_9_method_16_code 50 = .ok (.lastore, 1) := by decide +kernel
theorem d_Model_lay_51 : decode prog_9_method_16_code 51 = .ok (.aload_n 0, 1) := by decide +kernel
theorem d_Model_lay_52 : decode prog_9_method_16_code 52 = .ok (.getfield 30, 3) := by decide +kernel
theorem d_Model_lay_55 : decode prog_9_method_16_code 55 = .ok (.aload_n 0, 1) := by decide +kernel
theorem d_Model_lay_56 : decode prog_9_method_16_code 56 = .ok (.getfield 129, 3) := by decide +kernel
theorem d_Model_lay_59 : decode prog_9_method_16_code 59 = .ok (.aload_n 0, 1) := by decide +kernel
theorem d_Model_lay_60 : decode prog_9_method_16_code 60 = .ok (.getfield 95, 3) := by decide +kernel
theorem d_Model_lay_63 : decode prog_9_method_16_code 63 = .ok (.lastore, 1) := by decide +kernel
theorem d_Model_lay_64 : decode prog_9_method_16_code 64 = .ok (.aload_n 0, 1) := by decide +kernel
theorem d_Model_lay_65 : decode prog_9_method_16_code 65 = .ok (.dup, 1) := by decide +kernel
theorem d_Model_lay_66 : decode prog_9_method_16_code 66 = .ok (.getfield 129, 3) := by decide +kernel
theorem d_Model_lay_69 : decode prog_9_method_16_code 69 = .ok (.iconst 1, 1) := by decide +kernel
theorem d_Model_lay_70 : decode prog_9_method_16_code 70 = .ok (.iadd, 1) := by decide +kernel
theorem d_Model_lay_71 : decode prog_9_method_16_code 71 = .ok (.putfield 129, 3) := by decide +kernel
theorem d_Model_lay_74 : decode prog_9_method_16_code 74 = .ok (.return_, 1) := by decide +kernel
theorem d_Model_compile_0 : decode prog_9_method_46_code 0 = .ok (.aload_n 0, 1) := by decide +kernel
theorem d_Model_compile_1 : decode prog_9_method_46_code 1 = .ok (.aload_n 0, 1) := by decide +kernel
theorem d_Model_compile_2 : decode prog_9_method_46_code 2 = .ok (.iconst 0, 1) := by decide +kernel
theorem d_Model_compile_3 : decode prog_9_method_46_code 3 = .ok (.iload_n 1, 1) := by decide +kernel
theorem d_Model_compile_4 : decode prog_9_method_46_code 4 = .ok (.bipush 7, 2) := by decide +kernel
theorem d_Model_compile_6 : decode prog_9_method_46_code 6 = .ok (.iand, 1) := by decide +kernel
theorem d_Model_compile_7 : decode prog_9_method_46_code 7 = .ok (.invokevirtual 275, 3) := by decide +kernel
theorem d_Model_compile_10 : decode prog_9_method_46_code 10 = .ok (.ifCond .ne 7, 3) := by decide +kernel
theorem d_Model_compile_17 : decode prog_9_method_46_code 17 = .ok (.aload_n 0, 1) := by decide +kernel
theorem d_Model_compile_18 : decode prog_9_method_46_code 18 = .ok (.getfield 39, 3) := by decide +kernel
theorem d_Model_compile_21 : decode prog_9_method_46_code 21 = .ok (.iconst 0, 1) := by decide +kernel
theorem d_Model_compile_22 : decode prog_9_method_46_code 22 = .ok (.iaload, 1) := by decide +kernel
theorem d_Model_compile_23 : decode prog_9_method_46_code 23 = .ok (.bipush 120, 2) := by decide +kernel
theorem d_Model_compile_25 : decode prog_9_method_46_code 25 = .ok (.if_icmp .le 7, 3) := by decide +kernel
theorem d_Model_compile_32 : decode prog_9_method_46_code 32 = .ok (.iconst 0, 1) := by decide +kernel
theorem d_Model_compile_33 : decode prog_9_method_46_code 33 = .ok (.invokevirtual 279, 3) := by decide +kernel
theorem d_Model_compile_36 : decode prog_9_method_46_code 36 = .ok (.ifCond .eq 5, 3) := by decide +kernel
theorem d_Model_compile_41 : decode prog_9_method_46_code 41 = .ok (.aload_n 0, 1) := by decide +kernel
theorem d_Model_compile_42 : decode prog_9_method_46_code 42 = .ok (.getfield 39, 3) := by decide +kernel
theorem d_Model_compile_45 : decode prog_9_method_46_code 45 = .ok (.iconst 0, 1) := by decide +kernel
theorem d_Model_compile_46 : decode prog_9_method_46_code 46 = .ok (.iaload, 1) := by decide +kernel
theorem d_Model_compile_47 : decode prog_9_method_46_code 47 = .ok (.istore_n 2, 1) := by decide +kernel
theorem d_Model_compile_48 : decode prog_9_method_46_code 48 = .ok (.aload_n 0, 1) := by decide +kernel
theorem d_Model_compile_49 : decode prog_9_method_46_code 49 = .ok (.iconst 1, 1) := by decide +kernel
theorem d_Model_compile_50 : decode prog_9_method_46_code 50 = .ok (.iload_n 1, 1) := by decide +kernel
theorem d_Model_compile_51 : decode prog_9_method_46_code 51 = .ok (.bipush 7, 2) := by decide +kernel
theorem d_Model_compile_53 : decode prog_9_method_46_code 53 = .ok (.iand, 1) := by decide +kernel
theorem d_Model_compile_54 : decode prog_9_method_46_code 54 = .ok (.invokevirtual 275, 3) := by decide +kernel
theorem d_Model_compile_57 : decode prog_9_method_46_code 57 = .ok (.istore_n 3, 1) := by decide +kernel
theorem d_Model_compile_58 : decode prog_9_method_46_code 58 = .ok (.aload_n 0, 1) := by decide +kernel
theorem d_Model_compile_59 : decode prog_9_method_46_code 59 = .ok (.invokevirtual 162, 3) := by decide +kernel
theorem d_Model_compile_62 : decode prog_9_method_46_code 62 = .ok (.aload_n 0, 1) := by decide +kernel
theorem d_Model_compile_63 : decode prog_9_method_46_code 63 = .ok (.bipush 7, 2) := by decide +kernel
theorem d_Model_compile_65 : decode prog_9_method_46_code 65 = .ok (.iconst 0, 1) := by decide +kernel
theorem d_Model_compile_66 : decode prog_9_method_46_code 66 = .ok (.iconst 0, 1) := by decide +kernel
theorem d_Model_compile_67 : decode prog_9_method_46_code 67 = .ok (.invokevirtual 135, 3) := by decide +kernel
theorem d_Model_compile_70 : decode prog_9_method_46_code 70 = .ok (.aload_n 0, 1) := by decide +kernel
theorem d_Model_compile_71 : decode prog_9_method_46_code 71 = .ok (.aload_n 0, 1) := by decide +kernel
theorem d_Model_compile_72 : decode prog_9_method_46_code 72 = .ok (.getfield 156, 3) := by decide +kernel
theorem d_Model_compile_75 : decode prog_9_method_46_code 75 = .ok (.putfield 282, 3) := by decide +kernel
theorem d_Model_compile_78 : decode prog_9_method_46_code 78 = .ok (.aload_n 0, 1) := by decide +kernel
theorem d_Model_compile_79 : decode prog_9_method_46_code 79 = .ok (.iload_n 1, 1) := by decide +kernel
theorem d_Model_compile_80 : decode prog_9_method_46_code 80 = .ok (.bipush 7, 2) := by decide +kernel
theorem d_Model_compile_82 : decode prog_9_method_46_code 82 = .ok (.iand, 1) := by decide +kernel
theorem d_Model_compile_83 : decode prog_9_method_46_code 83 = .ok (.putfield 235, 3) := by decide +kernel
theorem d_Model_compile_86 : decode prog_9_method_46_code 86 = .ok (.aload_n 0, 1) := by decide +kernel
theorem d_Model_compile_87 : decode prog_9_method_46_code 87 = .ok (.iconst 0, 1) := by decide +kernel
theorem d_Model_compile_88 : decode prog_9_method_46_code 88 = .ok (.putfield 88, 3) := by decide +kernel
theorem d_Model_compile_91 : decode prog_9_method_46_code 91 = .ok (.aload_n 0, 1) := by decide +kernel
theorem d_Model_compile_92 : decode prog_9_method_46_code 92 = .ok (.invokevirtual 285, 3) := by decide +kernel
theorem d_Model_compile_95 : decode prog_9_method_46_code 95 = .ok (.iload_n 3, 1) := by decide +kernel
theorem d_Model_compile_96 : decode prog_9_method_46_code 96 = .ok (.ifCond .eq 7, 3) := by decide +kernel
theorem d_Model_compile_99 : decode prog_9_method_46_code 99 = .ok (.iload_n 2, 1) := by decide +kernel
theorem d_Model_compile_100 : decode prog_9_method_46_code 100 = .ok (.goto 4, 3) := by decide +kernel
theorem d_Model_compile_104 : decode prog_9_method_46_code 104 = .ok (.ireturn, 1) := by decide +kernel
theorem d_PM_needPattern_0 : decode prog_1_method_15_code 0 = .ok (.aload_n 0, 1) := by decide +kernel
theorem d_PM_needPattern_1 : decode prog_1_method_15_code 1 = .ok (.getfield 85, 3) := by decide +kernel
theorem d_PM_needPattern_4 : decode prog_1_method_15_code 4 = .ok (.ifCond .ne 13, 3) := by decide +kernel
theorem d_PM_needPattern_7 : decode prog_1_method_15_code 7 = .ok (.new 108, 3) := by decide +kernel
theorem d_PM_needPattern_10 : decode prog_1_method_15_code 10 = .ok (.dup, 1) := by decide +kernel
theorem d_PM_needPattern_11 : decode prog_1_method_15_code 11 = .ok (.ldc 146, 2) := by decide +kernel
theorem d_PM_needPattern_13 : decode prog_1_method_15_code 13 = .ok (.invokespecial 112, 3) := by decide +kernel
theorem d_PM_needPattern_16 : decode prog_1_method_15_code 16 = .ok (.athrow, 1) := by decide +kernel
theorem d_PM_group_0 : decode prog_1_method_9_code 0 = .ok (.aload_n 0, 1) := by decide +kernel
theorem d_PM_group_1 : decode prog_1_method_9_code 1 = .ok (.getfield 89, 3) := by decide +kernel
theorem d_PM_group_4 : decode prog_1_method_9_code 4 = .ok (.ifCond .ne 13, 3) := by decide +kernel
theorem d_PM_group_7 : decode prog_1_method_9_code 7 = .ok (.new 108, 3) := by decide +kernel
theorem d_PM_group_10 : decode prog_1_method_9_code 10 = .ok (.dup, 1) := by decide +kernel
theorem d_PM_group_11 : decode prog_1_method_9_code 11 = .ok (.ldc 110, 2) := by decide +kernel
theorem d_PM_group_13 : decode prog_1_method_9_code 13 = .ok (.invokespecial 112, 3) := by decide +kernel
theorem d_PM_group_16 : decode prog_1_method_9_code 16 = .ok (.athrow, 1) := by decide +kernel
theorem d_PM_find_0 : decode prog_1_method_7_code 0 = .ok (.aload_n 0, 1) := by decide +kernel
theorem d_PM_find_1 : decode prog_1_method_7_code 1 = .ok (.invokevirtual 96, 3) := by decide +kernel
theorem d_PM_matches_0 : decode prog_1_method_8_code 0 = .ok (.aload_n 0, 1) := by decide +kernel
theorem d_PM_matches_1 : decode prog_1_method_8_code 1 = .ok (.invokevirtual 96, 3) := by decide +kernel
theorem d_PM_count_0 : decode prog_1_method_10_code 0 = .ok (.aload_n 0, 1) := by decide +kernel
theorem d_PM_count_1 : decode prog_1_method_10_code 1 = .ok (.invokevirtual 96, 3) := by decide +kernel
theorem d_PM_replace_0 : decode prog_1_method_11_code 0 = .ok (.aload_n 0, 1) := by decide +kernel
theorem d_PM_replace_1 : decode prog_1_method_11_code 1 = .ok (.invokevirtual 96, 3) := by decide +kernel
theorem d_PM_piece_0 : decode prog_1_method_12_code 0 = .ok (.aload_n 0, 1) := by decide +kernel
theorem d_PM_piece_1 : decode prog_1_method_12_code 1 = .ok (.invokevirtual 96, 3) := by decide +kernel
