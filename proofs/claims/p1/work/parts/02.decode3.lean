theorem d_Program_put_45 : decode prog_4_method_3_code 45 = .ok (.iadd, 1) := by decide +kernel
theorem d_Program_put_46 : decode prog_4_method_3_code 46 = .ok (.putfield 28, 3) := by decide +kernel
theorem d_Program_put_49 : decode prog_4_method_3_code 49 = .ok (.return_, 1) := by decide +kernel
theorem d_Program_writeParts_0 : decode prog_4_method_6_code 0 = .ok (.aload_n 1, 1) := by decide +kernel
theorem d_Program_writeParts_1 : decode prog_4_method_6_code 1 = .ok (.getfield 57, 3) := by decide +kernel
theorem d_Program_writeParts_4 : decode prog_4_method_6_code 4 = .ok (.astore 4, 2) := by decide +kernel
theorem d_Program_writeParts_6 : decode prog_4_method_6_code 6 = .ok (.aload 4, 2) := by decide +kernel
theorem d_Program_writeParts_8 : decode prog_4_method_6_code 8 = .ok (.ifnull 21, 3) := by decide +kernel
theorem d_Program_writeParts_29 : decode prog_4_method_6_code 29 = .ok (.return_, 1) := by decide +kernel
theorem d_Program_writeNode_0 : decode prog_4_method_4_code 0 = .ok (.aload_n 1, 1) := by decide +kernel
theorem d_Program_writeNode_1 : decode prog_4_method_4_code 1 = .ok (.ifnull 9, 3) := by decide +kernel
theorem d_Program_writeNode_4 : decode prog_4_method_4_code 4 = .ok (.iload_n 3, 1) := by decide +kernel
theorem d_Program_writeNode_5 : decode prog_4_method_4_code 5 = .ok (.bipush 40, 2) := by decide +kernel
theorem d_Program_writeNode_7 : decode prog_4_method_4_code 7 = .ok (.if_icmp .le 4, 3) := by decide +kernel
theorem d_Program_writeNode_11 : decode prog_4_method_4_code 11 = .ok (.aload_n 1, 1) := by decide +kernel
theorem d_Program_writeNode_12 : decode prog_4_method_4_code 12 = .ok (.getfield 43, 3) := by decide +kernel
theorem d_Program_writeNode_15 : decode prog_4_method_4_code 15 = .ok (.tableswitch 124 0 5 #[37, 46, 59, 124, 71, 112], 37) := by decide +kernel
theorem d_Program_writeNode_74 : decode prog_4_method_4_code 74 = .ok (.aload_n 0, 1) := by decide +kernel
theorem d_Program_writeNode_75 : decode prog_4_method_4_code 75 = .ok (.aload_n 1, 1) := by decide +kernel
theorem d_Program_writeNode_76 : decode prog_4_method_4_code 76 = .ok (.iload_n 2, 1) := by decide +kernel
theorem d_Program_writeNode_77 : decode prog_4_method_4_code 77 = .ok (.iload_n 3, 1) := by decide +kernel
theorem d_Program_writeNode_78 : decode prog_4_method_4_code 78 = .ok (.iconst 1, 1) := by decide +kernel
theorem d_Program_writeNode_79 : decode prog_4_method_4_code 79 = .ok (.iadd, 1) := by decide +kernel
theorem d_Program_writeNode_80 : decode prog_4_method_4_code 80 = .ok (.invokevirtual 54, 3) := by decide +kernel
theorem d_Program_writeNode_83 : decode prog_4_method_4_code 83 = .ok (.goto 65, 3) := by decide +kernel
theorem d_Program_writeNode_139 : decode prog_4_method_4_code 139 = .ok (.aload_n 0, 1) := by decide +kernel
theorem d_Program_writeNode_140 : decode prog_4_method_4_code 140 = .ok (.aload_n 1, 1) := by decide +kernel
theorem d_Program_writeNode_141 : decode prog_4_method_4_code 141 = .ok (.iload_n 2, 1) := by decide +kernel
theorem d_Program_writeNode_142 : decode prog_4_method_4_code 142 = .ok (.iload_n 3, 1) := by decide +kernel
theorem d_Program_writeNode_143 : decode prog_4_method_4_code 143 = .ok (.iconst 1, 1) := by decide +kernel
theorem d_Program_writeNode_144 : decode prog_4_method_4_code 144 = .ok (.iadd, 1) := by decide +kernel
theorem d_Program_writeNode_145 : decode prog_4_method_4_code 145 = .ok (.invokevirtual 64, 3) := by decide +kernel
theorem d_Program_writeNode_148 : decode prog_4_method_4_code 148 = .ok (.return_, 1) := by decide +kernel
theorem d_Program_writeChains_0 : decode prog_4_method_7_code 0 = .ok (.aload_n 0, 1) := by decide +kernel
theorem d_Program_writeChains_1 : decode prog_4_method_7_code 1 = .ok (.getfield 28, 3) := by decide +kernel
theorem d_Program_writeChains_4 : decode prog_4_method_7_code 4 = .ok (.aload_n 1, 1) := by decide +kernel
theorem d_Program_writeChains_5 : decode prog_4_method_7_code 5 = .ok (.getfield 75, 3) := by decide +kernel
theorem d_Program_writeChains_8 : decode prog_4_method_7_code 8 = .ok (.iadd, 1) := by decide +kernel
theorem d_Program_writeChains_9 : decode prog_4_method_7_code 9 = .ok (.istore 4, 2) := by decide +kernel
theorem d_Program_writeChains_11 : decode prog_4_method_7_code 11 = .ok (.aload_n 1, 1) := by decide +kernel
theorem d_Program_writeChains_12 : decode prog_4_method_7_code 12 = .ok (.getfield 57, 3) := by decide +kernel
theorem d_Program_writeChains_15 : decode prog_4_method_7_code 15 = .ok (.astore 5, 2) := by decide +kernel
theorem d_Program_writeChains_17 : decode prog_4_method_7_code 17 = .ok (.aload 5, 2) := by decide +kernel
theorem d_Program_writeChains_19 : decode prog_4_method_7_code 19 = .ok (.ifnull 66, 3) := by decide +kernel
theorem d_Program_writeChains_22 : decode prog_4_method_7_code 22 = .ok (.aload 5, 2) := by decide +kernel
theorem d_Program_writeChains_24 : decode prog_4_method_7_code 24 = .ok (.getfield 72, 3) := by decide +kernel
theorem d_Program_writeChains_27 : decode prog_4_method_7_code 27 = .ok (.ifnonnull 14, 3) := by decide +kernel
theorem d_Program_writeChains_30 : decode prog_4_method_7_code 30 = .ok (.aload_n 0, 1) := by decide +kernel
theorem d_Program_writeChains_31 : decode prog_4_method_7_code 31 = .ok (.aload 5, 2) := by decide +kernel
theorem d_Program_writeChains_33 : decode prog_4_method_7_code 33 = .ok (.iload_n 2, 1) := by decide +kernel
theorem d_Program_writeChains_34 : decode prog_4_method_7_code 34 = .ok (.iload_n 3, 1) := by decide +kernel
theorem d_Program_writeChains_35 : decode prog_4_method_7_code 35 = .ok (.invokevirtual 35, 3) := by decide +kernel
theorem d_Program_writeChains_38 : decode prog_4_method_7_code 38 = .ok (.goto 37, 3) := by decide +kernel
theorem d_Program_writeChains_75 : decode prog_4_method_7_code 75 = .ok (.aload 5, 2) := by decide +kernel
theorem d_Program_writeChains_77 : decode prog_4_method_7_code 77 = .ok (.getfield 72, 3) := by decide +kernel
theorem d_Program_writeChains_80 : decode prog_4_method_7_code 80 = .ok (.astore 5, 2) := by decide +kernel
theorem d_Program_writeChains_82 : decode prog_4_method_7_code 82 = .ok (.goto (-65), 3) := by decide +kernel
theorem d_Program_writeChains_85 : decode prog_4_method_7_code 85 = .ok (.return_, 1) := by decide +kernel
theorem d_Program_write_0 : decode prog_4_method_2_code 0 = .ok (.aload_n 0, 1) := by decide +kernel
theorem d_Program_write_1 : decode prog_4_method_2_code 1 = .ok (.iconst 0, 1) := by decide +kernel
theorem d_Program_write_2 : decode prog_4_method_2_code 2 = .ok (.putfield 28, 3) := by decide +kernel
theorem d_Program_write_5 : decode prog_4_method_2_code 5 = .ok (.aload_n 0, 1) := by decide +kernel
theorem d_Program_write_6 : decode prog_4_method_2_code 6 = .ok (.iload_n 2, 1) := by decide +kernel
theorem d_Program_write_7 : decode prog_4_method_2_code 7 = .ok (.putfield 32, 3) := by decide +kernel
theorem d_Program_write_10 : decode prog_4_method_2_code 10 = .ok (.aload_n 0, 1) := by decide +kernel
theorem d_Program_write_11 : decode prog_4_method_2_code 11 = .ok (.aload_n 1, 1) := by decide +kernel
theorem d_Program_write_12 : decode prog_4_method_2_code 12 = .ok (.iconst 0, 1) := by decide +kernel
theorem d_Program_write_13 : decode prog_4_method_2_code 13 = .ok (.iconst 0, 1) := by decide +kernel
theorem d_Program_write_14 : decode prog_4_method_2_code 14 = .ok (.invokevirtual 35, 3) := by decide +kernel
theorem d_Program_write_17 : decode prog_4_method_2_code 17 = .ok (.aload_n 0, 1) := by decide +kernel
theorem d_Program_write_18 : decode prog_4_method_2_code 18 = .ok (.bipush 7, 2) := by decide +kernel
theorem d_Program_write_20 : decode prog_4_method_2_code 20 = .ok (.iconst 0, 1) := by decide +kernel
theorem d_Program_write_21 : decode prog_4_method_2_code 21 = .ok (.iconst 0, 1) := by decide +kernel
theorem d_Program_write_22 : decode prog_4_method_2_code 22 = .ok (.invokevirtual 39, 3) := by decide +kernel
theorem d_Program_write_25 : decode prog_4_method_2_code 25 = .ok (.return_, 1) := by decide +kernel
theorem d_PM_type_0 : decode prog_1_method_2_code 0 = .ok (.iload_n 1, 1) := by decide +kernel
theorem d_PM_type_1 : decode prog_1_method_2_code 1 = .ok (.bipush 10, 2) := by decide +kernel
theorem d_PM_type_3 : decode prog_1_method_2_code 3 = .ok (.if_icmp .eq 15, 3) := by decide +kernel
theorem d_PM_type_6 : decode prog_1_method_2_code 6 = .ok (.iload_n 1, 1) := by decide +kernel
theorem d_PM_type_7 : decode prog_1_method_2_code 7 = .ok (.bipush 32, 2) := by decide +kernel
theorem d_PM_type_9 : decode prog_1_method_2_code 9 = .ok (.if_icmp .lt 13, 3) := by decide +kernel
theorem d_PM_type_12 : decode prog_1_method_2_code 12 = .ok (.iload_n 1, 1) := by decide +kernel
theorem d_PM_type_13 : decode prog_1_method_2_code 13 = .ok (.bipush 126, 2) := by decide +kernel
theorem d_PM_type_15 : decode prog_1_method_2_code 15 = .ok (.if_icmp .gt 7, 3) := by decide +kernel
theorem d_PM_type_18 : decode prog_1_method_2_code 18 = .ok (.iconst 1, 1) := by decide +kernel
theorem d_PM_type_19 : decode prog_1_method_2_code 19 = .ok (.goto 4, 3) := by decide +kernel
theorem d_PM_type_22 : decode prog_1_method_2_code 22 = .ok (.iconst 0, 1) := by decide +kernel
theorem d_PM_type_23 : decode prog_1_method_2_code 23 = .ok (.istore_n 2, 1) := by decide +kernel
theorem d_PM_type_24 : decode prog_1_method_2_code 24 = .ok (.iload_n 2, 1) := by decide +kernel
theorem d_PM_type_25 : decode prog_1_method_2_code 25 = .ok (.ifCond .eq 18, 3) := by decide +kernel
theorem d_PM_type_28 : decode prog_1_method_2_code 28 = .ok (.aload_n 0, 1) := by decide +kernel
theorem d_PM_type_29 : decode prog_1_method_2_code 29 = .ok (.getfield 14, 3) := by decide +kernel
theorem d_PM_type_32 : decode prog_1_method_2_code 32 = .ok (.iload_n 1, 1) := by decide +kernel
theorem d_PM_type_33 : decode prog_1_method_2_code 33 = .ok (.invokevirtual 49, 3) := by decide +kernel
theorem d_PM_type_36 : decode prog_1_method_2_code 36 = .ok (.ifCond .eq 7, 3) := by decide +kernel
theorem d_PM_type_39 : decode prog_1_method_2_code 39 = .ok (.iconst 1, 1) := by decide +kernel
theorem d_PM_type_40 : decode prog_1_method_2_code 40 = .ok (.goto 4, 3) := by decide +kernel
theorem d_PM_type_43 : decode prog_1_method_2_code 43 = .ok (.iconst 0, 1) := by decide +kernel
theorem d_PM_type_44 : decode prog_1_method_2_code 44 = .ok (.ireturn, 1) := by decide +kernel
theorem d_PM_wipe_0 : decode prog_1_method_3_code 0 = .ok (.aload_n 0, 1) := by decide +kernel
theorem d_PM_wipe_1 : decode prog_1_method_3_code 1 = .ok (.getfield 14, 3) := by decide +kernel
theorem d_PM_wipe_4 : decode prog_1_method_3_code 4 = .ok (.iconst 0, 1) := by decide +kernel
theorem d_PM_wipe_5 : decode prog_1_method_3_code 5 = .ok (.putfield 53, 3) := by decide +kernel
theorem d_PM_wipe_8 : decode prog_1_method_3_code 8 = .ok (.return_, 1) := by decide +kernel
theorem d_PM_compile_0 : decode prog_1_method_4_code 0 = .ok (.aload_n 0, 1) := by decide +kernel
theorem d_PM_compile_1 : decode prog_1_method_4_code 1 = .ok (.getfield 29, 3) := by decide +kernel
theorem d_PM_compile_4 : decode prog_1_method_4_code 4 = .ok (.iload_n 1, 1) := by decide +kernel
theorem d_PM_compile_5 : decode prog_1_method_4_code 5 = .ok (.bipush 7, 2) := by decide +kernel
theorem d_PM_compile_7 : decode prog_1_method_4_code 7 = .ok (.iand, 1) := by decide +kernel
theorem d_PM_compile_8 : decode prog_1_method_4_code 8 = .ok (.invokevirtual 57, 3) := by decide +kernel
theorem d_PM_compile_11 : decode prog_1_method_4_code 11 = .ok (.astore_n 2, 1) := by decide +kernel
theorem d_PM_compile_12 : decode prog_1_method_4_code 12 = .ok (.aload_n 2, 1) := by decide +kernel
theorem d_PM_compile_13 : decode prog_1_method_4_code 13 = .ok (.ifnonnull 13, 3) := by decide +kernel
theorem d_PM_compile_26 : decode prog_1_method_4_code 26 = .ok (.aload_n 2, 1) := by decide +kernel
theorem d_PM_compile_27 : decode prog_1_method_4_code 27 = .ok (.getfield 68, 3) := by decide +kernel
theorem d_PM_compile_30 : decode prog_1_method_4_code 30 = .ok (.bipush 120, 2) := by decide +kernel
theorem d_PM_compile_32 : decode prog_1_method_4_code 32 = .ok (.if_icmp .le 13, 3) := by decide +kernel
theorem d_PM_compile_45 : decode prog_1_method_4_code 45 = .ok (.aload_n 0, 1) := by decide +kernel
theorem d_PM_compile_46 : decode prog_1_method_4_code 46 = .ok (.getfield 36, 3) := by decide +kernel
theorem d_PM_compile_49 : decode prog_1_method_4_code 49 = .ok (.aload_n 2, 1) := by decide +kernel
