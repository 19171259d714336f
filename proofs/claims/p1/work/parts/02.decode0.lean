theorem d_Row_init_0 : decode prog_6_method_1_code 0 = .ok (.aload_n 0, 1) := by decide +kernel
theorem d_Row_init_1 : decode prog_6_method_1_code 1 = .ok (.invokespecial 3, 3) := by decide +kernel
theorem d_Row_init_4 : decode prog_6_method_1_code 4 = .ok (.aload_n 0, 1) := by decide +kernel
theorem d_Row_init_5 : decode prog_6_method_1_code 5 = .ok (.iload_n 1, 1) := by decide +kernel
theorem d_Row_init_6 : decode prog_6_method_1_code 6 = .ok (.newarray .char, 2) := by decide +kernel
theorem d_Row_init_8 : decode prog_6_method_1_code 8 = .ok (.putfield 9, 3) := by decide +kernel
theorem d_Row_init_11 : decode prog_6_method_1_code 11 = .ok (.return_, 1) := by decide +kernel
theorem d_Node_init_0 : decode prog_3_method_1_code 0 = .ok (.aload_n 0, 1) := by decide +kernel
theorem d_Node_init_1 : decode prog_3_method_1_code 1 = .ok (.invokespecial 1, 3) := by decide +kernel
theorem d_Node_init_4 : decode prog_3_method_1_code 4 = .ok (.return_, 1) := by decide +kernel
theorem d_Program_init_0 : decode prog_4_method_1_code 0 = .ok (.aload_n 0, 1) := by decide +kernel
theorem d_Program_init_1 : decode prog_4_method_1_code 1 = .ok (.invokespecial 3, 3) := by decide +kernel
theorem d_Program_init_4 : decode prog_4_method_1_code 4 = .ok (.aload_n 0, 1) := by decide +kernel
theorem d_Program_init_5 : decode prog_4_method_1_code 5 = .ok (.bipush 121, 2) := by decide +kernel
theorem d_Program_init_7 : decode prog_4_method_1_code 7 = .ok (.newarray .int, 2) := by decide +kernel
theorem d_Program_init_9 : decode prog_4_method_1_code 9 = .ok (.putfield 9, 3) := by decide +kernel
theorem d_Program_init_12 : decode prog_4_method_1_code 12 = .ok (.aload_n 0, 1) := by decide +kernel
theorem d_Program_init_13 : decode prog_4_method_1_code 13 = .ok (.bipush 121, 2) := by decide +kernel
theorem d_Program_init_15 : decode prog_4_method_1_code 15 = .ok (.newarray .int, 2) := by decide +kernel
theorem d_Program_init_17 : decode prog_4_method_1_code 17 = .ok (.putfield 15, 3) := by decide +kernel
theorem d_Program_init_20 : decode prog_4_method_1_code 20 = .ok (.aload_n 0, 1) := by decide +kernel
theorem d_Program_init_21 : decode prog_4_method_1_code 21 = .ok (.bipush 121, 2) := by decide +kernel
theorem d_Program_init_23 : decode prog_4_method_1_code 23 = .ok (.newarray .int, 2) := by decide +kernel
theorem d_Program_init_25 : decode prog_4_method_1_code 25 = .ok (.putfield 18, 3) := by decide +kernel
theorem d_Program_init_28 : decode prog_4_method_1_code 28 = .ok (.aload_n 0, 1) := by decide +kernel
theorem d_Program_init_29 : decode prog_4_method_1_code 29 = .ok (.bipush 121, 2) := by decide +kernel
theorem d_Program_init_31 : decode prog_4_method_1_code 31 = .ok (.newarray .long, 2) := by decide +kernel
theorem d_Program_init_33 : decode prog_4_method_1_code 33 = .ok (.putfield 21, 3) := by decide +kernel
theorem d_Program_init_36 : decode prog_4_method_1_code 36 = .ok (.aload_n 0, 1) := by decide +kernel
theorem d_Program_init_37 : decode prog_4_method_1_code 37 = .ok (.bipush 121, 2) := by decide +kernel
theorem d_Program_init_39 : decode prog_4_method_1_code 39 = .ok (.newarray .long, 2) := by decide +kernel
theorem d_Program_init_41 : decode prog_4_method_1_code 41 = .ok (.putfield 25, 3) := by decide +kernel
theorem d_Program_init_44 : decode prog_4_method_1_code 44 = .ok (.return_, 1) := by decide +kernel
theorem d_Threads_init_0 : decode prog_7_method_1_code 0 = .ok (.aload_n 0, 1) := by decide +kernel
theorem d_Threads_init_1 : decode prog_7_method_1_code 1 = .ok (.invokespecial 3, 3) := by decide +kernel
theorem d_Threads_init_4 : decode prog_7_method_1_code 4 = .ok (.aload_n 0, 1) := by decide +kernel
theorem d_Threads_init_5 : decode prog_7_method_1_code 5 = .ok (.bipush 121, 2) := by decide +kernel
theorem d_Threads_init_7 : decode prog_7_method_1_code 7 = .ok (.newarray .int, 2) := by decide +kernel
theorem d_Threads_init_9 : decode prog_7_method_1_code 9 = .ok (.putfield 9, 3) := by decide +kernel
theorem d_Threads_init_12 : decode prog_7_method_1_code 12 = .ok (.aload_n 0, 1) := by decide +kernel
theorem d_Threads_init_13 : decode prog_7_method_1_code 13 = .ok (.sipush 1210, 3) := by decide +kernel
theorem d_Threads_init_16 : decode prog_7_method_1_code 16 = .ok (.newarray .int, 2) := by decide +kernel
theorem d_Threads_init_18 : decode prog_7_method_1_code 18 = .ok (.putfield 15, 3) := by decide +kernel
theorem d_Threads_init_21 : decode prog_7_method_1_code 21 = .ok (.aload_n 0, 1) := by decide +kernel
theorem d_Threads_init_22 : decode prog_7_method_1_code 22 = .ok (.bipush 121, 2) := by decide +kernel
theorem d_Threads_init_24 : decode prog_7_method_1_code 24 = .ok (.newarray .int, 2) := by decide +kernel
theorem d_Threads_init_26 : decode prog_7_method_1_code 26 = .ok (.putfield 18, 3) := by decide +kernel
theorem d_Threads_init_29 : decode prog_7_method_1_code 29 = .ok (.return_, 1) := by decide +kernel
theorem d_Machine_init_0 : decode prog_2_method_1_code 0 = .ok (.aload_n 0, 1) := by decide +kernel
theorem d_Machine_init_1 : decode prog_2_method_1_code 1 = .ok (.invokespecial 3, 3) := by decide +kernel
theorem d_Machine_init_4 : decode prog_2_method_1_code 4 = .ok (.aload_n 0, 1) := by decide +kernel
theorem d_Machine_init_5 : decode prog_2_method_1_code 5 = .ok (.aload_n 1, 1) := by decide +kernel
theorem d_Machine_init_6 : decode prog_2_method_1_code 6 = .ok (.putfield 9, 3) := by decide +kernel
theorem d_Machine_init_9 : decode prog_2_method_1_code 9 = .ok (.aload_n 0, 1) := by decide +kernel
theorem d_Machine_init_10 : decode prog_2_method_1_code 10 = .ok (.aload_n 2, 1) := by decide +kernel
theorem d_Machine_init_11 : decode prog_2_method_1_code 11 = .ok (.putfield 15, 3) := by decide +kernel
theorem d_Machine_init_14 : decode prog_2_method_1_code 14 = .ok (.aload_n 0, 1) := by decide +kernel
theorem d_Machine_init_15 : decode prog_2_method_1_code 15 = .ok (.bipush 10, 2) := by decide +kernel
theorem d_Machine_init_17 : decode prog_2_method_1_code 17 = .ok (.newarray .int, 2) := by decide +kernel
theorem d_Machine_init_19 : decode prog_2_method_1_code 19 = .ok (.putfield 19, 3) := by decide +kernel
theorem d_Machine_init_22 : decode prog_2_method_1_code 22 = .ok (.aload_n 0, 1) := by decide +kernel
theorem d_Machine_init_23 : decode prog_2_method_1_code 23 = .ok (.bipush 10, 2) := by decide +kernel
theorem d_Machine_init_25 : decode prog_2_method_1_code 25 = .ok (.newarray .int, 2) := by decide +kernel
theorem d_Machine_init_27 : decode prog_2_method_1_code 27 = .ok (.putfield 23, 3) := by decide +kernel
theorem d_Machine_init_30 : decode prog_2_method_1_code 30 = .ok (.aload_n 0, 1) := by decide +kernel
theorem d_Machine_init_31 : decode prog_2_method_1_code 31 = .ok (.sipush 1212, 3) := by decide +kernel
theorem d_Machine_init_34 : decode prog_2_method_1_code 34 = .ok (.newarray .int, 2) := by decide +kernel
theorem d_Machine_init_36 : decode prog_2_method_1_code 36 = .ok (.putfield 26, 3) := by decide +kernel
theorem d_Machine_init_39 : decode prog_2_method_1_code 39 = .ok (.aload_n 0, 1) := by decide +kernel
theorem d_Machine_init_40 : decode prog_2_method_1_code 40 = .ok (.sipush 1212, 3) := by decide +kernel
theorem d_Machine_init_43 : decode prog_2_method_1_code 43 = .ok (.newarray .int, 2) := by decide +kernel
theorem d_Machine_init_45 : decode prog_2_method_1_code 45 = .ok (.putfield 29, 3) := by decide +kernel
theorem d_Machine_init_48 : decode prog_2_method_1_code 48 = .ok (.aload_n 0, 1) := by decide +kernel
theorem d_Machine_init_49 : decode prog_2_method_1_code 49 = .ok (.new 32, 3) := by decide +kernel
theorem d_Machine_init_52 : decode prog_2_method_1_code 52 = .ok (.dup, 1) := by decide +kernel
theorem d_Machine_init_53 : decode prog_2_method_1_code 53 = .ok (.invokespecial 34, 3) := by decide +kernel
theorem d_Machine_init_56 : decode prog_2_method_1_code 56 = .ok (.putfield 35, 3) := by decide +kernel
theorem d_Machine_init_59 : decode prog_2_method_1_code 59 = .ok (.aload_n 0, 1) := by decide +kernel
theorem d_Machine_init_60 : decode prog_2_method_1_code 60 = .ok (.new 32, 3) := by decide +kernel
theorem d_Machine_init_63 : decode prog_2_method_1_code 63 = .ok (.dup, 1) := by decide +kernel
theorem d_Machine_init_64 : decode prog_2_method_1_code 64 = .ok (.invokespecial 34, 3) := by decide +kernel
theorem d_Machine_init_67 : decode prog_2_method_1_code 67 = .ok (.putfield 39, 3) := by decide +kernel
theorem d_Machine_init_70 : decode prog_2_method_1_code 70 = .ok (.return_, 1) := by decide +kernel
theorem d_Reader_init_0 : decode prog_5_method_1_code 0 = .ok (.aload_n 0, 1) := by decide +kernel
theorem d_Reader_init_1 : decode prog_5_method_1_code 1 = .ok (.invokespecial 3, 3) := by decide +kernel
theorem d_Reader_init_4 : decode prog_5_method_1_code 4 = .ok (.aload_n 0, 1) := by decide +kernel
theorem d_Reader_init_5 : decode prog_5_method_1_code 5 = .ok (.aload_n 1, 1) := by decide +kernel
theorem d_Reader_init_6 : decode prog_5_method_1_code 6 = .ok (.putfield 9, 3) := by decide +kernel
theorem d_Reader_init_9 : decode prog_5_method_1_code 9 = .ok (.aload_n 0, 1) := by decide +kernel
theorem d_Reader_init_10 : decode prog_5_method_1_code 10 = .ok (.bipush 46, 2) := by decide +kernel
theorem d_Reader_init_12 : decode prog_5_method_1_code 12 = .ok (.anewarray 15, 3) := by decide +kernel
theorem d_Reader_init_15 : decode prog_5_method_1_code 15 = .ok (.putfield 17, 3) := by decide +kernel
theorem d_Reader_init_18 : decode prog_5_method_1_code 18 = .ok (.iconst 0, 1) := by decide +kernel
theorem d_Reader_init_19 : decode prog_5_method_1_code 19 = .ok (.istore_n 2, 1) := by decide +kernel
theorem d_Reader_init_20 : decode prog_5_method_1_code 20 = .ok (.iload_n 2, 1) := by decide +kernel
theorem d_Reader_init_21 : decode prog_5_method_1_code 21 = .ok (.bipush 46, 2) := by decide +kernel
theorem d_Reader_init_23 : decode prog_5_method_1_code 23 = .ok (.if_icmp .ge 22, 3) := by decide +kernel
theorem d_Reader_init_26 : decode prog_5_method_1_code 26 = .ok (.aload_n 0, 1) := by decide +kernel
theorem d_Reader_init_27 : decode prog_5_method_1_code 27 = .ok (.getfield 17, 3) := by decide +kernel
theorem d_Reader_init_30 : decode prog_5_method_1_code 30 = .ok (.iload_n 2, 1) := by decide +kernel
theorem d_Reader_init_31 : decode prog_5_method_1_code 31 = .ok (.new 15, 3) := by decide +kernel
theorem d_Reader_init_34 : decode prog_5_method_1_code 34 = .ok (.dup, 1) := by decide +kernel
theorem d_Reader_init_35 : decode prog_5_method_1_code 35 = .ok (.invokespecial 21, 3) := by decide +kernel
theorem d_Reader_init_38 : decode prog_5_method_1_code 38 = .ok (.aastore, 1) := by decide +kernel
theorem d_Reader_init_39 : decode prog_5_method_1_code 39 = .ok (.iinc 2 1, 3) := by decide +kernel
theorem d_Reader_init_42 : decode prog_5_method_1_code 42 = .ok (.goto (-22), 3) := by decide +kernel
theorem d_Reader_init_45 : decode prog_5_method_1_code 45 = .ok (.return_, 1) := by decide +kernel
theorem d_PM_init_0 : decode prog_1_method_1_code 0 = .ok (.aload_n 0, 1) := by decide +kernel
theorem d_PM_init_1 : decode prog_1_method_1_code 1 = .ok (.invokespecial 3, 3) := by decide +kernel
theorem d_PM_init_4 : decode prog_1_method_1_code 4 = .ok (.aload_n 0, 1) := by decide +kernel
theorem d_PM_init_5 : decode prog_1_method_1_code 5 = .ok (.new 9, 3) := by decide +kernel
theorem d_PM_init_8 : decode prog_1_method_1_code 8 = .ok (.dup, 1) := by decide +kernel
theorem d_PM_init_9 : decode prog_1_method_1_code 9 = .ok (.bipush 40, 2) := by decide +kernel
theorem d_PM_init_11 : decode prog_1_method_1_code 11 = .ok (.invokespecial 11, 3) := by decide +kernel
theorem d_PM_init_14 : decode prog_1_method_1_code 14 = .ok (.putfield 14, 3) := by decide +kernel
theorem d_PM_init_17 : decode prog_1_method_1_code 17 = .ok (.aload_n 0, 1) := by decide +kernel
theorem d_PM_init_18 : decode prog_1_method_1_code 18 = .ok (.new 9, 3) := by decide +kernel
theorem d_PM_init_21 : decode prog_1_method_1_code 21 = .ok (.dup, 1) := by decide +kernel
theorem d_PM_init_22 : decode prog_1_method_1_code 22 = .ok (.bipush 80, 2) := by decide +kernel
theorem d_PM_init_24 : decode prog_1_method_1_code 24 = .ok (.invokespecial 11, 3) := by decide +kernel
