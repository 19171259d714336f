theorem d_PM_init_27 : decode prog_1_method_1_code 27 = .ok (.putfield 18, 3) := by decide +kernel
theorem d_PM_init_30 : decode prog_1_method_1_code 30 = .ok (.aload_n 0, 1) := by decide +kernel
theorem d_PM_init_31 : decode prog_1_method_1_code 31 = .ok (.new 9, 3) := by decide +kernel
theorem d_PM_init_34 : decode prog_1_method_1_code 34 = .ok (.dup, 1) := by decide +kernel
theorem d_PM_init_35 : decode prog_1_method_1_code 35 = .ok (.bipush 80, 2) := by decide +kernel
theorem d_PM_init_37 : decode prog_1_method_1_code 37 = .ok (.invokespecial 11, 3) := by decide +kernel
theorem d_PM_init_40 : decode prog_1_method_1_code 40 = .ok (.putfield 21, 3) := by decide +kernel
theorem d_PM_init_43 : decode prog_1_method_1_code 43 = .ok (.aload_n 0, 1) := by decide +kernel
theorem d_PM_init_44 : decode prog_1_method_1_code 44 = .ok (.new 24, 3) := by decide +kernel
theorem d_PM_init_47 : decode prog_1_method_1_code 47 = .ok (.dup, 1) := by decide +kernel
theorem d_PM_init_48 : decode prog_1_method_1_code 48 = .ok (.aload_n 0, 1) := by decide +kernel
theorem d_PM_init_49 : decode prog_1_method_1_code 49 = .ok (.getfield 14, 3) := by decide +kernel
theorem d_PM_init_52 : decode prog_1_method_1_code 52 = .ok (.invokespecial 26, 3) := by decide +kernel
theorem d_PM_init_55 : decode prog_1_method_1_code 55 = .ok (.putfield 29, 3) := by decide +kernel
theorem d_PM_init_58 : decode prog_1_method_1_code 58 = .ok (.aload_n 0, 1) := by decide +kernel
theorem d_PM_init_59 : decode prog_1_method_1_code 59 = .ok (.new 33, 3) := by decide +kernel
theorem d_PM_init_62 : decode prog_1_method_1_code 62 = .ok (.dup, 1) := by decide +kernel
theorem d_PM_init_63 : decode prog_1_method_1_code 63 = .ok (.invokespecial 35, 3) := by decide +kernel
theorem d_PM_init_66 : decode prog_1_method_1_code 66 = .ok (.putfield 36, 3) := by decide +kernel
theorem d_PM_init_69 : decode prog_1_method_1_code 69 = .ok (.aload_n 0, 1) := by decide +kernel
theorem d_PM_init_70 : decode prog_1_method_1_code 70 = .ok (.new 40, 3) := by decide +kernel
theorem d_PM_init_73 : decode prog_1_method_1_code 73 = .ok (.dup, 1) := by decide +kernel
theorem d_PM_init_74 : decode prog_1_method_1_code 74 = .ok (.aload_n 0, 1) := by decide +kernel
theorem d_PM_init_75 : decode prog_1_method_1_code 75 = .ok (.getfield 36, 3) := by decide +kernel
theorem d_PM_init_78 : decode prog_1_method_1_code 78 = .ok (.aload_n 0, 1) := by decide +kernel
theorem d_PM_init_79 : decode prog_1_method_1_code 79 = .ok (.getfield 18, 3) := by decide +kernel
theorem d_PM_init_82 : decode prog_1_method_1_code 82 = .ok (.invokespecial 42, 3) := by decide +kernel
theorem d_PM_init_85 : decode prog_1_method_1_code 85 = .ok (.putfield 45, 3) := by decide +kernel
theorem d_PM_init_88 : decode prog_1_method_1_code 88 = .ok (.return_, 1) := by decide +kernel
theorem d_Row_at_0 : decode prog_6_method_2_code 0 = .ok (.iload_n 1, 1) := by decide +kernel
theorem d_Row_at_1 : decode prog_6_method_2_code 1 = .ok (.ifCond .lt 20, 3) := by decide +kernel
theorem d_Row_at_4 : decode prog_6_method_2_code 4 = .ok (.iload_n 1, 1) := by decide +kernel
theorem d_Row_at_5 : decode prog_6_method_2_code 5 = .ok (.aload_n 0, 1) := by decide +kernel
theorem d_Row_at_6 : decode prog_6_method_2_code 6 = .ok (.getfield 15, 3) := by decide +kernel
theorem d_Row_at_9 : decode prog_6_method_2_code 9 = .ok (.if_icmp .ge 12, 3) := by decide +kernel
theorem d_Row_at_21 : decode prog_6_method_2_code 21 = .ok (.iconst (-1), 1) := by decide +kernel
theorem d_Row_at_22 : decode prog_6_method_2_code 22 = .ok (.ireturn, 1) := by decide +kernel
theorem d_Row_put_0 : decode prog_6_method_3_code 0 = .ok (.aload_n 0, 1) := by decide +kernel
theorem d_Row_put_1 : decode prog_6_method_3_code 1 = .ok (.getfield 15, 3) := by decide +kernel
theorem d_Row_put_4 : decode prog_6_method_3_code 4 = .ok (.aload_n 0, 1) := by decide +kernel
theorem d_Row_put_5 : decode prog_6_method_3_code 5 = .ok (.getfield 9, 3) := by decide +kernel
theorem d_Row_put_8 : decode prog_6_method_3_code 8 = .ok (.arraylength, 1) := by decide +kernel
theorem d_Row_put_9 : decode prog_6_method_3_code 9 = .ok (.if_icmp .lt 5, 3) := by decide +kernel
theorem d_Row_put_14 : decode prog_6_method_3_code 14 = .ok (.aload_n 0, 1) := by decide +kernel
theorem d_Row_put_15 : decode prog_6_method_3_code 15 = .ok (.getfield 9, 3) := by decide +kernel
theorem d_Row_put_18 : decode prog_6_method_3_code 18 = .ok (.aload_n 0, 1) := by decide +kernel
theorem d_Row_put_19 : decode prog_6_method_3_code 19 = .ok (.getfield 15, 3) := by decide +kernel
theorem d_Row_put_22 : decode prog_6_method_3_code 22 = .ok (.iload_n 1, 1) := by decide +kernel
theorem d_Row_put_23 : decode prog_6_method_3_code 23 = .ok (.castore, 1) := by decide +kernel
theorem d_Row_put_24 : decode prog_6_method_3_code 24 = .ok (.aload_n 0, 1) := by decide +kernel
theorem d_Row_put_25 : decode prog_6_method_3_code 25 = .ok (.dup, 1) := by decide +kernel
theorem d_Row_put_26 : decode prog_6_method_3_code 26 = .ok (.getfield 15, 3) := by decide +kernel
theorem d_Row_put_29 : decode prog_6_method_3_code 29 = .ok (.iconst 1, 1) := by decide +kernel
theorem d_Row_put_30 : decode prog_6_method_3_code 30 = .ok (.iadd, 1) := by decide +kernel
theorem d_Row_put_31 : decode prog_6_method_3_code 31 = .ok (.putfield 15, 3) := by decide +kernel
theorem d_Row_put_34 : decode prog_6_method_3_code 34 = .ok (.iconst 1, 1) := by decide +kernel
theorem d_Row_put_35 : decode prog_6_method_3_code 35 = .ok (.ireturn, 1) := by decide +kernel
theorem d_Row_putPart_0 : decode prog_6_method_4_code 0 = .ok (.iload_n 3, 1) := by decide +kernel
theorem d_Row_putPart_1 : decode prog_6_method_4_code 1 = .ok (.aload_n 1, 1) := by decide +kernel
theorem d_Row_putPart_2 : decode prog_6_method_4_code 2 = .ok (.getfield 15, 3) := by decide +kernel
theorem d_Row_putPart_5 : decode prog_6_method_4_code 5 = .ok (.invokestatic 19, 3) := by decide +kernel
theorem d_Row_putPart_8 : decode prog_6_method_4_code 8 = .ok (.istore 4, 2) := by decide +kernel
theorem d_Row_putPart_10 : decode prog_6_method_4_code 10 = .ok (.iload_n 2, 1) := by decide +kernel
theorem d_Row_putPart_11 : decode prog_6_method_4_code 11 = .ok (.iconst 0, 1) := by decide +kernel
theorem d_Row_putPart_12 : decode prog_6_method_4_code 12 = .ok (.invokestatic 25, 3) := by decide +kernel
theorem d_Row_putPart_15 : decode prog_6_method_4_code 15 = .ok (.istore 5, 2) := by decide +kernel
theorem d_Row_putPart_17 : decode prog_6_method_4_code 17 = .ok (.iload 5, 2) := by decide +kernel
theorem d_Row_putPart_19 : decode prog_6_method_4_code 19 = .ok (.iload 4, 2) := by decide +kernel
theorem d_Row_putPart_21 : decode prog_6_method_4_code 21 = .ok (.if_icmp .ge 21, 3) := by decide +kernel
theorem d_Row_putPart_42 : decode prog_6_method_4_code 42 = .ok (.return_, 1) := by decide +kernel
theorem d_Node_begin_0 : decode prog_3_method_2_code 0 = .ok (.aload_n 0, 1) := by decide +kernel
theorem d_Node_begin_1 : decode prog_3_method_2_code 1 = .ok (.iload_n 1, 1) := by decide +kernel
theorem d_Node_begin_2 : decode prog_3_method_2_code 2 = .ok (.putfield 7, 3) := by decide +kernel
theorem d_Node_begin_5 : decode prog_3_method_2_code 5 = .ok (.aload_n 0, 1) := by decide +kernel
theorem d_Node_begin_6 : decode prog_3_method_2_code 6 = .ok (.aconst_null, 1) := by decide +kernel
theorem d_Node_begin_7 : decode prog_3_method_2_code 7 = .ok (.putfield 13, 3) := by decide +kernel
theorem d_Node_begin_10 : decode prog_3_method_2_code 10 = .ok (.aload_n 0, 1) := by decide +kernel
theorem d_Node_begin_11 : decode prog_3_method_2_code 11 = .ok (.aconst_null, 1) := by decide +kernel
theorem d_Node_begin_12 : decode prog_3_method_2_code 12 = .ok (.putfield 17, 3) := by decide +kernel
theorem d_Node_begin_15 : decode prog_3_method_2_code 15 = .ok (.aload_n 0, 1) := by decide +kernel
theorem d_Node_begin_16 : decode prog_3_method_2_code 16 = .ok (.aconst_null, 1) := by decide +kernel
theorem d_Node_begin_17 : decode prog_3_method_2_code 17 = .ok (.putfield 20, 3) := by decide +kernel
theorem d_Node_begin_20 : decode prog_3_method_2_code 20 = .ok (.aload_n 0, 1) := by decide +kernel
theorem d_Node_begin_21 : decode prog_3_method_2_code 21 = .ok (.iconst 0, 1) := by decide +kernel
theorem d_Node_begin_22 : decode prog_3_method_2_code 22 = .ok (.putfield 23, 3) := by decide +kernel
theorem d_Node_begin_25 : decode prog_3_method_2_code 25 = .ok (.return_, 1) := by decide +kernel
theorem d_Node_append_0 : decode prog_3_method_3_code 0 = .ok (.aload_n 0, 1) := by decide +kernel
theorem d_Node_append_1 : decode prog_3_method_3_code 1 = .ok (.getfield 17, 3) := by decide +kernel
theorem d_Node_append_4 : decode prog_3_method_3_code 4 = .ok (.ifnonnull 11, 3) := by decide +kernel
theorem d_Node_append_7 : decode prog_3_method_3_code 7 = .ok (.aload_n 0, 1) := by decide +kernel
theorem d_Node_append_8 : decode prog_3_method_3_code 8 = .ok (.aload_n 1, 1) := by decide +kernel
theorem d_Node_append_9 : decode prog_3_method_3_code 9 = .ok (.putfield 13, 3) := by decide +kernel
theorem d_Node_append_12 : decode prog_3_method_3_code 12 = .ok (.goto 11, 3) := by decide +kernel
theorem d_Node_append_23 : decode prog_3_method_3_code 23 = .ok (.aload_n 0, 1) := by decide +kernel
theorem d_Node_append_24 : decode prog_3_method_3_code 24 = .ok (.aload_n 1, 1) := by decide +kernel
theorem d_Node_append_25 : decode prog_3_method_3_code 25 = .ok (.putfield 17, 3) := by decide +kernel
theorem d_Node_append_28 : decode prog_3_method_3_code 28 = .ok (.aload_n 0, 1) := by decide +kernel
theorem d_Node_append_29 : decode prog_3_method_3_code 29 = .ok (.dup, 1) := by decide +kernel
theorem d_Node_append_30 : decode prog_3_method_3_code 30 = .ok (.getfield 23, 3) := by decide +kernel
theorem d_Node_append_33 : decode prog_3_method_3_code 33 = .ok (.aload_n 1, 1) := by decide +kernel
theorem d_Node_append_34 : decode prog_3_method_3_code 34 = .ok (.getfield 23, 3) := by decide +kernel
theorem d_Node_append_37 : decode prog_3_method_3_code 37 = .ok (.iadd, 1) := by decide +kernel
theorem d_Node_append_38 : decode prog_3_method_3_code 38 = .ok (.putfield 23, 3) := by decide +kernel
theorem d_Node_append_41 : decode prog_3_method_3_code 41 = .ok (.return_, 1) := by decide +kernel
theorem d_Reader_fresh_0 : decode prog_5_method_3_code 0 = .ok (.aload_n 0, 1) := by decide +kernel
theorem d_Reader_fresh_1 : decode prog_5_method_3_code 1 = .ok (.getfield 22, 3) := by decide +kernel
theorem d_Reader_fresh_4 : decode prog_5_method_3_code 4 = .ok (.bipush 46, 2) := by decide +kernel
theorem d_Reader_fresh_6 : decode prog_5_method_3_code 6 = .ok (.if_icmp .lt 5, 3) := by decide +kernel
theorem d_Reader_fresh_11 : decode prog_5_method_3_code 11 = .ok (.aload_n 0, 1) := by decide +kernel
theorem d_Reader_fresh_12 : decode prog_5_method_3_code 12 = .ok (.getfield 17, 3) := by decide +kernel
theorem d_Reader_fresh_15 : decode prog_5_method_3_code 15 = .ok (.aload_n 0, 1) := by decide +kernel
theorem d_Reader_fresh_16 : decode prog_5_method_3_code 16 = .ok (.getfield 22, 3) := by decide +kernel
theorem d_Reader_fresh_19 : decode prog_5_method_3_code 19 = .ok (.aaload, 1) := by decide +kernel
theorem d_Reader_fresh_20 : decode prog_5_method_3_code 20 = .ok (.astore_n 2, 1) := by decide +kernel
theorem d_Reader_fresh_21 : decode prog_5_method_3_code 21 = .ok (.aload_n 0, 1) := by decide +kernel
theorem d_Reader_fresh_22 : decode prog_5_method_3_code 22 = .ok (.dup, 1) := by decide +kernel
theorem d_Reader_fresh_23 : decode prog_5_method_3_code 23 = .ok (.getfield 22, 3) := by decide +kernel
theorem d_Reader_fresh_26 : decode prog_5_method_3_code 26 = .ok (.iconst 1, 1) := by decide +kernel
theorem d_Reader_fresh_27 : decode prog_5_method_3_code 27 = .ok (.iadd, 1) := by decide +kernel
theorem d_Reader_fresh_28 : decode prog_5_method_3_code 28 = .ok (.putfield 22, 3) := by decide +kernel
