theorem d_Reader_fresh_31 : decode prog_5_method_3_code 31 = .ok (.aload_n 2, 1) := by decide +kernel
theorem d_Reader_fresh_32 : decode prog_5_method_3_code 32 = .ok (.iload_n 1, 1) := by decide +kernel
theorem d_Reader_fresh_33 : decode prog_5_method_3_code 33 = .ok (.invokevirtual 44, 3) := by decide +kernel
theorem d_Reader_fresh_36 : decode prog_5_method_3_code 36 = .ok (.aload_n 2, 1) := by decide +kernel
theorem d_Reader_fresh_37 : decode prog_5_method_3_code 37 = .ok (.areturn, 1) := by decide +kernel
theorem d_Reader_skip_0 : decode prog_5_method_4_code 0 = .ok (.aload_n 0, 1) := by decide +kernel
theorem d_Reader_skip_1 : decode prog_5_method_4_code 1 = .ok (.getfield 9, 3) := by decide +kernel
theorem d_Reader_skip_4 : decode prog_5_method_4_code 4 = .ok (.aload_n 0, 1) := by decide +kernel
theorem d_Reader_skip_5 : decode prog_5_method_4_code 5 = .ok (.getfield 26, 3) := by decide +kernel
theorem d_Reader_skip_8 : decode prog_5_method_4_code 8 = .ok (.invokevirtual 48, 3) := by decide +kernel
theorem d_Reader_skip_11 : decode prog_5_method_4_code 11 = .ok (.iload_n 1, 1) := by decide +kernel
theorem d_Reader_skip_12 : decode prog_5_method_4_code 12 = .ok (.if_icmp .eq 5, 3) := by decide +kernel
theorem d_Reader_skip_15 : decode prog_5_method_4_code 15 = .ok (.iconst 0, 1) := by decide +kernel
theorem d_Reader_skip_16 : decode prog_5_method_4_code 16 = .ok (.ireturn, 1) := by decide +kernel
theorem d_Reader_chainEnds_0 : decode prog_5_method_7_code 0 = .ok (.aload_n 0, 1) := by decide +kernel
theorem d_Reader_chainEnds_1 : decode prog_5_method_7_code 1 = .ok (.getfield 9, 3) := by decide +kernel
theorem d_Reader_chainEnds_4 : decode prog_5_method_7_code 4 = .ok (.aload_n 0, 1) := by decide +kernel
theorem d_Reader_chainEnds_5 : decode prog_5_method_7_code 5 = .ok (.getfield 26, 3) := by decide +kernel
theorem d_Reader_chainEnds_8 : decode prog_5_method_7_code 8 = .ok (.invokevirtual 48, 3) := by decide +kernel
theorem d_Reader_chainEnds_11 : decode prog_5_method_7_code 11 = .ok (.istore_n 1, 1) := by decide +kernel
theorem d_Reader_chainEnds_12 : decode prog_5_method_7_code 12 = .ok (.iload_n 1, 1) := by decide +kernel
theorem d_Reader_chainEnds_13 : decode prog_5_method_7_code 13 = .ok (.iconst (-1), 1) := by decide +kernel
theorem d_Reader_chainEnds_14 : decode prog_5_method_7_code 14 = .ok (.if_icmp .eq 15, 3) := by decide +kernel
theorem d_Reader_chainEnds_29 : decode prog_5_method_7_code 29 = .ok (.iconst 1, 1) := by decide +kernel
theorem d_Reader_chainEnds_30 : decode prog_5_method_7_code 30 = .ok (.goto 4, 3) := by decide +kernel
theorem d_Reader_chainEnds_34 : decode prog_5_method_7_code 34 = .ok (.ireturn, 1) := by decide +kernel
theorem d_Reader_readChain_0 : decode prog_5_method_6_code 0 = .ok (.aload_n 0, 1) := by decide +kernel
theorem d_Reader_readChain_1 : decode prog_5_method_6_code 1 = .ok (.iconst 3, 1) := by decide +kernel
theorem d_Reader_readChain_2 : decode prog_5_method_6_code 2 = .ok (.invokevirtual 51, 3) := by decide +kernel
theorem d_Reader_readChain_5 : decode prog_5_method_6_code 5 = .ok (.astore_n 2, 1) := by decide +kernel
theorem d_Reader_readChain_6 : decode prog_5_method_6_code 6 = .ok (.aload_n 2, 1) := by decide +kernel
theorem d_Reader_readChain_7 : decode prog_5_method_6_code 7 = .ok (.ifnonnull 5, 3) := by decide +kernel
theorem d_Reader_readChain_12 : decode prog_5_method_6_code 12 = .ok (.iconst 0, 1) := by decide +kernel
theorem d_Reader_readChain_13 : decode prog_5_method_6_code 13 = .ok (.istore_n 3, 1) := by decide +kernel
theorem d_Reader_readChain_14 : decode prog_5_method_6_code 14 = .ok (.iload_n 3, 1) := by decide +kernel
theorem d_Reader_readChain_15 : decode prog_5_method_6_code 15 = .ok (.bipush 40, 2) := by decide +kernel
theorem d_Reader_readChain_17 : decode prog_5_method_6_code 17 = .ok (.if_icmp .ge 36, 3) := by decide +kernel
theorem d_Reader_readChain_20 : decode prog_5_method_6_code 20 = .ok (.aload_n 0, 1) := by decide +kernel
theorem d_Reader_readChain_21 : decode prog_5_method_6_code 21 = .ok (.invokevirtual 68, 3) := by decide +kernel
theorem d_Reader_readChain_24 : decode prog_5_method_6_code 24 = .ok (.ifCond .ne 29, 3) := by decide +kernel
theorem d_Reader_readChain_53 : decode prog_5_method_6_code 53 = .ok (.aload_n 2, 1) := by decide +kernel
theorem d_Reader_readChain_54 : decode prog_5_method_6_code 54 = .ok (.areturn, 1) := by decide +kernel
theorem d_Reader_readPattern_0 : decode prog_5_method_5_code 0 = .ok (.aload_n 0, 1) := by decide +kernel
theorem d_Reader_readPattern_1 : decode prog_5_method_5_code 1 = .ok (.iconst 2, 1) := by decide +kernel
theorem d_Reader_readPattern_2 : decode prog_5_method_5_code 2 = .ok (.invokevirtual 51, 3) := by decide +kernel
theorem d_Reader_readPattern_5 : decode prog_5_method_5_code 5 = .ok (.astore_n 2, 1) := by decide +kernel
theorem d_Reader_readPattern_6 : decode prog_5_method_5_code 6 = .ok (.aload_n 2, 1) := by decide +kernel
theorem d_Reader_readPattern_7 : decode prog_5_method_5_code 7 = .ok (.ifnonnull 5, 3) := by decide +kernel
theorem d_Reader_readPattern_12 : decode prog_5_method_5_code 12 = .ok (.iconst 0, 1) := by decide +kernel
theorem d_Reader_readPattern_13 : decode prog_5_method_5_code 13 = .ok (.istore_n 3, 1) := by decide +kernel
theorem d_Reader_readPattern_14 : decode prog_5_method_5_code 14 = .ok (.iload_n 3, 1) := by decide +kernel
theorem d_Reader_readPattern_15 : decode prog_5_method_5_code 15 = .ok (.bipush 40, 2) := by decide +kernel
theorem d_Reader_readPattern_17 : decode prog_5_method_5_code 17 = .ok (.if_icmp .gt 51, 3) := by decide +kernel
theorem d_Reader_readPattern_20 : decode prog_5_method_5_code 20 = .ok (.aload_n 0, 1) := by decide +kernel
theorem d_Reader_readPattern_21 : decode prog_5_method_5_code 21 = .ok (.iload_n 1, 1) := by decide +kernel
theorem d_Reader_readPattern_22 : decode prog_5_method_5_code 22 = .ok (.invokevirtual 54, 3) := by decide +kernel
theorem d_Reader_readPattern_25 : decode prog_5_method_5_code 25 = .ok (.astore 4, 2) := by decide +kernel
theorem d_Reader_readPattern_27 : decode prog_5_method_5_code 27 = .ok (.aload 4, 2) := by decide +kernel
theorem d_Reader_readPattern_29 : decode prog_5_method_5_code 29 = .ok (.ifnonnull 5, 3) := by decide +kernel
theorem d_Reader_readPattern_34 : decode prog_5_method_5_code 34 = .ok (.aload_n 2, 1) := by decide +kernel
theorem d_Reader_readPattern_35 : decode prog_5_method_5_code 35 = .ok (.aload 4, 2) := by decide +kernel
theorem d_Reader_readPattern_37 : decode prog_5_method_5_code 37 = .ok (.invokevirtual 57, 3) := by decide +kernel
theorem d_Reader_readPattern_40 : decode prog_5_method_5_code 40 = .ok (.aload_n 0, 1) := by decide +kernel
theorem d_Reader_readPattern_41 : decode prog_5_method_5_code 41 = .ok (.bipush 124, 2) := by decide +kernel
theorem d_Reader_readPattern_43 : decode prog_5_method_5_code 43 = .ok (.invokevirtual 61, 3) := by decide +kernel
theorem d_Reader_readPattern_46 : decode prog_5_method_5_code 46 = .ok (.ifCond .ne 6, 3) := by decide +kernel
theorem d_Reader_readPattern_49 : decode prog_5_method_5_code 49 = .ok (.goto 19, 3) := by decide +kernel
theorem d_Reader_readPattern_68 : decode prog_5_method_5_code 68 = .ok (.aload_n 2, 1) := by decide +kernel
theorem d_Reader_readPattern_69 : decode prog_5_method_5_code 69 = .ok (.areturn, 1) := by decide +kernel
theorem d_Reader_read_0 : decode prog_5_method_2_code 0 = .ok (.aload_n 0, 1) := by decide +kernel
theorem d_Reader_read_1 : decode prog_5_method_2_code 1 = .ok (.iconst 0, 1) := by decide +kernel
theorem d_Reader_read_2 : decode prog_5_method_2_code 2 = .ok (.putfield 22, 3) := by decide +kernel
theorem d_Reader_read_5 : decode prog_5_method_2_code 5 = .ok (.aload_n 0, 1) := by decide +kernel
theorem d_Reader_read_6 : decode prog_5_method_2_code 6 = .ok (.iconst 0, 1) := by decide +kernel
theorem d_Reader_read_7 : decode prog_5_method_2_code 7 = .ok (.putfield 26, 3) := by decide +kernel
theorem d_Reader_read_10 : decode prog_5_method_2_code 10 = .ok (.aload_n 0, 1) := by decide +kernel
theorem d_Reader_read_11 : decode prog_5_method_2_code 11 = .ok (.iconst 0, 1) := by decide +kernel
theorem d_Reader_read_12 : decode prog_5_method_2_code 12 = .ok (.putfield 29, 3) := by decide +kernel
theorem d_Reader_read_15 : decode prog_5_method_2_code 15 = .ok (.aload_n 0, 1) := by decide +kernel
theorem d_Reader_read_16 : decode prog_5_method_2_code 16 = .ok (.iload_n 1, 1) := by decide +kernel
theorem d_Reader_read_17 : decode prog_5_method_2_code 17 = .ok (.putfield 32, 3) := by decide +kernel
theorem d_Reader_read_20 : decode prog_5_method_2_code 20 = .ok (.aload_n 0, 1) := by decide +kernel
theorem d_Reader_read_21 : decode prog_5_method_2_code 21 = .ok (.iconst 0, 1) := by decide +kernel
theorem d_Reader_read_22 : decode prog_5_method_2_code 22 = .ok (.invokevirtual 35, 3) := by decide +kernel
theorem d_Reader_read_25 : decode prog_5_method_2_code 25 = .ok (.astore_n 2, 1) := by decide +kernel
theorem d_Reader_read_26 : decode prog_5_method_2_code 26 = .ok (.aload_n 0, 1) := by decide +kernel
theorem d_Reader_read_27 : decode prog_5_method_2_code 27 = .ok (.getfield 26, 3) := by decide +kernel
theorem d_Reader_read_30 : decode prog_5_method_2_code 30 = .ok (.aload_n 0, 1) := by decide +kernel
theorem d_Reader_read_31 : decode prog_5_method_2_code 31 = .ok (.getfield 9, 3) := by decide +kernel
theorem d_Reader_read_34 : decode prog_5_method_2_code 34 = .ok (.getfield 39, 3) := by decide +kernel
theorem d_Reader_read_37 : decode prog_5_method_2_code 37 = .ok (.if_icmp .ne 7, 3) := by decide +kernel
theorem d_Reader_read_40 : decode prog_5_method_2_code 40 = .ok (.aload_n 2, 1) := by decide +kernel
theorem d_Reader_read_41 : decode prog_5_method_2_code 41 = .ok (.goto 4, 3) := by decide +kernel
theorem d_Reader_read_45 : decode prog_5_method_2_code 45 = .ok (.areturn, 1) := by decide +kernel
theorem d_Program_put_0 : decode prog_4_method_3_code 0 = .ok (.aload_n 0, 1) := by decide +kernel
theorem d_Program_put_1 : decode prog_4_method_3_code 1 = .ok (.getfield 28, 3) := by decide +kernel
theorem d_Program_put_4 : decode prog_4_method_3_code 4 = .ok (.bipush 121, 2) := by decide +kernel
theorem d_Program_put_6 : decode prog_4_method_3_code 6 = .ok (.if_icmp .ge 43, 3) := by decide +kernel
theorem d_Program_put_9 : decode prog_4_method_3_code 9 = .ok (.aload_n 0, 1) := by decide +kernel
theorem d_Program_put_10 : decode prog_4_method_3_code 10 = .ok (.getfield 9, 3) := by decide +kernel
theorem d_Program_put_13 : decode prog_4_method_3_code 13 = .ok (.aload_n 0, 1) := by decide +kernel
theorem d_Program_put_14 : decode prog_4_method_3_code 14 = .ok (.getfield 28, 3) := by decide +kernel
theorem d_Program_put_17 : decode prog_4_method_3_code 17 = .ok (.iload_n 1, 1) := by decide +kernel
theorem d_Program_put_18 : decode prog_4_method_3_code 18 = .ok (.iastore, 1) := by decide +kernel
theorem d_Program_put_19 : decode prog_4_method_3_code 19 = .ok (.aload_n 0, 1) := by decide +kernel
theorem d_Program_put_20 : decode prog_4_method_3_code 20 = .ok (.getfield 15, 3) := by decide +kernel
theorem d_Program_put_23 : decode prog_4_method_3_code 23 = .ok (.aload_n 0, 1) := by decide +kernel
theorem d_Program_put_24 : decode prog_4_method_3_code 24 = .ok (.getfield 28, 3) := by decide +kernel
theorem d_Program_put_27 : decode prog_4_method_3_code 27 = .ok (.iload_n 2, 1) := by decide +kernel
theorem d_Program_put_28 : decode prog_4_method_3_code 28 = .ok (.iastore, 1) := by decide +kernel
theorem d_Program_put_29 : decode prog_4_method_3_code 29 = .ok (.aload_n 0, 1) := by decide +kernel
theorem d_Program_put_30 : decode prog_4_method_3_code 30 = .ok (.getfield 18, 3) := by decide +kernel
theorem d_Program_put_33 : decode prog_4_method_3_code 33 = .ok (.aload_n 0, 1) := by decide +kernel
theorem d_Program_put_34 : decode prog_4_method_3_code 34 = .ok (.getfield 28, 3) := by decide +kernel
theorem d_Program_put_37 : decode prog_4_method_3_code 37 = .ok (.iload_n 3, 1) := by decide +kernel
theorem d_Program_put_38 : decode prog_4_method_3_code 38 = .ok (.iastore, 1) := by decide +kernel
theorem d_Program_put_39 : decode prog_4_method_3_code 39 = .ok (.aload_n 0, 1) := by decide +kernel
theorem d_Program_put_40 : decode prog_4_method_3_code 40 = .ok (.dup, 1) := by decide +kernel
theorem d_Program_put_41 : decode prog_4_method_3_code 41 = .ok (.getfield 28, 3) := by decide +kernel
theorem d_Program_put_44 : decode prog_4_method_3_code 44 = .ok (.iconst 1, 1) := by decide +kernel
