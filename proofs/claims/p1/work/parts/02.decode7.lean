theorem d_Model_beginPattern_1 : decode prog_9_method_17_code 1 = .ok (.getfield 33, 3) := by decide +kernel
theorem d_Model_beginPattern_4 : decode prog_9_method_17_code 4 = .ok (.aload_n 0, 1) := by decide +kernel
theorem d_Model_beginPattern_5 : decode prog_9_method_17_code 5 = .ok (.getfield 132, 3) := by decide +kernel
theorem d_Model_beginPattern_8 : decode prog_9_method_17_code 8 = .ok (.aload_n 0, 1) := by decide +kernel
theorem d_Model_beginPattern_9 : decode prog_9_method_17_code 9 = .ok (.getfield 129, 3) := by decide +kernel
theorem d_Model_beginPattern_12 : decode prog_9_method_17_code 12 = .ok (.iastore, 1) := by decide +kernel
theorem d_Model_beginPattern_13 : decode prog_9_method_17_code 13 = .ok (.aload_n 0, 1) := by decide +kernel
theorem d_Model_beginPattern_14 : decode prog_9_method_17_code 14 = .ok (.getfield 42, 3) := by decide +kernel
theorem d_Model_beginPattern_17 : decode prog_9_method_17_code 17 = .ok (.aload_n 0, 1) := by decide +kernel
theorem d_Model_beginPattern_18 : decode prog_9_method_17_code 18 = .ok (.getfield 132, 3) := by decide +kernel
theorem d_Model_beginPattern_21 : decode prog_9_method_17_code 21 = .ok (.iload_n 1, 1) := by decide +kernel
theorem d_Model_beginPattern_22 : decode prog_9_method_17_code 22 = .ok (.iastore, 1) := by decide +kernel
theorem d_Model_beginPattern_23 : decode prog_9_method_17_code 23 = .ok (.iload_n 1, 1) := by decide +kernel
theorem d_Model_beginPattern_24 : decode prog_9_method_17_code 24 = .ok (.ifCond .le 12, 3) := by decide +kernel
theorem d_Model_beginPattern_36 : decode prog_9_method_17_code 36 = .ok (.aload_n 0, 1) := by decide +kernel
theorem d_Model_beginPattern_37 : decode prog_9_method_17_code 37 = .ok (.getfield 36, 3) := by decide +kernel
theorem d_Model_beginPattern_40 : decode prog_9_method_17_code 40 = .ok (.aload_n 0, 1) := by decide +kernel
theorem d_Model_beginPattern_41 : decode prog_9_method_17_code 41 = .ok (.getfield 132, 3) := by decide +kernel
theorem d_Model_beginPattern_44 : decode prog_9_method_17_code 44 = .ok (.aload_n 0, 1) := by decide +kernel
theorem d_Model_beginPattern_45 : decode prog_9_method_17_code 45 = .ok (.getfield 129, 3) := by decide +kernel
theorem d_Model_beginPattern_48 : decode prog_9_method_17_code 48 = .ok (.iastore, 1) := by decide +kernel
theorem d_Model_beginPattern_49 : decode prog_9_method_17_code 49 = .ok (.aload_n 0, 1) := by decide +kernel
theorem d_Model_beginPattern_50 : decode prog_9_method_17_code 50 = .ok (.getfield 39, 3) := by decide +kernel
theorem d_Model_beginPattern_53 : decode prog_9_method_17_code 53 = .ok (.aload_n 0, 1) := by decide +kernel
theorem d_Model_beginPattern_54 : decode prog_9_method_17_code 54 = .ok (.getfield 132, 3) := by decide +kernel
theorem d_Model_beginPattern_57 : decode prog_9_method_17_code 57 = .ok (.iload_n 1, 1) := by decide +kernel
theorem d_Model_beginPattern_58 : decode prog_9_method_17_code 58 = .ok (.ifCond .le 7, 3) := by decide +kernel
theorem d_Model_beginPattern_65 : decode prog_9_method_17_code 65 = .ok (.iconst 0, 1) := by decide +kernel
theorem d_Model_beginPattern_66 : decode prog_9_method_17_code 66 = .ok (.iastore, 1) := by decide +kernel
theorem d_Model_beginPattern_67 : decode prog_9_method_17_code 67 = .ok (.aload_n 0, 1) := by decide +kernel
theorem d_Model_beginPattern_68 : decode prog_9_method_17_code 68 = .ok (.getfield 45, 3) := by decide +kernel
theorem d_Model_beginPattern_71 : decode prog_9_method_17_code 71 = .ok (.aload_n 0, 1) := by decide +kernel
theorem d_Model_beginPattern_72 : decode prog_9_method_17_code 72 = .ok (.getfield 132, 3) := by decide +kernel
theorem d_Model_beginPattern_75 : decode prog_9_method_17_code 75 = .ok (.iconst (-1), 1) := by decide +kernel
theorem d_Model_beginPattern_76 : decode prog_9_method_17_code 76 = .ok (.iastore, 1) := by decide +kernel
theorem d_Model_beginPattern_77 : decode prog_9_method_17_code 77 = .ok (.aload_n 0, 1) := by decide +kernel
theorem d_Model_beginPattern_78 : decode prog_9_method_17_code 78 = .ok (.dup, 1) := by decide +kernel
theorem d_Model_beginPattern_79 : decode prog_9_method_17_code 79 = .ok (.getfield 132, 3) := by decide +kernel
theorem d_Model_beginPattern_82 : decode prog_9_method_17_code 82 = .ok (.iconst 1, 1) := by decide +kernel
theorem d_Model_beginPattern_83 : decode prog_9_method_17_code 83 = .ok (.iadd, 1) := by decide +kernel
theorem d_Model_beginPattern_84 : decode prog_9_method_17_code 84 = .ok (.putfield 132, 3) := by decide +kernel
theorem d_Model_beginPattern_87 : decode prog_9_method_17_code 87 = .ok (.return_, 1) := by decide +kernel
theorem d_Model_reads_0 : decode prog_9_method_35_code 0 = .ok (.aload_n 0, 1) := by decide +kernel
theorem d_Model_reads_1 : decode prog_9_method_35_code 1 = .ok (.iload_n 1, 1) := by decide +kernel
theorem d_Model_reads_2 : decode prog_9_method_35_code 2 = .ok (.putfield 125, 3) := by decide +kernel
theorem d_Model_reads_5 : decode prog_9_method_35_code 5 = .ok (.aload_n 0, 1) := by decide +kernel
theorem d_Model_reads_6 : decode prog_9_method_35_code 6 = .ok (.iload_n 2, 1) := by decide +kernel
theorem d_Model_reads_7 : decode prog_9_method_35_code 7 = .ok (.putfield 110, 3) := by decide +kernel
theorem d_Model_reads_10 : decode prog_9_method_35_code 10 = .ok (.aload_n 0, 1) := by decide +kernel
theorem d_Model_reads_11 : decode prog_9_method_35_code 11 = .ok (.iconst 0, 1) := by decide +kernel
theorem d_Model_reads_12 : decode prog_9_method_35_code 12 = .ok (.putfield 118, 3) := by decide +kernel
theorem d_Model_reads_15 : decode prog_9_method_35_code 15 = .ok (.aload_n 0, 1) := by decide +kernel
theorem d_Model_reads_16 : decode prog_9_method_35_code 16 = .ok (.iconst 0, 1) := by decide +kernel
theorem d_Model_reads_17 : decode prog_9_method_35_code 17 = .ok (.putfield 153, 3) := by decide +kernel
theorem d_Model_reads_20 : decode prog_9_method_35_code 20 = .ok (.aload_n 0, 1) := by decide +kernel
theorem d_Model_reads_21 : decode prog_9_method_35_code 21 = .ok (.iconst 0, 1) := by decide +kernel
theorem d_Model_reads_22 : decode prog_9_method_35_code 22 = .ok (.putfield 132, 3) := by decide +kernel
theorem d_Model_reads_25 : decode prog_9_method_35_code 25 = .ok (.aload_n 0, 1) := by decide +kernel
theorem d_Model_reads_26 : decode prog_9_method_35_code 26 = .ok (.iconst 0, 1) := by decide +kernel
theorem d_Model_reads_27 : decode prog_9_method_35_code 27 = .ok (.putfield 156, 3) := by decide +kernel
theorem d_Model_reads_30 : decode prog_9_method_35_code 30 = .ok (.aload_n 0, 1) := by decide +kernel
theorem d_Model_reads_31 : decode prog_9_method_35_code 31 = .ok (.iconst (-1), 1) := by decide +kernel
theorem d_Model_reads_32 : decode prog_9_method_35_code 32 = .ok (.putfield 139, 3) := by decide +kernel
theorem d_Model_reads_35 : decode prog_9_method_35_code 35 = .ok (.aload_n 0, 1) := by decide +kernel
theorem d_Model_reads_36 : decode prog_9_method_35_code 36 = .ok (.iload_n 1, 1) := by decide +kernel
theorem d_Model_reads_37 : decode prog_9_method_35_code 37 = .ok (.ifCond .eq 7, 3) := by decide +kernel
theorem d_Model_reads_40 : decode prog_9_method_35_code 40 = .ok (.iconst 0, 1) := by decide +kernel
theorem d_Model_reads_41 : decode prog_9_method_35_code 41 = .ok (.goto 7, 3) := by decide +kernel
theorem d_Model_reads_44 : decode prog_9_method_35_code 44 = .ok (.aload_n 0, 1) := by decide +kernel
theorem d_Model_reads_45 : decode prog_9_method_35_code 45 = .ok (.getfield 129, 3) := by decide +kernel
theorem d_Model_reads_48 : decode prog_9_method_35_code 48 = .ok (.putfield 129, 3) := by decide +kernel
theorem d_Model_reads_51 : decode prog_9_method_35_code 51 = .ok (.aload_n 0, 1) := by decide +kernel
theorem d_Model_reads_52 : decode prog_9_method_35_code 52 = .ok (.iconst 0, 1) := by decide +kernel
theorem d_Model_reads_53 : decode prog_9_method_35_code 53 = .ok (.invokevirtual 159, 3) := by decide +kernel
theorem d_Model_reads_56 : decode prog_9_method_35_code 56 = .ok (.aload_n 0, 1) := by decide +kernel
theorem d_Model_reads_57 : decode prog_9_method_35_code 57 = .ok (.getfield 118, 3) := by decide +kernel
theorem d_Model_reads_60 : decode prog_9_method_35_code 60 = .ok (.aload_n 0, 1) := by decide +kernel
theorem d_Model_reads_61 : decode prog_9_method_35_code 61 = .ok (.getfield 88, 3) := by decide +kernel
theorem d_Model_reads_64 : decode prog_9_method_35_code 64 = .ok (.if_icmp .ge 17, 3) := by decide +kernel
theorem d_Model_reads_81 : decode prog_9_method_35_code 81 = .ok (.aload_n 0, 1) := by decide +kernel
theorem d_Model_reads_82 : decode prog_9_method_35_code 82 = .ok (.aload_n 0, 1) := by decide +kernel
theorem d_Model_reads_83 : decode prog_9_method_35_code 83 = .ok (.getfield 153, 3) := by decide +kernel
theorem d_Model_reads_86 : decode prog_9_method_35_code 86 = .ok (.ifCond .ne 11, 3) := by decide +kernel
theorem d_Model_reads_89 : decode prog_9_method_35_code 89 = .ok (.aload_n 0, 1) := by decide +kernel
theorem d_Model_reads_90 : decode prog_9_method_35_code 90 = .ok (.getfield 132, 3) := by decide +kernel
theorem d_Model_reads_93 : decode prog_9_method_35_code 93 = .ok (.iconst 1, 1) := by decide +kernel
theorem d_Model_reads_94 : decode prog_9_method_35_code 94 = .ok (.if_icmp .eq 7, 3) := by decide +kernel
theorem d_Model_reads_101 : decode prog_9_method_35_code 101 = .ok (.iconst 0, 1) := by decide +kernel
theorem d_Model_reads_102 : decode prog_9_method_35_code 102 = .ok (.putfield 153, 3) := by decide +kernel
theorem d_Model_reads_105 : decode prog_9_method_35_code 105 = .ok (.aload_n 0, 1) := by decide +kernel
theorem d_Model_reads_106 : decode prog_9_method_35_code 106 = .ok (.getfield 153, 3) := by decide +kernel
theorem d_Model_reads_109 : decode prog_9_method_35_code 109 = .ok (.ifCond .ne 7, 3) := by decide +kernel
theorem d_Model_reads_112 : decode prog_9_method_35_code 112 = .ok (.iconst 1, 1) := by decide +kernel
theorem d_Model_reads_113 : decode prog_9_method_35_code 113 = .ok (.goto 4, 3) := by decide +kernel
theorem d_Model_reads_117 : decode prog_9_method_35_code 117 = .ok (.ireturn, 1) := by decide +kernel
theorem d_Model_endPattern_0 : decode prog_9_method_21_code 0 = .ok (.aload_n 0, 1) := by decide +kernel
theorem d_Model_endPattern_1 : decode prog_9_method_21_code 1 = .ok (.dup, 1) := by decide +kernel
theorem d_Model_endPattern_2 : decode prog_9_method_21_code 2 = .ok (.getfield 132, 3) := by decide +kernel
theorem d_Model_endPattern_5 : decode prog_9_method_21_code 5 = .ok (.iconst 1, 1) := by decide +kernel
theorem d_Model_endPattern_6 : decode prog_9_method_21_code 6 = .ok (.isub, 1) := by decide +kernel
theorem d_Model_endPattern_7 : decode prog_9_method_21_code 7 = .ok (.putfield 132, 3) := by decide +kernel
theorem d_Model_endPattern_10 : decode prog_9_method_21_code 10 = .ok (.aload_n 0, 1) := by decide +kernel
theorem d_Model_endPattern_11 : decode prog_9_method_21_code 11 = .ok (.getfield 132, 3) := by decide +kernel
theorem d_Model_endPattern_14 : decode prog_9_method_21_code 14 = .ok (.istore_n 1, 1) := by decide +kernel
theorem d_Model_endPattern_15 : decode prog_9_method_21_code 15 = .ok (.aload_n 0, 1) := by decide +kernel
theorem d_Model_endPattern_16 : decode prog_9_method_21_code 16 = .ok (.getfield 45, 3) := by decide +kernel
theorem d_Model_endPattern_19 : decode prog_9_method_21_code 19 = .ok (.iload_n 1, 1) := by decide +kernel
theorem d_Model_endPattern_20 : decode prog_9_method_21_code 20 = .ok (.iaload, 1) := by decide +kernel
theorem d_Model_endPattern_21 : decode prog_9_method_21_code 21 = .ok (.istore_n 2, 1) := by decide +kernel
theorem d_Model_endPattern_22 : decode prog_9_method_21_code 22 = .ok (.iload_n 2, 1) := by decide +kernel
theorem d_Model_endPattern_23 : decode prog_9_method_21_code 23 = .ok (.ifCond .lt 27, 3) := by decide +kernel
theorem d_Model_endPattern_50 : decode prog_9_method_21_code 50 = .ok (.aload_n 0, 1) := by decide +kernel
theorem d_Model_endPattern_51 : decode prog_9_method_21_code 51 = .ok (.getfield 42, 3) := by decide +kernel
theorem d_Model_endPattern_54 : decode prog_9_method_21_code 54 = .ok (.iload_n 1, 1) := by decide +kernel
theorem d_Model_endPattern_55 : decode prog_9_method_21_code 55 = .ok (.iaload, 1) := by decide +kernel
theorem d_Model_endPattern_56 : decode prog_9_method_21_code 56 = .ok (.ifCond .le 19, 3) := by decide +kernel
theorem d_Model_endPattern_75 : decode prog_9_method_21_code 75 = .ok (.return_, 1) := by decide +kernel
theorem d_Model_lay_0 : decode prog_9_method_16_code 0 = .ok (.aload_n 0, 1) := by decide +kernel
theorem d_Model_lay_1 : decode prog_9_method_16_code 1 = .ok (.getfield 125, 3) := by decide +kernel
theorem d_Model_lay_4 : decode prog_9_method_16_code 4 = .ok (.ifCond .ne 4, 3) := by decide +kernel
