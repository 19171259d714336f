theorem d_Law_find_0 : decode method_4_code 0 = .ok (.aload_n 2, 1) := by decide +kernel
theorem d_Law_find_1 : decode method_4_code 1 = .ok (.iconst 0, 1) := by decide +kernel
theorem d_Law_find_2 : decode method_4_code 2 = .ok (.aload_n 0, 1) := by decide +kernel
theorem d_Law_find_3 : decode method_4_code 3 = .ok (.iload_n 1, 1) := by decide +kernel
theorem d_Law_find_4 : decode method_4_code 4 = .ok (.invokevirtual 17, 3) := by decide +kernel
theorem d_Law_find_19 : decode method_4_code 19 = .ok (.astore_n 3, 1) := by decide +kernel
theorem d_Law_find_20 : decode method_4_code 20 = .ok (.iconst 1, 1) := by decide +kernel
theorem d_Law_find_21 : decode method_4_code 21 = .ok (.ireturn, 1) := by decide +kernel
theorem d_Law_matches_0 : decode method_5_code 0 = .ok (.aload_n 1, 1) := by decide +kernel
theorem d_Law_matches_1 : decode method_5_code 1 = .ok (.iconst 0, 1) := by decide +kernel
theorem d_Law_matches_2 : decode method_5_code 2 = .ok (.aload_n 0, 1) := by decide +kernel
theorem d_Law_matches_3 : decode method_5_code 3 = .ok (.invokevirtual 25, 3) := by decide +kernel
theorem d_Law_matches_18 : decode method_5_code 18 = .ok (.astore_n 2, 1) := by decide +kernel
theorem d_Law_matches_19 : decode method_5_code 19 = .ok (.iconst 1, 1) := by decide +kernel
theorem d_Law_matches_20 : decode method_5_code 20 = .ok (.ireturn, 1) := by decide +kernel
theorem d_Law_group_0 : decode method_6_code 0 = .ok (.aload_n 3, 1) := by decide +kernel
theorem d_Law_group_1 : decode method_6_code 1 = .ok (.iconst 0, 1) := by decide +kernel
theorem d_Law_group_2 : decode method_6_code 2 = .ok (.aload_n 0, 1) := by decide +kernel
theorem d_Law_group_3 : decode method_6_code 3 = .ok (.iload_n 1, 1) := by decide +kernel
theorem d_Law_group_4 : decode method_6_code 4 = .ok (.iload_n 2, 1) := by decide +kernel
theorem d_Law_group_5 : decode method_6_code 5 = .ok (.invokevirtual 29, 3) := by decide +kernel
theorem d_Law_group_13 : decode method_6_code 13 = .ok (.astore 4, 2) := by decide +kernel
theorem d_Law_group_15 : decode method_6_code 15 = .ok (.iconst 1, 1) := by decide +kernel
theorem d_Law_group_16 : decode method_6_code 16 = .ok (.ireturn, 1) := by decide +kernel
theorem d_Law_count_0 : decode method_7_code 0 = .ok (.aload_n 1, 1) := by decide +kernel
theorem d_Law_count_1 : decode method_7_code 1 = .ok (.iconst 0, 1) := by decide +kernel
theorem d_Law_count_2 : decode method_7_code 2 = .ok (.aload_n 0, 1) := by decide +kernel
theorem d_Law_count_3 : decode method_7_code 3 = .ok (.invokevirtual 33, 3) := by decide +kernel
theorem d_Law_count_11 : decode method_7_code 11 = .ok (.astore_n 2, 1) := by decide +kernel
theorem d_Law_count_12 : decode method_7_code 12 = .ok (.iconst 1, 1) := by decide +kernel
theorem d_Law_count_13 : decode method_7_code 13 = .ok (.ireturn, 1) := by decide +kernel
theorem d_Law_replace_0 : decode method_8_code 0 = .ok (.aload_n 1, 1) := by decide +kernel
theorem d_Law_replace_1 : decode method_8_code 1 = .ok (.iconst 0, 1) := by decide +kernel
theorem d_Law_replace_2 : decode method_8_code 2 = .ok (.aload_n 0, 1) := by decide +kernel
theorem d_Law_replace_3 : decode method_8_code 3 = .ok (.invokevirtual 37, 3) := by decide +kernel
theorem d_Law_replace_11 : decode method_8_code 11 = .ok (.astore_n 2, 1) := by decide +kernel
theorem d_Law_replace_12 : decode method_8_code 12 = .ok (.iconst 1, 1) := by decide +kernel
theorem d_Law_replace_13 : decode method_8_code 13 = .ok (.ireturn, 1) := by decide +kernel
theorem d_Law_piece_0 : decode method_9_code 0 = .ok (.aload_n 3, 1) := by decide +kernel
theorem d_Law_piece_1 : decode method_9_code 1 = .ok (.iconst 0, 1) := by decide +kernel
theorem d_Law_piece_2 : decode method_9_code 2 = .ok (.aload_n 0, 1) := by decide +kernel
theorem d_Law_piece_3 : decode method_9_code 3 = .ok (.iload_n 1, 1) := by decide +kernel
theorem d_Law_piece_4 : decode method_9_code 4 = .ok (.iload_n 2, 1) := by decide +kernel
theorem d_Law_piece_5 : decode method_9_code 5 = .ok (.invokevirtual 40, 3) := by decide +kernel
theorem d_Law_piece_13 : decode method_9_code 13 = .ok (.astore 4, 2) := by decide +kernel
theorem d_Law_piece_15 : decode method_9_code 15 = .ok (.iconst 1, 1) := by decide +kernel
theorem d_Law_piece_16 : decode method_9_code 16 = .ok (.ireturn, 1) := by decide +kernel
theorem d_Law_compile_0 : decode method_3_code 0 = .ok (.aload_n 2, 1) := by decide +kernel
theorem d_Law_compile_1 : decode method_3_code 1 = .ok (.iconst 0, 1) := by decide +kernel
theorem d_Law_compile_2 : decode method_3_code 2 = .ok (.aload_n 0, 1) := by decide +kernel
theorem d_Law_compile_3 : decode method_3_code 3 = .ok (.iload_n 1, 1) := by decide +kernel
theorem d_Law_compile_4 : decode method_3_code 4 = .ok (.invokevirtual 7, 3) := by decide +kernel
theorem d_Law_compile_7 : decode method_3_code 7 = .ok (.i2l, 1) := by decide +kernel
theorem d_Law_compile_8 : decode method_3_code 8 = .ok (.lastore, 1) := by decide +kernel
theorem d_Law_compile_9 : decode method_3_code 9 = .ok (.goto 9, 3) := by decide +kernel
theorem d_Law_compile_18 : decode method_3_code 18 = .ok (.iconst 0, 1) := by decide +kernel
theorem d_Law_compile_19 : decode method_3_code 19 = .ok (.ireturn, 1) := by decide +kernel
theorem d_Law_law_0 : decode code 0 = .ok (.new 8, 3) := by decide +kernel
theorem d_Law_law_3 : decode code 3 = .ok (.dup, 1) := by decide +kernel
theorem d_Law_law_4 : decode code 4 = .ok (.invokespecial 46, 3) := by decide +kernel
theorem d_Law_law_7 : decode code 7 = .ok (.astore_n 1, 1) := by decide +kernel
theorem d_Law_law_8 : decode code 8 = .ok (.new 47, 3) := by decide +kernel
theorem d_Law_law_11 : decode code 11 = .ok (.dup, 1) := by decide +kernel
theorem d_Law_law_12 : decode code 12 = .ok (.invokespecial 49, 3) := by decide +kernel
theorem d_Law_law_15 : decode code 15 = .ok (.astore_n 2, 1) := by decide +kernel
theorem d_Law_law_16 : decode code 16 = .ok (.iconst 1, 1) := by decide +kernel
theorem d_Law_law_17 : decode code 17 = .ok (.newarray .long, 2) := by decide +kernel
theorem d_Law_law_19 : decode code 19 = .ok (.astore_n 3, 1) := by decide +kernel
theorem d_Law_law_20 : decode code 20 = .ok (.iconst 0, 1) := by decide +kernel
theorem d_Law_law_21 : decode code 21 = .ok (.istore 4, 2) := by decide +kernel
theorem d_Law_law_23 : decode code 23 = .ok (.iload 4, 2) := by decide +kernel
theorem d_Law_law_25 : decode code 25 = .ok (.aload_n 0, 1) := by decide +kernel
theorem d_Law_law_26 : decode code 26 = .ok (.arraylength, 1) := by decide +kernel
theorem d_Law_law_27 : decode code 27 = .ok (.iconst 3, 1) := by decide +kernel
theorem d_Law_law_28 : decode code 28 = .ok (.isub, 1) := by decide +kernel
theorem d_Law_law_29 : decode code 29 = .ok (.if_icmp .gt 603, 3) := by decide +kernel
theorem d_Law_law_32 : decode code 32 = .ok (.aload_n 0, 1) := by decide +kernel
theorem d_Law_law_33 : decode code 33 = .ok (.iload 4, 2) := by decide +kernel
theorem d_Law_law_35 : decode code 35 = .ok (.iaload, 1) := by decide +kernel
theorem d_Law_law_36 : decode code 36 = .ok (.bipush 15, 2) := by decide +kernel
theorem d_Law_law_38 : decode code 38 = .ok (.iand, 1) := by decide +kernel
theorem d_Law_law_39 : decode code 39 = .ok (.tableswitch 587 0 12 #[65, 92, 103, 159, 172, 183, 246, 297, 381, 425, 469, 537, 562], 65) := by decide +kernel
theorem d_Law_law_104 : decode code 104 = .ok (.aload_n 1, 1) := by decide +kernel
theorem d_Law_law_105 : decode code 105 = .ok (.aload_n 0, 1) := by decide +kernel
theorem d_Law_law_106 : decode code 106 = .ok (.iload 4, 2) := by decide +kernel
theorem d_Law_law_108 : decode code 108 = .ok (.iconst 1, 1) := by decide +kernel
theorem d_Law_law_109 : decode code 109 = .ok (.iadd, 1) := by decide +kernel
theorem d_Law_law_110 : decode code 110 = .ok (.iaload, 1) := by decide +kernel
theorem d_Law_law_111 : decode code 111 = .ok (.i2c, 1) := by decide +kernel
theorem d_Law_law_112 : decode code 112 = .ok (.invokevirtual 50, 3) := by decide +kernel
theorem d_Law_law_115 : decode code 115 = .ok (.aload_n 2, 1) := by decide +kernel
theorem d_Law_law_116 : decode code 116 = .ok (.aload_n 0, 1) := by decide +kernel
theorem d_Law_law_117 : decode code 117 = .ok (.iload 4, 2) := by decide +kernel
theorem d_Law_law_119 : decode code 119 = .ok (.iconst 1, 1) := by decide +kernel
theorem d_Law_law_120 : decode code 120 = .ok (.iadd, 1) := by decide +kernel
theorem d_Law_law_121 : decode code 121 = .ok (.iaload, 1) := by decide +kernel
theorem d_Law_law_122 : decode code 122 = .ok (.i2c, 1) := by decide +kernel
theorem d_Law_law_123 : decode code 123 = .ok (.invokevirtual 54, 3) := by decide +kernel
theorem d_Law_law_126 : decode code 126 = .ok (.if_icmp .eq 500, 3) := by decide +kernel
theorem d_Law_law_131 : decode code 131 = .ok (.aload_n 1, 1) := by decide +kernel
theorem d_Law_law_132 : decode code 132 = .ok (.invokevirtual 55, 3) := by decide +kernel
theorem d_Law_law_135 : decode code 135 = .ok (.aload_n 2, 1) := by decide +kernel
theorem d_Law_law_136 : decode code 136 = .ok (.invokevirtual 58, 3) := by decide +kernel
theorem d_Law_law_139 : decode code 139 = .ok (.goto 487, 3) := by decide +kernel
theorem d_Law_law_142 : decode code 142 = .ok (.aload_n 1, 1) := by decide +kernel
theorem d_Law_law_143 : decode code 143 = .ok (.aload_n 0, 1) := by decide +kernel
theorem d_Law_law_144 : decode code 144 = .ok (.iload 4, 2) := by decide +kernel
theorem d_Law_law_146 : decode code 146 = .ok (.iconst 1, 1) := by decide +kernel
theorem d_Law_law_147 : decode code 147 = .ok (.iadd, 1) := by decide +kernel
theorem d_Law_law_148 : decode code 148 = .ok (.iaload, 1) := by decide +kernel
theorem d_Law_law_149 : decode code 149 = .ok (.aload_n 3, 1) := by decide +kernel
theorem d_Law_law_150 : decode code 150 = .ok (.invokestatic 59, 3) := by decide +kernel
theorem d_Law_law_153 : decode code 153 = .ok (.istore 5, 2) := by decide +kernel
theorem d_Law_law_155 : decode code 155 = .ok (.aload_n 2, 1) := by decide +kernel
theorem d_Law_law_156 : decode code 156 = .ok (.aload_n 0, 1) := by decide +kernel
theorem d_Law_law_157 : decode code 157 = .ok (.iload 4, 2) := by decide +kernel
theorem d_Law_law_159 : decode code 159 = .ok (.iconst 1, 1) := by decide +kernel
theorem d_Law_law_160 : decode code 160 = .ok (.iadd, 1) := by decide +kernel
theorem d_Law_law_161 : decode code 161 = .ok (.iaload, 1) := by decide +kernel
theorem d_Law_law_162 : decode code 162 = .ok (.invokevirtual 64, 3) := by decide +kernel
