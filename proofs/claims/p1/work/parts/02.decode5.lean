theorem d_Model_init_102 : decode prog_9_method_1_code 102 = .ok (.putfield 45, 3) := by decide +kernel
theorem d_Model_init_105 : decode prog_9_method_1_code 105 = .ok (.aload_n 0, 1) := by decide +kernel
theorem d_Model_init_106 : decode prog_9_method_1_code 106 = .ok (.sipush 260, 3) := by decide +kernel
theorem d_Model_init_109 : decode prog_9_method_1_code 109 = .ok (.newarray .int, 2) := by decide +kernel
theorem d_Model_init_111 : decode prog_9_method_1_code 111 = .ok (.putfield 48, 3) := by decide +kernel
theorem d_Model_init_114 : decode prog_9_method_1_code 114 = .ok (.aload_n 0, 1) := by decide +kernel
theorem d_Model_init_115 : decode prog_9_method_1_code 115 = .ok (.sipush 260, 3) := by decide +kernel
theorem d_Model_init_118 : decode prog_9_method_1_code 118 = .ok (.newarray .int, 2) := by decide +kernel
theorem d_Model_init_120 : decode prog_9_method_1_code 120 = .ok (.putfield 51, 3) := by decide +kernel
theorem d_Model_init_123 : decode prog_9_method_1_code 123 = .ok (.aload_n 0, 1) := by decide +kernel
theorem d_Model_init_124 : decode prog_9_method_1_code 124 = .ok (.sipush 260, 3) := by decide +kernel
theorem d_Model_init_127 : decode prog_9_method_1_code 127 = .ok (.newarray .int, 2) := by decide +kernel
theorem d_Model_init_129 : decode prog_9_method_1_code 129 = .ok (.putfield 54, 3) := by decide +kernel
theorem d_Model_init_132 : decode prog_9_method_1_code 132 = .ok (.aload_n 0, 1) := by decide +kernel
theorem d_Model_init_133 : decode prog_9_method_1_code 133 = .ok (.sipush 260, 3) := by decide +kernel
theorem d_Model_init_136 : decode prog_9_method_1_code 136 = .ok (.newarray .long, 2) := by decide +kernel
theorem d_Model_init_138 : decode prog_9_method_1_code 138 = .ok (.putfield 57, 3) := by decide +kernel
theorem d_Model_init_141 : decode prog_9_method_1_code 141 = .ok (.aload_n 0, 1) := by decide +kernel
theorem d_Model_init_142 : decode prog_9_method_1_code 142 = .ok (.sipush 260, 3) := by decide +kernel
theorem d_Model_init_145 : decode prog_9_method_1_code 145 = .ok (.newarray .long, 2) := by decide +kernel
theorem d_Model_init_147 : decode prog_9_method_1_code 147 = .ok (.putfield 60, 3) := by decide +kernel
theorem d_Model_init_150 : decode prog_9_method_1_code 150 = .ok (.aload_n 0, 1) := by decide +kernel
theorem d_Model_init_151 : decode prog_9_method_1_code 151 = .ok (.sipush 820, 3) := by decide +kernel
theorem d_Model_init_154 : decode prog_9_method_1_code 154 = .ok (.newarray .long, 2) := by decide +kernel
theorem d_Model_init_156 : decode prog_9_method_1_code 156 = .ok (.putfield 63, 3) := by decide +kernel
theorem d_Model_init_159 : decode prog_9_method_1_code 159 = .ok (.aload_n 0, 1) := by decide +kernel
theorem d_Model_init_160 : decode prog_9_method_1_code 160 = .ok (.sipush 260, 3) := by decide +kernel
theorem d_Model_init_163 : decode prog_9_method_1_code 163 = .ok (.newarray .int, 2) := by decide +kernel
theorem d_Model_init_165 : decode prog_9_method_1_code 165 = .ok (.putfield 66, 3) := by decide +kernel
theorem d_Model_init_168 : decode prog_9_method_1_code 168 = .ok (.aload_n 0, 1) := by decide +kernel
theorem d_Model_init_169 : decode prog_9_method_1_code 169 = .ok (.sipush 3000, 3) := by decide +kernel
theorem d_Model_init_172 : decode prog_9_method_1_code 172 = .ok (.newarray .int, 2) := by decide +kernel
theorem d_Model_init_174 : decode prog_9_method_1_code 174 = .ok (.putfield 69, 3) := by decide +kernel
theorem d_Model_init_177 : decode prog_9_method_1_code 177 = .ok (.aload_n 0, 1) := by decide +kernel
theorem d_Model_init_178 : decode prog_9_method_1_code 178 = .ok (.sipush 3000, 3) := by decide +kernel
theorem d_Model_init_181 : decode prog_9_method_1_code 181 = .ok (.newarray .int, 2) := by decide +kernel
theorem d_Model_init_183 : decode prog_9_method_1_code 183 = .ok (.putfield 72, 3) := by decide +kernel
theorem d_Model_init_186 : decode prog_9_method_1_code 186 = .ok (.aload_n 0, 1) := by decide +kernel
theorem d_Model_init_187 : decode prog_9_method_1_code 187 = .ok (.bipush 10, 2) := by decide +kernel
theorem d_Model_init_189 : decode prog_9_method_1_code 189 = .ok (.newarray .int, 2) := by decide +kernel
theorem d_Model_init_191 : decode prog_9_method_1_code 191 = .ok (.putfield 75, 3) := by decide +kernel
theorem d_Model_init_194 : decode prog_9_method_1_code 194 = .ok (.aload_n 0, 1) := by decide +kernel
theorem d_Model_init_195 : decode prog_9_method_1_code 195 = .ok (.bipush 10, 2) := by decide +kernel
theorem d_Model_init_197 : decode prog_9_method_1_code 197 = .ok (.newarray .int, 2) := by decide +kernel
theorem d_Model_init_199 : decode prog_9_method_1_code 199 = .ok (.putfield 78, 3) := by decide +kernel
theorem d_Model_init_202 : decode prog_9_method_1_code 202 = .ok (.aload_n 0, 1) := by decide +kernel
theorem d_Model_init_203 : decode prog_9_method_1_code 203 = .ok (.bipush 80, 2) := by decide +kernel
theorem d_Model_init_205 : decode prog_9_method_1_code 205 = .ok (.newarray .char, 2) := by decide +kernel
theorem d_Model_init_207 : decode prog_9_method_1_code 207 = .ok (.putfield 81, 3) := by decide +kernel
theorem d_Model_init_210 : decode prog_9_method_1_code 210 = .ok (.return_, 1) := by decide +kernel
theorem d_Model_thrown_0 : decode prog_9_method_2_code 0 = .ok (.aload_n 0, 1) := by decide +kernel
theorem d_Model_thrown_1 : decode prog_9_method_2_code 1 = .ok (.getfield 84, 3) := by decide +kernel
theorem d_Model_thrown_4 : decode prog_9_method_2_code 4 = .ok (.ireturn, 1) := by decide +kernel
theorem d_Model_throwsNow_0 : decode prog_9_method_3_code 0 = .ok (.aload_n 0, 1) := by decide +kernel
theorem d_Model_throwsNow_1 : decode prog_9_method_3_code 1 = .ok (.iload_n 1, 1) := by decide +kernel
theorem d_Model_throwsNow_2 : decode prog_9_method_3_code 2 = .ok (.putfield 84, 3) := by decide +kernel
theorem d_Model_throwsNow_5 : decode prog_9_method_3_code 5 = .ok (.iload_n 1, 1) := by decide +kernel
theorem d_Model_throwsNow_6 : decode prog_9_method_3_code 6 = .ok (.ifCond .le 7, 3) := by decide +kernel
theorem d_Model_throwsNow_9 : decode prog_9_method_3_code 9 = .ok (.iconst 1, 1) := by decide +kernel
theorem d_Model_throwsNow_10 : decode prog_9_method_3_code 10 = .ok (.goto 4, 3) := by decide +kernel
theorem d_Model_throwsNow_13 : decode prog_9_method_3_code 13 = .ok (.iconst 0, 1) := by decide +kernel
theorem d_Model_throwsNow_14 : decode prog_9_method_3_code 14 = .ok (.ireturn, 1) := by decide +kernel
theorem d_Model_type_0 : decode prog_9_method_4_code 0 = .ok (.aload_n 0, 1) := by decide +kernel
theorem d_Model_type_1 : decode prog_9_method_4_code 1 = .ok (.iconst 0, 1) := by decide +kernel
theorem d_Model_type_2 : decode prog_9_method_4_code 2 = .ok (.putfield 84, 3) := by decide +kernel
theorem d_Model_type_5 : decode prog_9_method_4_code 5 = .ok (.iload_n 1, 1) := by decide +kernel
theorem d_Model_type_6 : decode prog_9_method_4_code 6 = .ok (.bipush 32, 2) := by decide +kernel
theorem d_Model_type_8 : decode prog_9_method_4_code 8 = .ok (.if_icmp .lt 9, 3) := by decide +kernel
theorem d_Model_type_11 : decode prog_9_method_4_code 11 = .ok (.iload_n 1, 1) := by decide +kernel
theorem d_Model_type_12 : decode prog_9_method_4_code 12 = .ok (.bipush 126, 2) := by decide +kernel
theorem d_Model_type_14 : decode prog_9_method_4_code 14 = .ok (.if_icmp .le 9, 3) := by decide +kernel
theorem d_Model_type_17 : decode prog_9_method_4_code 17 = .ok (.iload_n 1, 1) := by decide +kernel
theorem d_Model_type_18 : decode prog_9_method_4_code 18 = .ok (.bipush 10, 2) := by decide +kernel
theorem d_Model_type_20 : decode prog_9_method_4_code 20 = .ok (.if_icmp .ne 12, 3) := by decide +kernel
theorem d_Model_type_23 : decode prog_9_method_4_code 23 = .ok (.aload_n 0, 1) := by decide +kernel
theorem d_Model_type_24 : decode prog_9_method_4_code 24 = .ok (.getfield 88, 3) := by decide +kernel
theorem d_Model_type_27 : decode prog_9_method_4_code 27 = .ok (.bipush 40, 2) := by decide +kernel
theorem d_Model_type_29 : decode prog_9_method_4_code 29 = .ok (.if_icmp .ne 5, 3) := by decide +kernel
theorem d_Model_type_32 : decode prog_9_method_4_code 32 = .ok (.iconst 0, 1) := by decide +kernel
theorem d_Model_type_33 : decode prog_9_method_4_code 33 = .ok (.ireturn, 1) := by decide +kernel
theorem d_Model_type_34 : decode prog_9_method_4_code 34 = .ok (.aload_n 0, 1) := by decide +kernel
theorem d_Model_type_35 : decode prog_9_method_4_code 35 = .ok (.getfield 7, 3) := by decide +kernel
theorem d_Model_type_38 : decode prog_9_method_4_code 38 = .ok (.aload_n 0, 1) := by decide +kernel
theorem d_Model_type_39 : decode prog_9_method_4_code 39 = .ok (.getfield 88, 3) := by decide +kernel
theorem d_Model_type_42 : decode prog_9_method_4_code 42 = .ok (.iload_n 1, 1) := by decide +kernel
theorem d_Model_type_43 : decode prog_9_method_4_code 43 = .ok (.castore, 1) := by decide +kernel
theorem d_Model_type_44 : decode prog_9_method_4_code 44 = .ok (.aload_n 0, 1) := by decide +kernel
theorem d_Model_type_45 : decode prog_9_method_4_code 45 = .ok (.dup, 1) := by decide +kernel
theorem d_Model_type_46 : decode prog_9_method_4_code 46 = .ok (.getfield 88, 3) := by decide +kernel
theorem d_Model_type_49 : decode prog_9_method_4_code 49 = .ok (.iconst 1, 1) := by decide +kernel
theorem d_Model_type_50 : decode prog_9_method_4_code 50 = .ok (.iadd, 1) := by decide +kernel
theorem d_Model_type_51 : decode prog_9_method_4_code 51 = .ok (.putfield 88, 3) := by decide +kernel
theorem d_Model_type_54 : decode prog_9_method_4_code 54 = .ok (.iconst 1, 1) := by decide +kernel
theorem d_Model_type_55 : decode prog_9_method_4_code 55 = .ok (.ireturn, 1) := by decide +kernel
theorem d_Model_wipe_0 : decode prog_9_method_5_code 0 = .ok (.aload_n 0, 1) := by decide +kernel
theorem d_Model_wipe_1 : decode prog_9_method_5_code 1 = .ok (.iconst 0, 1) := by decide +kernel
theorem d_Model_wipe_2 : decode prog_9_method_5_code 2 = .ok (.putfield 84, 3) := by decide +kernel
theorem d_Model_wipe_5 : decode prog_9_method_5_code 5 = .ok (.aload_n 0, 1) := by decide +kernel
theorem d_Model_wipe_6 : decode prog_9_method_5_code 6 = .ok (.iconst 0, 1) := by decide +kernel
theorem d_Model_wipe_7 : decode prog_9_method_5_code 7 = .ok (.putfield 88, 3) := by decide +kernel
theorem d_Model_wipe_10 : decode prog_9_method_5_code 10 = .ok (.return_, 1) := by decide +kernel
theorem d_Model_changed_0 : decode prog_9_method_45_code 0 = .ok (.aload_n 0, 1) := by decide +kernel
theorem d_Model_changed_1 : decode prog_9_method_45_code 1 = .ok (.iconst 0, 1) := by decide +kernel
theorem d_Model_changed_2 : decode prog_9_method_45_code 2 = .ok (.putfield 265, 3) := by decide +kernel
theorem d_Model_changed_5 : decode prog_9_method_45_code 5 = .ok (.aload_n 0, 1) := by decide +kernel
theorem d_Model_changed_6 : decode prog_9_method_45_code 6 = .ok (.iconst 0, 1) := by decide +kernel
theorem d_Model_changed_7 : decode prog_9_method_45_code 7 = .ok (.putfield 262, 3) := by decide +kernel
theorem d_Model_changed_10 : decode prog_9_method_45_code 10 = .ok (.aload_n 0, 1) := by decide +kernel
theorem d_Model_changed_11 : decode prog_9_method_45_code 11 = .ok (.iconst 0, 1) := by decide +kernel
theorem d_Model_changed_12 : decode prog_9_method_45_code 12 = .ok (.putfield 272, 3) := by decide +kernel
theorem d_Model_changed_15 : decode prog_9_method_45_code 15 = .ok (.return_, 1) := by decide +kernel
theorem d_Model_text_0 : decode prog_9_method_47_code 0 = .ok (.aload_n 0, 1) := by decide +kernel
theorem d_Model_text_1 : decode prog_9_method_47_code 1 = .ok (.iconst 0, 1) := by decide +kernel
theorem d_Model_text_2 : decode prog_9_method_47_code 2 = .ok (.putfield 84, 3) := by decide +kernel
theorem d_Model_text_5 : decode prog_9_method_47_code 5 = .ok (.iconst 0, 1) := by decide +kernel
theorem d_Model_text_6 : decode prog_9_method_47_code 6 = .ok (.istore_n 1, 1) := by decide +kernel
theorem d_Model_text_7 : decode prog_9_method_47_code 7 = .ok (.iload_n 1, 1) := by decide +kernel
theorem d_Model_text_8 : decode prog_9_method_47_code 8 = .ok (.aload_n 0, 1) := by decide +kernel
theorem d_Model_text_9 : decode prog_9_method_47_code 9 = .ok (.getfield 88, 3) := by decide +kernel
theorem d_Model_text_12 : decode prog_9_method_47_code 12 = .ok (.if_icmp .ge 43, 3) := by decide +kernel
