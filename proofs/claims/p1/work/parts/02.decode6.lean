theorem d_Model_text_55 : decode prog_9_method_47_code 55 = .ok (.aload_n 0, 1) := by decide +kernel
theorem d_Model_text_56 : decode prog_9_method_47_code 56 = .ok (.iconst 0, 1) := by decide +kernel
theorem d_Model_text_57 : decode prog_9_method_47_code 57 = .ok (.putfield 88, 3) := by decide +kernel
theorem d_Model_text_60 : decode prog_9_method_47_code 60 = .ok (.aload_n 0, 1) := by decide +kernel
theorem d_Model_text_61 : decode prog_9_method_47_code 61 = .ok (.invokevirtual 285, 3) := by decide +kernel
theorem d_Model_text_64 : decode prog_9_method_47_code 64 = .ok (.aload_n 0, 1) := by decide +kernel
theorem d_Model_text_65 : decode prog_9_method_47_code 65 = .ok (.getfield 232, 3) := by decide +kernel
theorem d_Model_text_68 : decode prog_9_method_47_code 68 = .ok (.ireturn, 1) := by decide +kernel
theorem d_Model_clear_0 : decode prog_9_method_48_code 0 = .ok (.aload_n 0, 1) := by decide +kernel
theorem d_Model_clear_1 : decode prog_9_method_48_code 1 = .ok (.iconst 0, 1) := by decide +kernel
theorem d_Model_clear_2 : decode prog_9_method_48_code 2 = .ok (.putfield 84, 3) := by decide +kernel
theorem d_Model_clear_5 : decode prog_9_method_48_code 5 = .ok (.aload_n 0, 1) := by decide +kernel
theorem d_Model_clear_6 : decode prog_9_method_48_code 6 = .ok (.iconst 0, 1) := by decide +kernel
theorem d_Model_clear_7 : decode prog_9_method_48_code 7 = .ok (.putfield 232, 3) := by decide +kernel
theorem d_Model_clear_10 : decode prog_9_method_48_code 10 = .ok (.aload_n 0, 1) := by decide +kernel
theorem d_Model_clear_11 : decode prog_9_method_48_code 11 = .ok (.invokevirtual 285, 3) := by decide +kernel
theorem d_Model_clear_14 : decode prog_9_method_48_code 14 = .ok (.return_, 1) := by decide +kernel
theorem d_Model_find_0 : decode prog_9_method_49_code 0 = .ok (.aload_n 0, 1) := by decide +kernel
theorem d_Model_find_1 : decode prog_9_method_49_code 1 = .ok (.aload_n 0, 1) := by decide +kernel
theorem d_Model_find_2 : decode prog_9_method_49_code 2 = .ok (.getfield 129, 3) := by decide +kernel
theorem d_Model_find_5 : decode prog_9_method_49_code 5 = .ok (.ifCond .ne 7, 3) := by decide +kernel
theorem d_Model_find_8 : decode prog_9_method_49_code 8 = .ok (.iconst 1, 1) := by decide +kernel
theorem d_Model_find_9 : decode prog_9_method_49_code 9 = .ok (.goto 20, 3) := by decide +kernel
theorem d_Model_find_29 : decode prog_9_method_49_code 29 = .ok (.invokevirtual 279, 3) := by decide +kernel
theorem d_Model_find_32 : decode prog_9_method_49_code 32 = .ok (.ifCond .eq 5, 3) := by decide +kernel
theorem d_Model_find_35 : decode prog_9_method_49_code 35 = .ok (.iconst 0, 1) := by decide +kernel
theorem d_Model_find_36 : decode prog_9_method_49_code 36 = .ok (.ireturn, 1) := by decide +kernel
theorem d_Model_matches_0 : decode prog_9_method_50_code 0 = .ok (.aload_n 0, 1) := by decide +kernel
theorem d_Model_matches_1 : decode prog_9_method_50_code 1 = .ok (.aload_n 0, 1) := by decide +kernel
theorem d_Model_matches_2 : decode prog_9_method_50_code 2 = .ok (.getfield 129, 3) := by decide +kernel
theorem d_Model_matches_5 : decode prog_9_method_50_code 5 = .ok (.ifCond .ne 7, 3) := by decide +kernel
theorem d_Model_matches_8 : decode prog_9_method_50_code 8 = .ok (.iconst 1, 1) := by decide +kernel
theorem d_Model_matches_9 : decode prog_9_method_50_code 9 = .ok (.goto 4, 3) := by decide +kernel
theorem d_Model_matches_13 : decode prog_9_method_50_code 13 = .ok (.invokevirtual 279, 3) := by decide +kernel
theorem d_Model_matches_16 : decode prog_9_method_50_code 16 = .ok (.ifCond .eq 5, 3) := by decide +kernel
theorem d_Model_matches_19 : decode prog_9_method_50_code 19 = .ok (.iconst 0, 1) := by decide +kernel
theorem d_Model_matches_20 : decode prog_9_method_50_code 20 = .ok (.ireturn, 1) := by decide +kernel
theorem d_Model_group_0 : decode prog_9_method_51_code 0 = .ok (.aload_n 0, 1) := by decide +kernel
theorem d_Model_group_1 : decode prog_9_method_51_code 1 = .ok (.aload_n 0, 1) := by decide +kernel
theorem d_Model_group_2 : decode prog_9_method_51_code 2 = .ok (.getfield 272, 3) := by decide +kernel
theorem d_Model_group_5 : decode prog_9_method_51_code 5 = .ok (.ifCond .ne 7, 3) := by decide +kernel
theorem d_Model_group_8 : decode prog_9_method_51_code 8 = .ok (.iconst 1, 1) := by decide +kernel
theorem d_Model_group_9 : decode prog_9_method_51_code 9 = .ok (.goto 20, 3) := by decide +kernel
theorem d_Model_group_29 : decode prog_9_method_51_code 29 = .ok (.invokevirtual 279, 3) := by decide +kernel
theorem d_Model_group_32 : decode prog_9_method_51_code 32 = .ok (.ifCond .eq 5, 3) := by decide +kernel
theorem d_Model_group_35 : decode prog_9_method_51_code 35 = .ok (.iconst 0, 1) := by decide +kernel
theorem d_Model_group_36 : decode prog_9_method_51_code 36 = .ok (.ireturn, 1) := by decide +kernel
theorem d_Model_count_0 : decode prog_9_method_53_code 0 = .ok (.aload_n 0, 1) := by decide +kernel
theorem d_Model_count_1 : decode prog_9_method_53_code 1 = .ok (.aload_n 0, 1) := by decide +kernel
theorem d_Model_count_2 : decode prog_9_method_53_code 2 = .ok (.getfield 129, 3) := by decide +kernel
theorem d_Model_count_5 : decode prog_9_method_53_code 5 = .ok (.ifCond .ne 7, 3) := by decide +kernel
theorem d_Model_count_8 : decode prog_9_method_53_code 8 = .ok (.iconst 1, 1) := by decide +kernel
theorem d_Model_count_9 : decode prog_9_method_53_code 9 = .ok (.goto 4, 3) := by decide +kernel
theorem d_Model_count_13 : decode prog_9_method_53_code 13 = .ok (.invokevirtual 279, 3) := by decide +kernel
theorem d_Model_count_16 : decode prog_9_method_53_code 16 = .ok (.ifCond .eq 5, 3) := by decide +kernel
theorem d_Model_count_19 : decode prog_9_method_53_code 19 = .ok (.iconst 0, 1) := by decide +kernel
theorem d_Model_count_20 : decode prog_9_method_53_code 20 = .ok (.ireturn, 1) := by decide +kernel
theorem d_Model_replace_0 : decode prog_9_method_57_code 0 = .ok (.aload_n 0, 1) := by decide +kernel
theorem d_Model_replace_1 : decode prog_9_method_57_code 1 = .ok (.aload_n 0, 1) := by decide +kernel
theorem d_Model_replace_2 : decode prog_9_method_57_code 2 = .ok (.getfield 129, 3) := by decide +kernel
theorem d_Model_replace_5 : decode prog_9_method_57_code 5 = .ok (.ifCond .ne 7, 3) := by decide +kernel
theorem d_Model_replace_8 : decode prog_9_method_57_code 8 = .ok (.iconst 1, 1) := by decide +kernel
theorem d_Model_replace_9 : decode prog_9_method_57_code 9 = .ok (.goto 15, 3) := by decide +kernel
theorem d_Model_replace_24 : decode prog_9_method_57_code 24 = .ok (.invokevirtual 279, 3) := by decide +kernel
theorem d_Model_replace_27 : decode prog_9_method_57_code 27 = .ok (.ifCond .eq 5, 3) := by decide +kernel
theorem d_Model_replace_30 : decode prog_9_method_57_code 30 = .ok (.iconst 0, 1) := by decide +kernel
theorem d_Model_replace_31 : decode prog_9_method_57_code 31 = .ok (.ireturn, 1) := by decide +kernel
theorem d_Model_piece_0 : decode prog_9_method_58_code 0 = .ok (.aload_n 0, 1) := by decide +kernel
theorem d_Model_piece_1 : decode prog_9_method_58_code 1 = .ok (.aload_n 0, 1) := by decide +kernel
theorem d_Model_piece_2 : decode prog_9_method_58_code 2 = .ok (.getfield 129, 3) := by decide +kernel
theorem d_Model_piece_5 : decode prog_9_method_58_code 5 = .ok (.ifCond .ne 7, 3) := by decide +kernel
theorem d_Model_piece_8 : decode prog_9_method_58_code 8 = .ok (.iconst 1, 1) := by decide +kernel
theorem d_Model_piece_9 : decode prog_9_method_58_code 9 = .ok (.goto 4, 3) := by decide +kernel
theorem d_Model_piece_13 : decode prog_9_method_58_code 13 = .ok (.invokevirtual 279, 3) := by decide +kernel
theorem d_Model_piece_16 : decode prog_9_method_58_code 16 = .ok (.ifCond .eq 5, 3) := by decide +kernel
theorem d_Model_piece_19 : decode prog_9_method_58_code 19 = .ok (.iconst 0, 1) := by decide +kernel
theorem d_Model_piece_20 : decode prog_9_method_58_code 20 = .ok (.ireturn, 1) := by decide +kernel
theorem d_Model_character_0 : decode prog_9_method_59_code 0 = .ok (.aload_n 0, 1) := by decide +kernel
theorem d_Model_character_1 : decode prog_9_method_59_code 1 = .ok (.iconst 0, 1) := by decide +kernel
theorem d_Model_character_2 : decode prog_9_method_59_code 2 = .ok (.putfield 84, 3) := by decide +kernel
theorem d_Model_character_5 : decode prog_9_method_59_code 5 = .ok (.iload_n 1, 1) := by decide +kernel
theorem d_Model_character_6 : decode prog_9_method_59_code 6 = .ok (.ifCond .lt 11, 3) := by decide +kernel
theorem d_Model_character_9 : decode prog_9_method_59_code 9 = .ok (.iload_n 1, 1) := by decide +kernel
theorem d_Model_character_10 : decode prog_9_method_59_code 10 = .ok (.aload_n 0, 1) := by decide +kernel
theorem d_Model_character_11 : decode prog_9_method_59_code 11 = .ok (.getfield 232, 3) := by decide +kernel
theorem d_Model_character_14 : decode prog_9_method_59_code 14 = .ok (.if_icmp .lt 7, 3) := by decide +kernel
theorem d_Model_character_17 : decode prog_9_method_59_code 17 = .ok (.iconst (-1), 1) := by decide +kernel
theorem d_Model_character_18 : decode prog_9_method_59_code 18 = .ok (.goto 9, 3) := by decide +kernel
theorem d_Model_character_27 : decode prog_9_method_59_code 27 = .ok (.ireturn, 1) := by decide +kernel
theorem d_Model_look_0 : decode prog_9_method_60_code 0 = .ok (.aload_n 0, 1) := by decide +kernel
theorem d_Model_look_1 : decode prog_9_method_60_code 1 = .ok (.iconst 0, 1) := by decide +kernel
theorem d_Model_look_2 : decode prog_9_method_60_code 2 = .ok (.putfield 84, 3) := by decide +kernel
theorem d_Model_look_5 : decode prog_9_method_60_code 5 = .ok (.iload_n 1, 1) := by decide +kernel
theorem d_Model_look_6 : decode prog_9_method_60_code 6 = .ok (.ifCond .ne 10, 3) := by decide +kernel
theorem d_Model_look_9 : decode prog_9_method_60_code 9 = .ok (.aload_n 0, 1) := by decide +kernel
theorem d_Model_look_10 : decode prog_9_method_60_code 10 = .ok (.getfield 282, 3) := by decide +kernel
theorem d_Model_look_13 : decode prog_9_method_60_code 13 = .ok (.goto 48, 3) := by decide +kernel
theorem d_Model_look_16 : decode prog_9_method_60_code 16 = .ok (.iload_n 1, 1) := by decide +kernel
theorem d_Model_look_17 : decode prog_9_method_60_code 17 = .ok (.iconst 1, 1) := by decide +kernel
theorem d_Model_look_18 : decode prog_9_method_60_code 18 = .ok (.if_icmp .ne 10, 3) := by decide +kernel
theorem d_Model_look_21 : decode prog_9_method_60_code 21 = .ok (.aload_n 0, 1) := by decide +kernel
theorem d_Model_look_22 : decode prog_9_method_60_code 22 = .ok (.getfield 88, 3) := by decide +kernel
theorem d_Model_look_25 : decode prog_9_method_60_code 25 = .ok (.goto 36, 3) := by decide +kernel
theorem d_Model_look_28 : decode prog_9_method_60_code 28 = .ok (.iload_n 1, 1) := by decide +kernel
theorem d_Model_look_29 : decode prog_9_method_60_code 29 = .ok (.iconst 2, 1) := by decide +kernel
theorem d_Model_look_30 : decode prog_9_method_60_code 30 = .ok (.if_icmp .ne 10, 3) := by decide +kernel
theorem d_Model_look_33 : decode prog_9_method_60_code 33 = .ok (.aload_n 0, 1) := by decide +kernel
theorem d_Model_look_34 : decode prog_9_method_60_code 34 = .ok (.getfield 232, 3) := by decide +kernel
theorem d_Model_look_37 : decode prog_9_method_60_code 37 = .ok (.goto 24, 3) := by decide +kernel
theorem d_Model_look_40 : decode prog_9_method_60_code 40 = .ok (.iload_n 1, 1) := by decide +kernel
theorem d_Model_look_41 : decode prog_9_method_60_code 41 = .ok (.iconst 3, 1) := by decide +kernel
theorem d_Model_look_42 : decode prog_9_method_60_code 42 = .ok (.if_icmp .ne 18, 3) := by decide +kernel
theorem d_Model_look_45 : decode prog_9_method_60_code 45 = .ok (.aload_n 0, 1) := by decide +kernel
theorem d_Model_look_46 : decode prog_9_method_60_code 46 = .ok (.getfield 272, 3) := by decide +kernel
theorem d_Model_look_49 : decode prog_9_method_60_code 49 = .ok (.ifCond .eq 7, 3) := by decide +kernel
theorem d_Model_look_56 : decode prog_9_method_60_code 56 = .ok (.iconst 0, 1) := by decide +kernel
theorem d_Model_look_57 : decode prog_9_method_60_code 57 = .ok (.goto 4, 3) := by decide +kernel
theorem d_Model_look_60 : decode prog_9_method_60_code 60 = .ok (.iconst (-1), 1) := by decide +kernel
theorem d_Model_look_61 : decode prog_9_method_60_code 61 = .ok (.ireturn, 1) := by decide +kernel
theorem d_Model_beginPattern_0 : decode prog_9_method_17_code 0 = .ok (.aload_n 0, 1) := by decide +kernel
