theorem dX9_remove_14 : decode cX9_remove 14 = .ok (.iload_n 3, 1) := by decide +kernel
theorem dX9_remove_15 : decode cX9_remove 15 = .ok (.invokestatic 54, 3) := by decide +kernel
theorem dX9_remove_18 : decode cX9_remove 18 = .ok (.ifCond .ne 5, 3) := by decide +kernel
theorem dX9_remove_21 : decode cX9_remove 21 = .ok (.iconst (-1), 1) := by decide +kernel
theorem dX9_remove_22 : decode cX9_remove 22 = .ok (.ireturn, 1) := by decide +kernel
theorem dX9_remove_23 : decode cX9_remove 23 = .ok (.aload_n 0, 1) := by decide +kernel
theorem dX9_remove_24 : decode cX9_remove 24 = .ok (.iload_n 1, 1) := by decide +kernel
theorem dX9_remove_25 : decode cX9_remove 25 = .ok (.iload_n 2, 1) := by decide +kernel
theorem dX9_remove_26 : decode cX9_remove 26 = .ok (.iload_n 3, 1) := by decide +kernel
theorem dX9_remove_27 : decode cX9_remove 27 = .ok (.invokevirtual 58, 3) := by decide +kernel
theorem dX9_remove_30 : decode cX9_remove 30 = .ok (.istore 4, 2) := by decide +kernel
theorem dX9_remove_32 : decode cX9_remove 32 = .ok (.iload 4, 2) := by decide +kernel
theorem dX9_remove_34 : decode cX9_remove 34 = .ok (.ifCond .ge 5, 3) := by decide +kernel
theorem dX9_remove_37 : decode cX9_remove 37 = .ok (.iconst 0, 1) := by decide +kernel
theorem dX9_remove_38 : decode cX9_remove 38 = .ok (.ireturn, 1) := by decide +kernel
theorem dX9_triples_0 : decode cX9_triples 0 = .ok (.aload_n 0, 1) := by decide +kernel
theorem dX9_triples_1 : decode cX9_triples 1 = .ok (.getfield 51, 3) := by decide +kernel
theorem dX9_triples_4 : decode cX9_triples 4 = .ok (.ireturn, 1) := by decide +kernel
theorem dX9_pattern_0 : decode cX9_pattern 0 = .ok (.iload_n 1, 1) := by decide +kernel
theorem dX9_pattern_1 : decode cX9_pattern 1 = .ok (.invokestatic 62, 3) := by decide +kernel
theorem dX9_pattern_4 : decode cX9_pattern 4 = .ok (.ifCond .eq 17, 3) := by decide +kernel
theorem dX9_pattern_7 : decode cX9_pattern 7 = .ok (.iload_n 2, 1) := by decide +kernel
theorem dX9_pattern_8 : decode cX9_pattern 8 = .ok (.invokestatic 62, 3) := by decide +kernel
theorem dX9_pattern_11 : decode cX9_pattern 11 = .ok (.ifCond .eq 10, 3) := by decide +kernel
theorem dX9_pattern_14 : decode cX9_pattern 14 = .ok (.iload_n 3, 1) := by decide +kernel
theorem dX9_pattern_15 : decode cX9_pattern 15 = .ok (.invokestatic 62, 3) := by decide +kernel
theorem dX9_pattern_18 : decode cX9_pattern 18 = .ok (.ifCond .ne 5, 3) := by decide +kernel
theorem dX9_pattern_21 : decode cX9_pattern 21 = .ok (.iconst (-1), 1) := by decide +kernel
theorem dX9_pattern_22 : decode cX9_pattern 22 = .ok (.ireturn, 1) := by decide +kernel
theorem dX9_pattern_23 : decode cX9_pattern 23 = .ok (.aload_n 0, 1) := by decide +kernel
theorem dX9_pattern_24 : decode cX9_pattern 24 = .ok (.getfield 65, 3) := by decide +kernel
theorem dX9_pattern_27 : decode cX9_pattern 27 = .ok (.bipush 6, 2) := by decide +kernel
theorem dX9_pattern_29 : decode cX9_pattern 29 = .ok (.if_icmp .ne 6, 3) := by decide +kernel
theorem dX9_pattern_35 : decode cX9_pattern 35 = .ok (.aload_n 0, 1) := by decide +kernel
theorem dX9_pattern_36 : decode cX9_pattern 36 = .ok (.getfield 13, 3) := by decide +kernel
theorem dX9_pattern_39 : decode cX9_pattern 39 = .ok (.iconst 3, 1) := by decide +kernel
theorem dX9_pattern_40 : decode cX9_pattern 40 = .ok (.aload_n 0, 1) := by decide +kernel
theorem dX9_pattern_41 : decode cX9_pattern 41 = .ok (.getfield 65, 3) := by decide +kernel
theorem dX9_pattern_44 : decode cX9_pattern 44 = .ok (.imul, 1) := by decide +kernel
theorem dX9_pattern_45 : decode cX9_pattern 45 = .ok (.iload_n 1, 1) := by decide +kernel
theorem dX9_pattern_46 : decode cX9_pattern 46 = .ok (.iastore, 1) := by decide +kernel
theorem dX9_pattern_47 : decode cX9_pattern 47 = .ok (.aload_n 0, 1) := by decide +kernel
theorem dX9_pattern_48 : decode cX9_pattern 48 = .ok (.getfield 13, 3) := by decide +kernel
theorem dX9_pattern_51 : decode cX9_pattern 51 = .ok (.iconst 3, 1) := by decide +kernel
theorem dX9_pattern_52 : decode cX9_pattern 52 = .ok (.aload_n 0, 1) := by decide +kernel
theorem dX9_pattern_53 : decode cX9_pattern 53 = .ok (.getfield 65, 3) := by decide +kernel
theorem dX9_pattern_56 : decode cX9_pattern 56 = .ok (.imul, 1) := by decide +kernel
theorem dX9_pattern_57 : decode cX9_pattern 57 = .ok (.iconst 1, 1) := by decide +kernel
theorem dX9_pattern_58 : decode cX9_pattern 58 = .ok (.iadd, 1) := by decide +kernel
theorem dX9_pattern_59 : decode cX9_pattern 59 = .ok (.iload_n 2, 1) := by decide +kernel
theorem dX9_pattern_60 : decode cX9_pattern 60 = .ok (.iastore, 1) := by decide +kernel
theorem dX9_pattern_61 : decode cX9_pattern 61 = .ok (.aload_n 0, 1) := by decide +kernel
theorem dX9_pattern_62 : decode cX9_pattern 62 = .ok (.getfield 13, 3) := by decide +kernel
theorem dX9_pattern_65 : decode cX9_pattern 65 = .ok (.iconst 3, 1) := by decide +kernel
theorem dX9_pattern_66 : decode cX9_pattern 66 = .ok (.aload_n 0, 1) := by decide +kernel
theorem dX9_pattern_67 : decode cX9_pattern 67 = .ok (.getfield 65, 3) := by decide +kernel
theorem dX9_pattern_70 : decode cX9_pattern 70 = .ok (.imul, 1) := by decide +kernel
theorem dX9_pattern_71 : decode cX9_pattern 71 = .ok (.iconst 2, 1) := by decide +kernel
theorem dX9_pattern_72 : decode cX9_pattern 72 = .ok (.iadd, 1) := by decide +kernel
theorem dX9_pattern_73 : decode cX9_pattern 73 = .ok (.iload_n 3, 1) := by decide +kernel
theorem dX9_pattern_74 : decode cX9_pattern 74 = .ok (.iastore, 1) := by decide +kernel
theorem dX9_pattern_75 : decode cX9_pattern 75 = .ok (.aload_n 0, 1) := by decide +kernel
theorem dX9_pattern_76 : decode cX9_pattern 76 = .ok (.dup, 1) := by decide +kernel
theorem dX9_pattern_77 : decode cX9_pattern 77 = .ok (.getfield 65, 3) := by decide +kernel
theorem dX9_pattern_80 : decode cX9_pattern 80 = .ok (.iconst 1, 1) := by decide +kernel
theorem dX9_pattern_81 : decode cX9_pattern 81 = .ok (.iadd, 1) := by decide +kernel
theorem dX9_pattern_82 : decode cX9_pattern 82 = .ok (.putfield 65, 3) := by decide +kernel
theorem dX9_pattern_85 : decode cX9_pattern 85 = .ok (.aload_n 0, 1) := by decide +kernel
theorem dX9_pattern_86 : decode cX9_pattern 86 = .ok (.iconst 0, 1) := by decide +kernel
theorem dX9_pattern_87 : decode cX9_pattern 87 = .ok (.putfield 68, 3) := by decide +kernel
theorem dX9_pattern_90 : decode cX9_pattern 90 = .ok (.aload_n 0, 1) := by decide +kernel
theorem dX9_pattern_91 : decode cX9_pattern 91 = .ok (.bipush (-2), 2) := by decide +kernel
theorem dX9_pattern_93 : decode cX9_pattern 93 = .ok (.putfield 41, 3) := by decide +kernel
theorem dX9_pattern_96 : decode cX9_pattern 96 = .ok (.aload_n 0, 1) := by decide +kernel
theorem dX9_pattern_97 : decode cX9_pattern 97 = .ok (.getfield 65, 3) := by decide +kernel
theorem dX9_pattern_100 : decode cX9_pattern 100 = .ok (.iconst 1, 1) := by decide +kernel
theorem dX9_pattern_101 : decode cX9_pattern 101 = .ok (.isub, 1) := by decide +kernel
theorem dX9_pattern_102 : decode cX9_pattern 102 = .ok (.ireturn, 1) := by decide +kernel
theorem dX9_clear_0 : decode cX9_clear 0 = .ok (.aload_n 0, 1) := by decide +kernel
theorem dX9_clear_1 : decode cX9_clear 1 = .ok (.getfield 65, 3) := by decide +kernel
theorem dX9_clear_4 : decode cX9_clear 4 = .ok (.istore_n 1, 1) := by decide +kernel
theorem dX9_clear_5 : decode cX9_clear 5 = .ok (.aload_n 0, 1) := by decide +kernel
theorem dX9_clear_6 : decode cX9_clear 6 = .ok (.iconst 0, 1) := by decide +kernel
theorem dX9_clear_7 : decode cX9_clear 7 = .ok (.putfield 65, 3) := by decide +kernel
theorem dX9_clear_10 : decode cX9_clear 10 = .ok (.aload_n 0, 1) := by decide +kernel
theorem dX9_clear_11 : decode cX9_clear 11 = .ok (.iconst 0, 1) := by decide +kernel
theorem dX9_clear_12 : decode cX9_clear 12 = .ok (.putfield 68, 3) := by decide +kernel
theorem dX9_clear_15 : decode cX9_clear 15 = .ok (.aload_n 0, 1) := by decide +kernel
theorem dX9_clear_16 : decode cX9_clear 16 = .ok (.bipush (-2), 2) := by decide +kernel
theorem dX9_clear_18 : decode cX9_clear 18 = .ok (.putfield 41, 3) := by decide +kernel
theorem dX9_clear_21 : decode cX9_clear 21 = .ok (.iload_n 1, 1) := by decide +kernel
theorem dX9_clear_22 : decode cX9_clear 22 = .ok (.ireturn, 1) := by decide +kernel
theorem dX9_isPattern_0 : decode cX9_isPattern 0 = .ok (.iload_n 1, 1) := by decide +kernel
theorem dX9_isPattern_1 : decode cX9_isPattern 1 = .ok (.ifCond .lt 15, 3) := by decide +kernel
theorem dX9_isPattern_4 : decode cX9_isPattern 4 = .ok (.iload_n 1, 1) := by decide +kernel
theorem dX9_isPattern_5 : decode cX9_isPattern 5 = .ok (.aload_n 0, 1) := by decide +kernel
theorem dX9_isPattern_6 : decode cX9_isPattern 6 = .ok (.getfield 65, 3) := by decide +kernel
theorem dX9_isPattern_9 : decode cX9_isPattern 9 = .ok (.if_icmp .ge 7, 3) := by decide +kernel
theorem dX9_isPattern_16 : decode cX9_isPattern 16 = .ok (.iconst 0, 1) := by decide +kernel
theorem dX9_isPattern_17 : decode cX9_isPattern 17 = .ok (.ireturn, 1) := by decide +kernel
theorem dX9_estimate_0 : decode cX9_estimate 0 = .ok (.aload_n 0, 1) := by decide +kernel
theorem dX9_estimate_1 : decode cX9_estimate 1 = .ok (.iload_n 1, 1) := by decide +kernel
theorem dX9_estimate_2 : decode cX9_estimate 2 = .ok (.invokevirtual 75, 3) := by decide +kernel
theorem dX9_estimate_5 : decode cX9_estimate 5 = .ok (.ifCond .ne 5, 3) := by decide +kernel
theorem dX9_estimate_8 : decode cX9_estimate 8 = .ok (.iconst (-1), 1) := by decide +kernel
theorem dX9_estimate_9 : decode cX9_estimate 9 = .ok (.ireturn, 1) := by decide +kernel
theorem dX9_costOf_0 : decode cX9_costOf 0 = .ok (.lconst 1, 1) := by decide +kernel
theorem dX9_costOf_1 : decode cX9_costOf 1 = .ok (.lstore_n 2, 1) := by decide +kernel
theorem dX9_costOf_2 : decode cX9_costOf 2 = .ok (.lconst 0, 1) := by decide +kernel
theorem dX9_costOf_3 : decode cX9_costOf 3 = .ok (.lstore 4, 2) := by decide +kernel
theorem dX9_costOf_5 : decode cX9_costOf 5 = .ok (.iconst 0, 1) := by decide +kernel
theorem dX9_costOf_6 : decode cX9_costOf 6 = .ok (.istore 6, 2) := by decide +kernel
theorem dX9_costOf_8 : decode cX9_costOf 8 = .ok (.iconst 0, 1) := by decide +kernel
theorem dX9_costOf_9 : decode cX9_costOf 9 = .ok (.istore 7, 2) := by decide +kernel
theorem dX9_costOf_11 : decode cX9_costOf 11 = .ok (.iload 7, 2) := by decide +kernel
theorem dX9_costOf_13 : decode cX9_costOf 13 = .ok (.aload_n 0, 1) := by decide +kernel
theorem dX9_costOf_14 : decode cX9_costOf 14 = .ok (.getfield 65, 3) := by decide +kernel
theorem dX9_costOf_17 : decode cX9_costOf 17 = .ok (.if_icmp .ge 61, 3) := by decide +kernel
theorem dX9_costOf_78 : decode cX9_costOf 78 = .ok (.lload 4, 2) := by decide +kernel
theorem dX9_costOf_80 : decode cX9_costOf 80 = .ok (.lreturn, 1) := by decide +kernel
theorem dX9_turn_0 : decode cX9_turn 0 = .ok (.aload_n 0, 1) := by decide +kernel
theorem dX9_turn_1 : decode cX9_turn 1 = .ok (.getfield 65, 3) := by decide +kernel
theorem dX9_turn_4 : decode cX9_turn 4 = .ok (.iconst 2, 1) := by decide +kernel
theorem dX9_turn_5 : decode cX9_turn 5 = .ok (.isub, 1) := by decide +kernel
theorem dX9_turn_6 : decode cX9_turn 6 = .ok (.istore_n 1, 1) := by decide +kernel
theorem dX9_turn_7 : decode cX9_turn 7 = .ok (.iload_n 1, 1) := by decide +kernel
theorem dX9_turn_8 : decode cX9_turn 8 = .ok (.ifCond .lt 26, 3) := by decide +kernel
theorem dX9_turn_34 : decode cX9_turn 34 = .ok (.iload_n 1, 1) := by decide +kernel
theorem dX9_turn_35 : decode cX9_turn 35 = .ok (.ifCond .ge 5, 3) := by decide +kernel
theorem dX9_turn_38 : decode cX9_turn 38 = .ok (.iconst 0, 1) := by decide +kernel
theorem dX9_turn_39 : decode cX9_turn 39 = .ok (.ireturn, 1) := by decide +kernel
theorem dX9_choose_0 : decode cX9_choose 0 = .ok (.iconst 0, 1) := by decide +kernel
theorem dX9_choose_1 : decode cX9_choose 1 = .ok (.istore_n 1, 1) := by decide +kernel
theorem dX9_choose_2 : decode cX9_choose 2 = .ok (.iload_n 1, 1) := by decide +kernel
theorem dX9_choose_3 : decode cX9_choose 3 = .ok (.sipush 1536, 3) := by decide +kernel
theorem dX9_choose_6 : decode cX9_choose 6 = .ok (.if_icmp .ge 16, 3) := by decide +kernel
theorem dX9_choose_9 : decode cX9_choose 9 = .ok (.aload_n 0, 1) := by decide +kernel
theorem dX9_choose_10 : decode cX9_choose 10 = .ok (.getfield 19, 3) := by decide +kernel
theorem dX9_choose_13 : decode cX9_choose 13 = .ok (.iload_n 1, 1) := by decide +kernel
theorem dX9_choose_14 : decode cX9_choose 14 = .ok (.iconst (-1), 1) := by decide +kernel
theorem dX9_choose_15 : decode cX9_choose 15 = .ok (.iastore, 1) := by decide +kernel
theorem dX9_choose_16 : decode cX9_choose 16 = .ok (.iinc 1 1, 3) := by decide +kernel
theorem dX9_choose_19 : decode cX9_choose 19 = .ok (.goto (-17), 3) := by decide +kernel
theorem dX9_choose_22 : decode cX9_choose 22 = .ok (.iconst 0, 1) := by decide +kernel
theorem dX9_choose_23 : decode cX9_choose 23 = .ok (.istore_n 1, 1) := by decide +kernel
theorem dX9_choose_24 : decode cX9_choose 24 = .ok (.iload_n 1, 1) := by decide +kernel
theorem dX9_choose_25 : decode cX9_choose 25 = .ok (.aload_n 0, 1) := by decide +kernel
theorem dX9_choose_26 : decode cX9_choose 26 = .ok (.getfield 65, 3) := by decide +kernel
theorem dX9_choose_29 : decode cX9_choose 29 = .ok (.if_icmp .ge 16, 3) := by decide +kernel
theorem dX9_choose_45 : decode cX9_choose 45 = .ok (.aload_n 0, 1) := by decide +kernel
theorem dX9_choose_46 : decode cX9_choose 46 = .ok (.ldc2_w 105, 3) := by decide +kernel
theorem dX9_choose_49 : decode cX9_choose 49 = .ok (.putfield 107, 3) := by decide +kernel
theorem dX9_choose_52 : decode cX9_choose 52 = .ok (.iconst 1, 1) := by decide +kernel
theorem dX9_choose_53 : decode cX9_choose 53 = .ok (.istore_n 1, 1) := by decide +kernel
theorem dX9_choose_54 : decode cX9_choose 54 = .ok (.iload_n 1, 1) := by decide +kernel
theorem dX9_choose_55 : decode cX9_choose 55 = .ok (.ifCond .eq 75, 3) := by decide +kernel
theorem dX9_choose_58 : decode cX9_choose 58 = .ok (.aload_n 0, 1) := by decide +kernel
theorem dX9_choose_59 : decode cX9_choose 59 = .ok (.aload_n 0, 1) := by decide +kernel
theorem dX9_choose_60 : decode cX9_choose 60 = .ok (.getfield 22, 3) := by decide +kernel
theorem dX9_choose_63 : decode cX9_choose 63 = .ok (.invokevirtual 111, 3) := by decide +kernel
