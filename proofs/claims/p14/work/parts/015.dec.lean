theorem dX9_insert_88 : decode cX9_insert 88 = .ok (.aload_n 0, 1) := by decide +kernel
theorem dX9_insert_89 : decode cX9_insert 89 = .ok (.dup, 1) := by decide +kernel
theorem dX9_insert_90 : decode cX9_insert 90 = .ok (.getfield 51, 3) := by decide +kernel
theorem dX9_insert_93 : decode cX9_insert 93 = .ok (.iconst 1, 1) := by decide +kernel
theorem dX9_insert_94 : decode cX9_insert 94 = .ok (.iadd, 1) := by decide +kernel
theorem dX9_insert_95 : decode cX9_insert 95 = .ok (.putfield 51, 3) := by decide +kernel
theorem dX9_insert_98 : decode cX9_insert 98 = .ok (.aload_n 0, 1) := by decide +kernel
theorem dX9_insert_99 : decode cX9_insert 99 = .ok (.bipush (-2), 2) := by decide +kernel
theorem dX9_insert_101 : decode cX9_insert 101 = .ok (.putfield 41, 3) := by decide +kernel
theorem dX9_insert_104 : decode cX9_insert 104 = .ok (.iconst 1, 1) := by decide +kernel
theorem dX9_insert_105 : decode cX9_insert 105 = .ok (.ireturn, 1) := by decide +kernel
theorem dX9_remove_0 : decode cX9_remove 0 = .ok (.iload_n 1, 1) := by decide +kernel
theorem dX9_remove_1 : decode cX9_remove 1 = .ok (.invokestatic 54, 3) := by decide +kernel
theorem dX9_remove_4 : decode cX9_remove 4 = .ok (.ifCond .eq 17, 3) := by decide +kernel
theorem dX9_remove_7 : decode cX9_remove 7 = .ok (.iload_n 2, 1) := by decide +kernel
theorem dX9_remove_8 : decode cX9_remove 8 = .ok (.invokestatic 54, 3) := by decide +kernel
theorem dX9_remove_11 : decode cX9_remove 11 = .ok (.ifCond .eq 10, 3) := by decide +kernel
theorem dX9_remove_14 : decode cX9_remove 14 = .ok (.iload_n 3, 1) := by decide +kernel
theorem dX9_remove_15 : decode cX9_remove 15 = .ok (.invokestatic 54, 3) := by decide +kernel
theorem dX9_remove_18 : decode cX9_remove 18 = .ok (.ifCond .ne 5, 3) := by decide +kernel
theorem dX9_remove_21 : decode cX9_remove 21 = .ok (.iconst (-1), 1) := by decide +kernel
theorem dX9_remove_22 : decode cX9_remove 22 = .ok (.ireturn, 1) := by decide +kernel
theorem dX9_remove_23 : decode cX9_remove 23 = .ok (.aload_n 0, 1) := by decide +kernel
theorem dX9_remove_24 : decode cX9_remove 24 = .ok (.iload_n 1, 1) := by decide +kernel
theorem dX9_remove_25 : decode cX9_remove 25 = .ok (.iload_n 2, 1) := by decide +kernel
theorem dX9_remove_26 : decode cX9_remove 26 = .ok (.iload_n 3, 1) := by decide +kernel
theorem dX9_remove_27 : decode cX9_remove 27 = .ok (.invokevirtual 58, 3) := by decide +kernel
theorem dX9_remove_30 : decode cX9_remove 30 = .ok (.istore 4, 2) := by decide +kernel
theorem dX9_remove_32 : decode cX9_remove 32 = .ok (.iload 4, 2) := by decide +kernel
theorem dX9_remove_34 : decode cX9_remove 34 = .ok (.ifCond .ge 5, 3) := by decide +kernel
theorem dX9_remove_37 : decode cX9_remove 37 = .ok (.iconst 0, 1) := by decide +kernel
theorem dX9_remove_38 : decode cX9_remove 38 = .ok (.ireturn, 1) := by decide +kernel
theorem dX9_remove_39 : decode cX9_remove 39 = .ok (.aload_n 0, 1) := by decide +kernel
theorem dX9_remove_40 : decode cX9_remove 40 = .ok (.dup, 1) := by decide +kernel
theorem dX9_remove_41 : decode cX9_remove 41 = .ok (.getfield 51, 3) := by decide +kernel
theorem dX9_remove_44 : decode cX9_remove 44 = .ok (.iconst 1, 1) := by decide +kernel
theorem dX9_remove_45 : decode cX9_remove 45 = .ok (.isub, 1) := by decide +kernel
theorem dX9_remove_46 : decode cX9_remove 46 = .ok (.putfield 51, 3) := by decide +kernel
theorem dX9_remove_49 : decode cX9_remove 49 = .ok (.iconst 0, 1) := by decide +kernel
theorem dX9_remove_50 : decode cX9_remove 50 = .ok (.istore 5, 2) := by decide +kernel
theorem dX9_remove_52 : decode cX9_remove 52 = .ok (.iload 5, 2) := by decide +kernel
theorem dX9_remove_54 : decode cX9_remove 54 = .ok (.iconst 3, 1) := by decide +kernel
theorem dX9_remove_55 : decode cX9_remove 55 = .ok (.if_icmp .ge 35, 3) := by decide +kernel
theorem dX9_remove_58 : decode cX9_remove 58 = .ok (.aload_n 0, 1) := by decide +kernel
theorem dX9_remove_59 : decode cX9_remove 59 = .ok (.getfield 7, 3) := by decide +kernel
theorem dX9_remove_62 : decode cX9_remove 62 = .ok (.iconst 3, 1) := by decide +kernel
theorem dX9_remove_63 : decode cX9_remove 63 = .ok (.iload 4, 2) := by decide +kernel
theorem dX9_remove_65 : decode cX9_remove 65 = .ok (.imul, 1) := by decide +kernel
theorem dX9_remove_66 : decode cX9_remove 66 = .ok (.iload 5, 2) := by decide +kernel
theorem dX9_remove_68 : decode cX9_remove 68 = .ok (.iadd, 1) := by decide +kernel
theorem dX9_remove_69 : decode cX9_remove 69 = .ok (.aload_n 0, 1) := by decide +kernel
theorem dX9_remove_70 : decode cX9_remove 70 = .ok (.getfield 7, 3) := by decide +kernel
theorem dX9_remove_73 : decode cX9_remove 73 = .ok (.iconst 3, 1) := by decide +kernel
theorem dX9_remove_74 : decode cX9_remove 74 = .ok (.aload_n 0, 1) := by decide +kernel
theorem dX9_remove_75 : decode cX9_remove 75 = .ok (.getfield 51, 3) := by decide +kernel
theorem dX9_remove_78 : decode cX9_remove 78 = .ok (.imul, 1) := by decide +kernel
theorem dX9_remove_79 : decode cX9_remove 79 = .ok (.iload 5, 2) := by decide +kernel
theorem dX9_remove_81 : decode cX9_remove 81 = .ok (.iadd, 1) := by decide +kernel
theorem dX9_remove_82 : decode cX9_remove 82 = .ok (.iaload, 1) := by decide +kernel
theorem dX9_remove_83 : decode cX9_remove 83 = .ok (.iastore, 1) := by decide +kernel
theorem dX9_remove_84 : decode cX9_remove 84 = .ok (.iinc 5 1, 3) := by decide +kernel
theorem dX9_remove_87 : decode cX9_remove 87 = .ok (.goto (-35), 3) := by decide +kernel
theorem dX9_remove_90 : decode cX9_remove 90 = .ok (.aload_n 0, 1) := by decide +kernel
theorem dX9_remove_91 : decode cX9_remove 91 = .ok (.bipush (-2), 2) := by decide +kernel
theorem dX9_remove_93 : decode cX9_remove 93 = .ok (.putfield 41, 3) := by decide +kernel
theorem dX9_remove_96 : decode cX9_remove 96 = .ok (.iconst 1, 1) := by decide +kernel
theorem dX9_remove_97 : decode cX9_remove 97 = .ok (.ireturn, 1) := by decide +kernel
theorem dX9_triples_0 : decode cX9_triples 0 = .ok (.aload_n 0, 1) := by decide +kernel
theorem dX9_triples_1 : decode cX9_triples 1 = .ok (.getfield 51, 3) := by decide +kernel
theorem dX9_triples_4 : decode cX9_triples 4 = .ok (.ireturn, 1) := by decide +kernel
theorem dX9_pattern_0 : decode cX9_pattern 0 = .ok (.iload_n 1, 1) := by decide +kernel
theorem dX9_pattern_1 : decode cX9_pattern 1 = .ok (.invokestatic 62, 3) := by decide +kernel
theorem dX9_pattern_4 : decode cX9_pattern 4 = .ok (.ifCond .eq 17, 3) := by decide +kernel
theorem dX9_pattern_7 : decode cX9_pattern 7 = .ok (.iload_n 2, 1) := by decide +kernel
theorem dX9_pattern_8 : decode cX9_pattern 8 = .ok (.invokestatic 62, 3) := by decide +kernel
theorem dX9_pattern_11 : decode cX9_pattern 11 = .ok (.ifCond .eq 10, 3) := by decide +kernel
theorem dX9_pattern_14 : decode cX9_pattern 14 = .ok (.iload_n 3, 1) := by decide +kernel
theorem dX9_pattern_15 : decode cX9_pattern 15 = .ok (.invokestatic 62, 3) := by decide +kernel
theorem dX9_pattern_18 : decode cX9_pattern 18 = .ok (.ifCond .ne 5, 3) := by decide +kernel
theorem dX9_pattern_21 : decode cX9_pattern 21 = .ok (.iconst (-1), 1) := by decide +kernel
theorem dX9_pattern_22 : decode cX9_pattern 22 = .ok (.ireturn, 1) := by decide +kernel
theorem dX9_pattern_23 : decode cX9_pattern 23 = .ok (.aload_n 0, 1) := by decide +kernel
theorem dX9_pattern_24 : decode cX9_pattern 24 = .ok (.getfield 65, 3) := by decide +kernel
theorem dX9_pattern_27 : decode cX9_pattern 27 = .ok (.bipush 6, 2) := by decide +kernel
theorem dX9_pattern_29 : decode cX9_pattern 29 = .ok (.if_icmp .ne 6, 3) := by decide +kernel
theorem dX9_pattern_32 : decode cX9_pattern 32 = .ok (.bipush (-3), 2) := by decide +kernel
theorem dX9_pattern_34 : decode cX9_pattern 34 = .ok (.ireturn, 1) := by decide +kernel
theorem dX9_pattern_35 : decode cX9_pattern 35 = .ok (.aload_n 0, 1) := by decide +kernel
theorem dX9_pattern_36 : decode cX9_pattern 36 = .ok (.getfield 13, 3) := by decide +kernel
theorem dX9_pattern_39 : decode cX9_pattern 39 = .ok (.iconst 3, 1) := by decide +kernel
theorem dX9_pattern_40 : decode cX9_pattern 40 = .ok (.aload_n 0, 1) := by decide +kernel
theorem dX9_pattern_41 : decode cX9_pattern 41 = .ok (.getfield 65, 3) := by decide +kernel
theorem dX9_pattern_44 : decode cX9_pattern 44 = .ok (.imul, 1) := by decide +kernel
theorem dX9_pattern_45 : decode cX9_pattern 45 = .ok (.iload_n 1, 1) := by decide +kernel
theorem dX9_pattern_46 : decode cX9_pattern 46 = .ok (.iastore, 1) := by decide +kernel
theorem dX9_pattern_47 : decode cX9_pattern 47 = .ok (.aload_n 0, 1) := by decide +kernel
theorem dX9_pattern_48 : decode cX9_pattern 48 = .ok (.getfield 13, 3) := by decide +kernel
theorem dX9_pattern_51 : decode cX9_pattern 51 = .ok (.iconst 3, 1) := by decide +kernel
theorem dX9_pattern_52 : decode cX9_pattern 52 = .ok (.aload_n 0, 1) := by decide +kernel
theorem dX9_pattern_53 : decode cX9_pattern 53 = .ok (.getfield 65, 3) := by decide +kernel
theorem dX9_pattern_56 : decode cX9_pattern 56 = .ok (.imul, 1) := by decide +kernel
theorem dX9_pattern_57 : decode cX9_pattern 57 = .ok (.iconst 1, 1) := by decide +kernel
theorem dX9_pattern_58 : decode cX9_pattern 58 = .ok (.iadd, 1) := by decide +kernel
theorem dX9_pattern_59 : decode cX9_pattern 59 = .ok (.iload_n 2, 1) := by decide +kernel
theorem dX9_pattern_60 : decode cX9_pattern 60 = .ok (.iastore, 1) := by decide +kernel
theorem dX9_pattern_61 : decode cX9_pattern 61 = .ok (.aload_n 0, 1) := by decide +kernel
theorem dX9_pattern_62 : decode cX9_pattern 62 = .ok (.getfield 13, 3) := by decide +kernel
theorem dX9_pattern_65 : decode cX9_pattern 65 = .ok (.iconst 3, 1) := by decide +kernel
theorem dX9_pattern_66 : decode cX9_pattern 66 = .ok (.aload_n 0, 1) := by decide +kernel
theorem dX9_pattern_67 : decode cX9_pattern 67 = .ok (.getfield 65, 3) := by decide +kernel
theorem dX9_pattern_70 : decode cX9_pattern 70 = .ok (.imul, 1) := by decide +kernel
theorem dX9_pattern_71 : decode cX9_pattern 71 = .ok (.iconst 2, 1) := by decide +kernel
theorem dX9_pattern_72 : decode cX9_pattern 72 = .ok (.iadd, 1) := by decide +kernel
theorem dX9_pattern_73 : decode cX9_pattern 73 = .ok (.iload_n 3, 1) := by decide +kernel
theorem dX9_pattern_74 : decode cX9_pattern 74 = .ok (.iastore, 1) := by decide +kernel
theorem dX9_pattern_75 : decode cX9_pattern 75 = .ok (.aload_n 0, 1) := by decide +kernel
theorem dX9_pattern_76 : decode cX9_pattern 76 = .ok (.dup, 1) := by decide +kernel
theorem dX9_pattern_77 : decode cX9_pattern 77 = .ok (.getfield 65, 3) := by decide +kernel
theorem dX9_pattern_80 : decode cX9_pattern 80 = .ok (.iconst 1, 1) := by decide +kernel
theorem dX9_pattern_81 : decode cX9_pattern 81 = .ok (.iadd, 1) := by decide +kernel
theorem dX9_pattern_82 : decode cX9_pattern 82 = .ok (.putfield 65, 3) := by decide +kernel
theorem dX9_pattern_85 : decode cX9_pattern 85 = .ok (.aload_n 0, 1) := by decide +kernel
theorem dX9_pattern_86 : decode cX9_pattern 86 = .ok (.iconst 0, 1) := by decide +kernel
theorem dX9_pattern_87 : decode cX9_pattern 87 = .ok (.putfield 68, 3) := by decide +kernel
theorem dX9_pattern_90 : decode cX9_pattern 90 = .ok (.aload_n 0, 1) := by decide +kernel
theorem dX9_pattern_91 : decode cX9_pattern 91 = .ok (.bipush (-2), 2) := by decide +kernel
theorem dX9_pattern_93 : decode cX9_pattern 93 = .ok (.putfield 41, 3) := by decide +kernel
theorem dX9_pattern_96 : decode cX9_pattern 96 = .ok (.aload_n 0, 1) := by decide +kernel
theorem dX9_pattern_97 : decode cX9_pattern 97 = .ok (.getfield 65, 3) := by decide +kernel
theorem dX9_pattern_100 : decode cX9_pattern 100 = .ok (.iconst 1, 1) := by decide +kernel
theorem dX9_pattern_101 : decode cX9_pattern 101 = .ok (.isub, 1) := by decide +kernel
theorem dX9_pattern_102 : decode cX9_pattern 102 = .ok (.ireturn, 1) := by decide +kernel
theorem dX9_clear_0 : decode cX9_clear 0 = .ok (.aload_n 0, 1) := by decide +kernel
theorem dX9_clear_1 : decode cX9_clear 1 = .ok (.getfield 65, 3) := by decide +kernel
theorem dX9_clear_4 : decode cX9_clear 4 = .ok (.istore_n 1, 1) := by decide +kernel
theorem dX9_clear_5 : decode cX9_clear 5 = .ok (.aload_n 0, 1) := by decide +kernel
theorem dX9_clear_6 : decode cX9_clear 6 = .ok (.iconst 0, 1) := by decide +kernel
theorem dX9_clear_7 : decode cX9_clear 7 = .ok (.putfield 65, 3) := by decide +kernel
theorem dX9_clear_10 : decode cX9_clear 10 = .ok (.aload_n 0, 1) := by decide +kernel
theorem dX9_clear_11 : decode cX9_clear 11 = .ok (.iconst 0, 1) := by decide +kernel
theorem dX9_clear_12 : decode cX9_clear 12 = .ok (.putfield 68, 3) := by decide +kernel
theorem dX9_clear_15 : decode cX9_clear 15 = .ok (.aload_n 0, 1) := by decide +kernel
theorem dX9_clear_16 : decode cX9_clear 16 = .ok (.bipush (-2), 2) := by decide +kernel
theorem dX9_clear_18 : decode cX9_clear 18 = .ok (.putfield 41, 3) := by decide +kernel
theorem dX9_clear_21 : decode cX9_clear 21 = .ok (.iload_n 1, 1) := by decide +kernel
theorem dX9_clear_22 : decode cX9_clear 22 = .ok (.ireturn, 1) := by decide +kernel
theorem dX9_isPattern_0 : decode cX9_isPattern 0 = .ok (.iload_n 1, 1) := by decide +kernel
theorem dX9_isPattern_1 : decode cX9_isPattern 1 = .ok (.ifCond .lt 15, 3) := by decide +kernel
theorem dX9_isPattern_4 : decode cX9_isPattern 4 = .ok (.iload_n 1, 1) := by decide +kernel
theorem dX9_isPattern_5 : decode cX9_isPattern 5 = .ok (.aload_n 0, 1) := by decide +kernel
theorem dX9_isPattern_6 : decode cX9_isPattern 6 = .ok (.getfield 65, 3) := by decide +kernel
theorem dX9_isPattern_9 : decode cX9_isPattern 9 = .ok (.if_icmp .ge 7, 3) := by decide +kernel
theorem dX9_isPattern_12 : decode cX9_isPattern 12 = .ok (.iconst 1, 1) := by decide +kernel
theorem dX9_isPattern_13 : decode cX9_isPattern 13 = .ok (.goto 4, 3) := by decide +kernel
theorem dX9_isPattern_16 : decode cX9_isPattern 16 = .ok (.iconst 0, 1) := by decide +kernel
theorem dX9_isPattern_17 : decode cX9_isPattern 17 = .ok (.ireturn, 1) := by decide +kernel
theorem dX9_hasNumbers_0 : decode cX9_hasNumbers 0 = .ok (.iconst 1, 1) := by decide +kernel
theorem dX9_hasNumbers_1 : decode cX9_hasNumbers 1 = .ok (.istore_n 3, 1) := by decide +kernel
theorem dX9_hasNumbers_2 : decode cX9_hasNumbers 2 = .ok (.iconst 0, 1) := by decide +kernel
theorem dX9_hasNumbers_3 : decode cX9_hasNumbers 3 = .ok (.istore 4, 2) := by decide +kernel
