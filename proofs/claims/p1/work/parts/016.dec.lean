theorem dX9_sortBy_43 : decode cX9_sortBy 43 = .ok (.goto 19, 3) := by decide +kernel
theorem dX9_sortBy_46 : decode cX9_sortBy 46 = .ok (.aload_n 0, 1) := by decide +kernel
theorem dX9_sortBy_47 : decode cX9_sortBy 47 = .ok (.getfield 48, 3) := by decide +kernel
theorem dX9_sortBy_50 : decode cX9_sortBy 50 = .ok (.iload_n 2, 1) := by decide +kernel
theorem dX9_sortBy_51 : decode cX9_sortBy 51 = .ok (.aload_n 0, 1) := by decide +kernel
theorem dX9_sortBy_52 : decode cX9_sortBy 52 = .ok (.getfield 45, 3) := by decide +kernel
theorem dX9_sortBy_55 : decode cX9_sortBy 55 = .ok (.iload 4, 2) := by decide +kernel
theorem dX9_sortBy_57 : decode cX9_sortBy 57 = .ok (.iaload, 1) := by decide +kernel
theorem dX9_sortBy_58 : decode cX9_sortBy 58 = .ok (.iastore, 1) := by decide +kernel
theorem dX9_sortBy_59 : decode cX9_sortBy 59 = .ok (.iinc 2 1, 3) := by decide +kernel
theorem dX9_sortBy_62 : decode cX9_sortBy 62 = .ok (.iinc 4 1, 3) := by decide +kernel
theorem dX9_sortBy_65 : decode cX9_sortBy 65 = .ok (.goto (-52), 3) := by decide +kernel
theorem dX9_sortBy_68 : decode cX9_sortBy 68 = .ok (.iinc 3 1, 3) := by decide +kernel
theorem dX9_sortBy_71 : decode cX9_sortBy 71 = .ok (.goto (-67), 3) := by decide +kernel
theorem dX9_sortBy_74 : decode cX9_sortBy 74 = .ok (.iconst 0, 1) := by decide +kernel
theorem dX9_sortBy_75 : decode cX9_sortBy 75 = .ok (.istore_n 3, 1) := by decide +kernel
theorem dX9_sortBy_76 : decode cX9_sortBy 76 = .ok (.iload_n 3, 1) := by decide +kernel
theorem dX9_sortBy_77 : decode cX9_sortBy 77 = .ok (.aload_n 0, 1) := by decide +kernel
theorem dX9_sortBy_78 : decode cX9_sortBy 78 = .ok (.getfield 125, 3) := by decide +kernel
theorem dX9_sortBy_81 : decode cX9_sortBy 81 = .ok (.if_icmp .ge 21, 3) := by decide +kernel
theorem dX9_sortBy_84 : decode cX9_sortBy 84 = .ok (.aload_n 0, 1) := by decide +kernel
theorem dX9_sortBy_85 : decode cX9_sortBy 85 = .ok (.getfield 45, 3) := by decide +kernel
theorem dX9_sortBy_88 : decode cX9_sortBy 88 = .ok (.iload_n 3, 1) := by decide +kernel
theorem dX9_sortBy_89 : decode cX9_sortBy 89 = .ok (.aload_n 0, 1) := by decide +kernel
theorem dX9_sortBy_90 : decode cX9_sortBy 90 = .ok (.getfield 48, 3) := by decide +kernel
theorem dX9_sortBy_93 : decode cX9_sortBy 93 = .ok (.iload_n 3, 1) := by decide +kernel
theorem dX9_sortBy_94 : decode cX9_sortBy 94 = .ok (.iaload, 1) := by decide +kernel
theorem dX9_sortBy_95 : decode cX9_sortBy 95 = .ok (.iastore, 1) := by decide +kernel
theorem dX9_sortBy_96 : decode cX9_sortBy 96 = .ok (.iinc 3 1, 3) := by decide +kernel
theorem dX9_sortBy_99 : decode cX9_sortBy 99 = .ok (.goto (-23), 3) := by decide +kernel
theorem dX9_sortBy_102 : decode cX9_sortBy 102 = .ok (.return_, 1) := by decide +kernel
theorem dX9_solutions_0 : decode cX9_solutions 0 = .ok (.aload_n 0, 1) := by decide +kernel
theorem dX9_solutions_1 : decode cX9_solutions 1 = .ok (.invokevirtual 119, 3) := by decide +kernel
theorem dX9_solutions_4 : decode cX9_solutions 4 = .ok (.aload_n 0, 1) := by decide +kernel
theorem dX9_solutions_5 : decode cX9_solutions 5 = .ok (.bipush (-2), 2) := by decide +kernel
theorem dX9_solutions_7 : decode cX9_solutions 7 = .ok (.putfield 41, 3) := by decide +kernel
theorem dX9_solutions_10 : decode cX9_solutions 10 = .ok (.aload_n 0, 1) := by decide +kernel
theorem dX9_solutions_11 : decode cX9_solutions 11 = .ok (.aload_n 0, 1) := by decide +kernel
theorem dX9_solutions_12 : decode cX9_solutions 12 = .ok (.getfield 25, 3) := by decide +kernel
theorem dX9_solutions_15 : decode cX9_solutions 15 = .ok (.aload_n 0, 1) := by decide +kernel
theorem dX9_solutions_16 : decode cX9_solutions 16 = .ok (.getfield 65, 3) := by decide +kernel
theorem dX9_solutions_19 : decode cX9_solutions 19 = .ok (.iconst 1, 1) := by decide +kernel
theorem dX9_solutions_20 : decode cX9_solutions 20 = .ok (.invokevirtual 134, 3) := by decide +kernel
theorem dX9_solutions_23 : decode cX9_solutions 23 = .ok (.ifCond .ge 6, 3) := by decide +kernel
theorem dX9_solutions_29 : decode cX9_solutions 29 = .ok (.iconst 0, 1) := by decide +kernel
theorem dX9_solutions_30 : decode cX9_solutions 30 = .ok (.istore_n 1, 1) := by decide +kernel
theorem dX9_solutions_31 : decode cX9_solutions 31 = .ok (.iload_n 1, 1) := by decide +kernel
theorem dX9_solutions_32 : decode cX9_solutions 32 = .ok (.aload_n 0, 1) := by decide +kernel
theorem dX9_solutions_33 : decode cX9_solutions 33 = .ok (.getfield 125, 3) := by decide +kernel
theorem dX9_solutions_36 : decode cX9_solutions 36 = .ok (.if_icmp .ge 16, 3) := by decide +kernel
theorem dX9_solutions_39 : decode cX9_solutions 39 = .ok (.aload_n 0, 1) := by decide +kernel
theorem dX9_solutions_40 : decode cX9_solutions 40 = .ok (.getfield 45, 3) := by decide +kernel
theorem dX9_solutions_43 : decode cX9_solutions 43 = .ok (.iload_n 1, 1) := by decide +kernel
theorem dX9_solutions_44 : decode cX9_solutions 44 = .ok (.iload_n 1, 1) := by decide +kernel
theorem dX9_solutions_45 : decode cX9_solutions 45 = .ok (.iastore, 1) := by decide +kernel
theorem dX9_solutions_46 : decode cX9_solutions 46 = .ok (.iinc 1 1, 3) := by decide +kernel
theorem dX9_solutions_49 : decode cX9_solutions 49 = .ok (.goto (-18), 3) := by decide +kernel
theorem dX9_solutions_52 : decode cX9_solutions 52 = .ok (.bipush 7, 2) := by decide +kernel
theorem dX9_solutions_54 : decode cX9_solutions 54 = .ok (.istore_n 1, 1) := by decide +kernel
theorem dX9_solutions_55 : decode cX9_solutions 55 = .ok (.iload_n 1, 1) := by decide +kernel
theorem dX9_solutions_56 : decode cX9_solutions 56 = .ok (.ifCond .lt 14, 3) := by decide +kernel
theorem dX9_solutions_59 : decode cX9_solutions 59 = .ok (.aload_n 0, 1) := by decide +kernel
theorem dX9_solutions_60 : decode cX9_solutions 60 = .ok (.iload_n 1, 1) := by decide +kernel
theorem dX9_solutions_61 : decode cX9_solutions 61 = .ok (.invokevirtual 138, 3) := by decide +kernel
theorem dX9_solutions_64 : decode cX9_solutions 64 = .ok (.iinc 1 (-1), 3) := by decide +kernel
theorem dX9_solutions_67 : decode cX9_solutions 67 = .ok (.goto (-12), 3) := by decide +kernel
theorem dX9_solutions_70 : decode cX9_solutions 70 = .ok (.aload_n 0, 1) := by decide +kernel
theorem dX9_solutions_71 : decode cX9_solutions 71 = .ok (.aload_n 0, 1) := by decide +kernel
theorem dX9_solutions_72 : decode cX9_solutions 72 = .ok (.getfield 125, 3) := by decide +kernel
theorem dX9_solutions_75 : decode cX9_solutions 75 = .ok (.putfield 41, 3) := by decide +kernel
theorem dX9_solutions_78 : decode cX9_solutions 78 = .ok (.aload_n 0, 1) := by decide +kernel
theorem dX9_solutions_79 : decode cX9_solutions 79 = .ok (.getfield 41, 3) := by decide +kernel
theorem dX9_solutions_82 : decode cX9_solutions 82 = .ok (.ireturn, 1) := by decide +kernel
theorem dX9_value_0 : decode cX9_value 0 = .ok (.iload_n 1, 1) := by decide +kernel
theorem dX9_value_1 : decode cX9_value 1 = .ok (.ifCond .lt 21, 3) := by decide +kernel
theorem dX9_value_4 : decode cX9_value 4 = .ok (.iload_n 1, 1) := by decide +kernel
theorem dX9_value_5 : decode cX9_value 5 = .ok (.aload_n 0, 1) := by decide +kernel
theorem dX9_value_6 : decode cX9_value 6 = .ok (.getfield 41, 3) := by decide +kernel
theorem dX9_value_9 : decode cX9_value 9 = .ok (.if_icmp .ge 13, 3) := by decide +kernel
theorem dX9_value_22 : decode cX9_value 22 = .ok (.iconst (-1), 1) := by decide +kernel
theorem dX9_value_23 : decode cX9_value 23 = .ok (.ireturn, 1) := by decide +kernel
theorem dX7_init_0 : decode cX7_init 0 = .ok (.aload_n 0, 1) := by decide +kernel
theorem dX7_init_1 : decode cX7_init 1 = .ok (.invokespecial 3, 3) := by decide +kernel
theorem dX7_init_4 : decode cX7_init 4 = .ok (.aload_n 0, 1) := by decide +kernel
theorem dX7_init_5 : decode cX7_init 5 = .ok (.bipush 6, 2) := by decide +kernel
theorem dX7_init_7 : decode cX7_init 7 = .ok (.anewarray 9, 3) := by decide +kernel
theorem dX7_init_10 : decode cX7_init 10 = .ok (.putfield 11, 3) := by decide +kernel
theorem dX7_init_13 : decode cX7_init 13 = .ok (.aload_n 0, 1) := by decide +kernel
theorem dX7_init_14 : decode cX7_init 14 = .ok (.new 17, 3) := by decide +kernel
theorem dX7_init_17 : decode cX7_init 17 = .ok (.dup, 1) := by decide +kernel
theorem dX7_init_18 : decode cX7_init 18 = .ok (.invokespecial 19, 3) := by decide +kernel
theorem dX7_init_21 : decode cX7_init 21 = .ok (.putfield 20, 3) := by decide +kernel
theorem dX7_init_24 : decode cX7_init 24 = .ok (.iconst 0, 1) := by decide +kernel
theorem dX7_init_25 : decode cX7_init 25 = .ok (.istore_n 1, 1) := by decide +kernel
theorem dX7_init_26 : decode cX7_init 26 = .ok (.iload_n 1, 1) := by decide +kernel
theorem dX7_init_27 : decode cX7_init 27 = .ok (.bipush 6, 2) := by decide +kernel
theorem dX7_init_29 : decode cX7_init 29 = .ok (.if_icmp .ge 22, 3) := by decide +kernel
theorem dX7_init_32 : decode cX7_init 32 = .ok (.aload_n 0, 1) := by decide +kernel
theorem dX7_init_33 : decode cX7_init 33 = .ok (.getfield 11, 3) := by decide +kernel
theorem dX7_init_36 : decode cX7_init 36 = .ok (.iload_n 1, 1) := by decide +kernel
theorem dX7_init_37 : decode cX7_init 37 = .ok (.new 9, 3) := by decide +kernel
theorem dX7_init_40 : decode cX7_init 40 = .ok (.dup, 1) := by decide +kernel
theorem dX7_init_41 : decode cX7_init 41 = .ok (.invokespecial 24, 3) := by decide +kernel
theorem dX7_init_44 : decode cX7_init 44 = .ok (.aastore, 1) := by decide +kernel
theorem dX7_init_45 : decode cX7_init 45 = .ok (.iinc 1 1, 3) := by decide +kernel
theorem dX7_init_48 : decode cX7_init 48 = .ok (.goto (-22), 3) := by decide +kernel
theorem dX7_init_51 : decode cX7_init 51 = .ok (.return_, 1) := by decide +kernel
theorem dX7_countRows_0 : decode cX7_countRows 0 = .ok (.aload_n 0, 1) := by decide +kernel
theorem dX7_countRows_1 : decode cX7_countRows 1 = .ok (.iconst 0, 1) := by decide +kernel
theorem dX7_countRows_2 : decode cX7_countRows 2 = .ok (.putfield 25, 3) := by decide +kernel
theorem dX7_countRows_5 : decode cX7_countRows 5 = .ok (.aload_n 0, 1) := by decide +kernel
theorem dX7_countRows_6 : decode cX7_countRows 6 = .ok (.aload_n 1, 1) := by decide +kernel
theorem dX7_countRows_7 : decode cX7_countRows 7 = .ok (.aload_n 2, 1) := by decide +kernel
theorem dX7_countRows_8 : decode cX7_countRows 8 = .ok (.aload_n 3, 1) := by decide +kernel
theorem dX7_countRows_9 : decode cX7_countRows 9 = .ok (.invokevirtual 29, 3) := by decide +kernel
theorem dX7_countRows_12 : decode cX7_countRows 12 = .ok (.aload_n 0, 1) := by decide +kernel
theorem dX7_countRows_13 : decode cX7_countRows 13 = .ok (.getfield 33, 3) := by decide +kernel
theorem dX7_countRows_16 : decode cX7_countRows 16 = .ok (.sipush 20000, 3) := by decide +kernel
theorem dX7_countRows_19 : decode cX7_countRows 19 = .ok (.if_icmp .le 8, 3) := by decide +kernel
theorem dX7_countRows_27 : decode cX7_countRows 27 = .ok (.aload_n 0, 1) := by decide +kernel
theorem dX7_countRows_28 : decode cX7_countRows 28 = .ok (.getfield 33, 3) := by decide +kernel
theorem dX7_countRows_31 : decode cX7_countRows 31 = .ok (.ireturn, 1) := by decide +kernel
theorem dX7_collect_0 : decode cX7_collect 0 = .ok (.aload_n 0, 1) := by decide +kernel
theorem dX7_collect_1 : decode cX7_collect 1 = .ok (.iconst 1, 1) := by decide +kernel
theorem dX7_collect_2 : decode cX7_collect 2 = .ok (.putfield 25, 3) := by decide +kernel
theorem dX7_collect_5 : decode cX7_collect 5 = .ok (.aload_n 0, 1) := by decide +kernel
theorem dX7_collect_6 : decode cX7_collect 6 = .ok (.getfield 20, 3) := by decide +kernel
theorem dX7_collect_9 : decode cX7_collect 9 = .ok (.invokevirtual 37, 3) := by decide +kernel
theorem dX7_collect_12 : decode cX7_collect 12 = .ok (.aload_n 0, 1) := by decide +kernel
theorem dX7_collect_13 : decode cX7_collect 13 = .ok (.aload_n 1, 1) := by decide +kernel
theorem dX7_collect_14 : decode cX7_collect 14 = .ok (.aload_n 2, 1) := by decide +kernel
theorem dX7_collect_15 : decode cX7_collect 15 = .ok (.aload_n 3, 1) := by decide +kernel
theorem dX7_collect_16 : decode cX7_collect 16 = .ok (.invokevirtual 29, 3) := by decide +kernel
theorem dX7_collect_19 : decode cX7_collect 19 = .ok (.aload_n 0, 1) := by decide +kernel
theorem dX7_collect_20 : decode cX7_collect 20 = .ok (.getfield 33, 3) := by decide +kernel
theorem dX7_collect_23 : decode cX7_collect 23 = .ok (.sipush 20000, 3) := by decide +kernel
theorem dX7_collect_26 : decode cX7_collect 26 = .ok (.if_icmp .le 6, 3) := by decide +kernel
theorem dX7_collect_32 : decode cX7_collect 32 = .ok (.aload_n 0, 1) := by decide +kernel
theorem dX7_collect_33 : decode cX7_collect 33 = .ok (.getfield 20, 3) := by decide +kernel
theorem dX7_collect_36 : decode cX7_collect 36 = .ok (.invokevirtual 40, 3) := by decide +kernel
theorem dX7_collect_39 : decode cX7_collect 39 = .ok (.aload_n 0, 1) := by decide +kernel
theorem dX7_collect_40 : decode cX7_collect 40 = .ok (.getfield 20, 3) := by decide +kernel
theorem dX7_collect_43 : decode cX7_collect 43 = .ok (.getfield 43, 3) := by decide +kernel
theorem dX7_collect_46 : decode cX7_collect 46 = .ok (.ireturn, 1) := by decide +kernel
theorem dX7_walk_0 : decode cX7_walk 0 = .ok (.iconst 0, 1) := by decide +kernel
theorem dX7_walk_1 : decode cX7_walk 1 = .ok (.istore 4, 2) := by decide +kernel
theorem dX7_walk_3 : decode cX7_walk 3 = .ok (.iconst 0, 1) := by decide +kernel
theorem dX7_walk_4 : decode cX7_walk 4 = .ok (.istore 5, 2) := by decide +kernel
theorem dX7_walk_6 : decode cX7_walk 6 = .ok (.iload 5, 2) := by decide +kernel
theorem dX7_walk_8 : decode cX7_walk 8 = .ok (.aload_n 1, 1) := by decide +kernel
theorem dX7_walk_9 : decode cX7_walk 9 = .ok (.getfield 46, 3) := by decide +kernel
theorem dX7_walk_12 : decode cX7_walk 12 = .ok (.if_icmp .ge 46, 3) := by decide +kernel
theorem dX7_walk_58 : decode cX7_walk 58 = .ok (.aload_n 0, 1) := by decide +kernel
theorem dX7_walk_59 : decode cX7_walk 59 = .ok (.aload_n 1, 1) := by decide +kernel
theorem dX7_walk_60 : decode cX7_walk 60 = .ok (.getfield 46, 3) := by decide +kernel
theorem dX7_walk_63 : decode cX7_walk 63 = .ok (.putfield 70, 3) := by decide +kernel
theorem dX7_walk_66 : decode cX7_walk 66 = .ok (.aload_n 0, 1) := by decide +kernel
theorem dX7_walk_67 : decode cX7_walk 67 = .ok (.iconst 0, 1) := by decide +kernel
theorem dX7_walk_68 : decode cX7_walk 68 = .ok (.putfield 33, 3) := by decide +kernel
theorem dX7_walk_71 : decode cX7_walk 71 = .ok (.aload_n 0, 1) := by decide +kernel
