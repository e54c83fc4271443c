theorem dX9_join_193 : decode cX9_join 193 = .ok (.iconst (-1), 1) := by decide +kernel
theorem dX9_join_194 : decode cX9_join 194 = .ok (.iastore, 1) := by decide +kernel
theorem dX9_join_195 : decode cX9_join 195 = .ok (.goto (-133), 3) := by decide +kernel
theorem dX9_join_198 : decode cX9_join 198 = .ok (.iload_n 3, 1) := by decide +kernel
theorem dX9_join_199 : decode cX9_join 199 = .ok (.ifCond .eq (-137), 3) := by decide +kernel
theorem dX9_join_202 : decode cX9_join 202 = .ok (.aload_n 0, 1) := by decide +kernel
theorem dX9_join_203 : decode cX9_join 203 = .ok (.invokevirtual 128, 3) := by decide +kernel
theorem dX9_join_206 : decode cX9_join 206 = .ok (.goto (-144), 3) := by decide +kernel
theorem dX9_join_209 : decode cX9_join 209 = .ok (.iload 4, 2) := by decide +kernel
theorem dX9_join_211 : decode cX9_join 211 = .ok (.ireturn, 1) := by decide +kernel
theorem dX9_rows_0 : decode cX9_rows 0 = .ok (.aload_n 0, 1) := by decide +kernel
theorem dX9_rows_1 : decode cX9_rows 1 = .ok (.aload_n 0, 1) := by decide +kernel
theorem dX9_rows_2 : decode cX9_rows 2 = .ok (.getfield 16, 3) := by decide +kernel
theorem dX9_rows_5 : decode cX9_rows 5 = .ok (.aload_n 0, 1) := by decide +kernel
theorem dX9_rows_6 : decode cX9_rows 6 = .ok (.getfield 68, 3) := by decide +kernel
theorem dX9_rows_9 : decode cX9_rows 9 = .ok (.iconst 0, 1) := by decide +kernel
theorem dX9_rows_10 : decode cX9_rows 10 = .ok (.invokevirtual 134, 3) := by decide +kernel
theorem dX9_rows_13 : decode cX9_rows 13 = .ok (.istore_n 1, 1) := by decide +kernel
theorem dX9_rows_14 : decode cX9_rows 14 = .ok (.iload_n 1, 1) := by decide +kernel
theorem dX9_rows_15 : decode cX9_rows 15 = .ok (.ifCond .ge 8, 3) := by decide +kernel
theorem dX9_rows_18 : decode cX9_rows 18 = .ok (.bipush (-2), 2) := by decide +kernel
theorem dX9_rows_20 : decode cX9_rows 20 = .ok (.goto 4, 3) := by decide +kernel
theorem dX9_rows_23 : decode cX9_rows 23 = .ok (.iload_n 1, 1) := by decide +kernel
theorem dX9_rows_24 : decode cX9_rows 24 = .ok (.ireturn, 1) := by decide +kernel
theorem dX9_sortBy_0 : decode cX9_sortBy 0 = .ok (.iconst 0, 1) := by decide +kernel
theorem dX9_sortBy_1 : decode cX9_sortBy 1 = .ok (.istore_n 2, 1) := by decide +kernel
theorem dX9_sortBy_2 : decode cX9_sortBy 2 = .ok (.iconst 0, 1) := by decide +kernel
theorem dX9_sortBy_3 : decode cX9_sortBy 3 = .ok (.istore_n 3, 1) := by decide +kernel
theorem dX9_sortBy_4 : decode cX9_sortBy 4 = .ok (.iload_n 3, 1) := by decide +kernel
theorem dX9_sortBy_5 : decode cX9_sortBy 5 = .ok (.bipush 64, 2) := by decide +kernel
theorem dX9_sortBy_7 : decode cX9_sortBy 7 = .ok (.if_icmp .ge 67, 3) := by decide +kernel
theorem dX9_sortBy_10 : decode cX9_sortBy 10 = .ok (.iconst 0, 1) := by decide +kernel
theorem dX9_sortBy_11 : decode cX9_sortBy 11 = .ok (.istore 4, 2) := by decide +kernel
theorem dX9_sortBy_13 : decode cX9_sortBy 13 = .ok (.iload 4, 2) := by decide +kernel
theorem dX9_sortBy_15 : decode cX9_sortBy 15 = .ok (.aload_n 0, 1) := by decide +kernel
theorem dX9_sortBy_16 : decode cX9_sortBy 16 = .ok (.getfield 125, 3) := by decide +kernel
theorem dX9_sortBy_19 : decode cX9_sortBy 19 = .ok (.if_icmp .ge 49, 3) := by decide +kernel
theorem dX9_sortBy_22 : decode cX9_sortBy 22 = .ok (.aload_n 0, 1) := by decide +kernel
theorem dX9_sortBy_23 : decode cX9_sortBy 23 = .ok (.getfield 38, 3) := by decide +kernel
theorem dX9_sortBy_26 : decode cX9_sortBy 26 = .ok (.bipush 8, 2) := by decide +kernel
theorem dX9_sortBy_28 : decode cX9_sortBy 28 = .ok (.aload_n 0, 1) := by decide +kernel
theorem dX9_sortBy_29 : decode cX9_sortBy 29 = .ok (.getfield 45, 3) := by decide +kernel
theorem dX9_sortBy_32 : decode cX9_sortBy 32 = .ok (.iload 4, 2) := by decide +kernel
theorem dX9_sortBy_34 : decode cX9_sortBy 34 = .ok (.iaload, 1) := by decide +kernel
theorem dX9_sortBy_35 : decode cX9_sortBy 35 = .ok (.imul, 1) := by decide +kernel
theorem dX9_sortBy_36 : decode cX9_sortBy 36 = .ok (.iload_n 1, 1) := by decide +kernel
theorem dX9_sortBy_37 : decode cX9_sortBy 37 = .ok (.iadd, 1) := by decide +kernel
theorem dX9_sortBy_38 : decode cX9_sortBy 38 = .ok (.iaload, 1) := by decide +kernel
theorem dX9_sortBy_39 : decode cX9_sortBy 39 = .ok (.iload_n 3, 1) := by decide +kernel
theorem dX9_sortBy_40 : decode cX9_sortBy 40 = .ok (.if_icmp .eq 6, 3) := by decide +kernel
theorem dX9_sortBy_43 : decode cX9_sortBy 43 = .ok (.goto 19, 3) := by decide +kernel
theorem dX9_sortBy_46 : decode cX9_sortBy 46 = .ok (.aload_n 0, 1) := by decide +kernel
theorem dX9_sortBy_47 : decode cX9_sortBy 47 = .ok (.getfield 48, 3) := by decide +kernel
theorem dX9_sortBy_50 : decode cX9_sortBy 50 = .ok (.iload_n 2, 1) := by decide +kernel
theorem dX9_sortBy_51 : decode cX9_sortBy 51 = .ok (.aload_n 0, 1) := by decide +kernel
theorem dX9_sortBy_52 : decode cX9_sortBy 52 = .ok (.getfield 45, 3) := by decide +kernel
theorem dX9_sortBy_55 : decode cX9_sortBy 55 = .ok (.iload 4, 2) := by decide +kernel
theorem dX9_sortBy_57 : decode cX9_sortBy 57 = .ok (.iaload, 1) := by decide +kernel
theorem dX9_sortBy_58 : decode cX9_sortBy 58 = .ok (.iastore, 1) := by decide +kernel
theorem dX9_sortBy_59 : decode cX9_sortBy 59 = .ok (.iinc 2 1, 3) := by decide +kernel
theorem dX9_sortBy_62 : decode cX9_sortBy 62 = .ok (.iinc 4 1, 3) := by decide +kernel
theorem dX9_sortBy_65 : decode cX9_sortBy 65 = .ok (.goto (-52), 3) := by decide +kernel
theorem dX9_sortBy_68 : decode cX9_sortBy 68 = .ok (.iinc 3 1, 3) := by decide +kernel
theorem dX9_sortBy_71 : decode cX9_sortBy 71 = .ok (.goto (-67), 3) := by decide +kernel
theorem dX9_sortBy_74 : decode cX9_sortBy 74 = .ok (.iconst 0, 1) := by decide +kernel
theorem dX9_sortBy_75 : decode cX9_sortBy 75 = .ok (.istore_n 3, 1) := by decide +kernel
theorem dX9_sortBy_76 : decode cX9_sortBy 76 = .ok (.iload_n 3, 1) := by decide +kernel
theorem dX9_sortBy_77 : decode cX9_sortBy 77 = .ok (.aload_n 0, 1) := by decide +kernel
theorem dX9_sortBy_78 : decode cX9_sortBy 78 = .ok (.getfield 125, 3) := by decide +kernel
theorem dX9_sortBy_81 : decode cX9_sortBy 81 = .ok (.if_icmp .ge 21, 3) := by decide +kernel
theorem dX9_sortBy_84 : decode cX9_sortBy 84 = .ok (.aload_n 0, 1) := by decide +kernel
theorem dX9_sortBy_85 : decode cX9_sortBy 85 = .ok (.getfield 45, 3) := by decide +kernel
theorem dX9_sortBy_88 : decode cX9_sortBy 88 = .ok (.iload_n 3, 1) := by decide +kernel
theorem dX9_sortBy_89 : decode cX9_sortBy 89 = .ok (.aload_n 0, 1) := by decide +kernel
theorem dX9_sortBy_90 : decode cX9_sortBy 90 = .ok (.getfield 48, 3) := by decide +kernel
theorem dX9_sortBy_93 : decode cX9_sortBy 93 = .ok (.iload_n 3, 1) := by decide +kernel
theorem dX9_sortBy_94 : decode cX9_sortBy 94 = .ok (.iaload, 1) := by decide +kernel
theorem dX9_sortBy_95 : decode cX9_sortBy 95 = .ok (.iastore, 1) := by decide +kernel
theorem dX9_sortBy_96 : decode cX9_sortBy 96 = .ok (.iinc 3 1, 3) := by decide +kernel
theorem dX9_sortBy_99 : decode cX9_sortBy 99 = .ok (.goto (-23), 3) := by decide +kernel
theorem dX9_sortBy_102 : decode cX9_sortBy 102 = .ok (.return_, 1) := by decide +kernel
theorem dX9_solutions_0 : decode cX9_solutions 0 = .ok (.aload_n 0, 1) := by decide +kernel
theorem dX9_solutions_1 : decode cX9_solutions 1 = .ok (.invokevirtual 119, 3) := by decide +kernel
theorem dX9_solutions_4 : decode cX9_solutions 4 = .ok (.aload_n 0, 1) := by decide +kernel
theorem dX9_solutions_5 : decode cX9_solutions 5 = .ok (.bipush (-2), 2) := by decide +kernel
theorem dX9_solutions_7 : decode cX9_solutions 7 = .ok (.putfield 41, 3) := by decide +kernel
theorem dX9_solutions_10 : decode cX9_solutions 10 = .ok (.aload_n 0, 1) := by decide +kernel
theorem dX9_solutions_11 : decode cX9_solutions 11 = .ok (.aload_n 0, 1) := by decide +kernel
theorem dX9_solutions_12 : decode cX9_solutions 12 = .ok (.getfield 25, 3) := by decide +kernel
theorem dX9_solutions_15 : decode cX9_solutions 15 = .ok (.aload_n 0, 1) := by decide +kernel
theorem dX9_solutions_16 : decode cX9_solutions 16 = .ok (.getfield 65, 3) := by decide +kernel
theorem dX9_solutions_19 : decode cX9_solutions 19 = .ok (.iconst 1, 1) := by decide +kernel
theorem dX9_solutions_20 : decode cX9_solutions 20 = .ok (.invokevirtual 134, 3) := by decide +kernel
theorem dX9_solutions_23 : decode cX9_solutions 23 = .ok (.ifCond .ge 6, 3) := by decide +kernel
theorem dX9_solutions_26 : decode cX9_solutions 26 = .ok (.bipush (-2), 2) := by decide +kernel
theorem dX9_solutions_28 : decode cX9_solutions 28 = .ok (.ireturn, 1) := by decide +kernel
theorem dX9_solutions_29 : decode cX9_solutions 29 = .ok (.iconst 0, 1) := by decide +kernel
theorem dX9_solutions_30 : decode cX9_solutions 30 = .ok (.istore_n 1, 1) := by decide +kernel
theorem dX9_solutions_31 : decode cX9_solutions 31 = .ok (.iload_n 1, 1) := by decide +kernel
theorem dX9_solutions_32 : decode cX9_solutions 32 = .ok (.aload_n 0, 1) := by decide +kernel
theorem dX9_solutions_33 : decode cX9_solutions 33 = .ok (.getfield 125, 3) := by decide +kernel
theorem dX9_solutions_36 : decode cX9_solutions 36 = .ok (.if_icmp .ge 16, 3) := by decide +kernel
theorem dX9_solutions_39 : decode cX9_solutions 39 = .ok (.aload_n 0, 1) := by decide +kernel
theorem dX9_solutions_40 : decode cX9_solutions 40 = .ok (.getfield 45, 3) := by decide +kernel
theorem dX9_solutions_43 : decode cX9_solutions 43 = .ok (.iload_n 1, 1) := by decide +kernel
theorem dX9_solutions_44 : decode cX9_solutions 44 = .ok (.iload_n 1, 1) := by decide +kernel
theorem dX9_solutions_45 : decode cX9_solutions 45 = .ok (.iastore, 1) := by decide +kernel
theorem dX9_solutions_46 : decode cX9_solutions 46 = .ok (.iinc 1 1, 3) := by decide +kernel
theorem dX9_solutions_49 : decode cX9_solutions 49 = .ok (.goto (-18), 3) := by decide +kernel
theorem dX9_solutions_52 : decode cX9_solutions 52 = .ok (.bipush 7, 2) := by decide +kernel
theorem dX9_solutions_54 : decode cX9_solutions 54 = .ok (.istore_n 1, 1) := by decide +kernel
theorem dX9_solutions_55 : decode cX9_solutions 55 = .ok (.iload_n 1, 1) := by decide +kernel
theorem dX9_solutions_56 : decode cX9_solutions 56 = .ok (.ifCond .lt 14, 3) := by decide +kernel
theorem dX9_solutions_59 : decode cX9_solutions 59 = .ok (.aload_n 0, 1) := by decide +kernel
theorem dX9_solutions_60 : decode cX9_solutions 60 = .ok (.iload_n 1, 1) := by decide +kernel
theorem dX9_solutions_61 : decode cX9_solutions 61 = .ok (.invokevirtual 138, 3) := by decide +kernel
theorem dX9_solutions_64 : decode cX9_solutions 64 = .ok (.iinc 1 (-1), 3) := by decide +kernel
theorem dX9_solutions_67 : decode cX9_solutions 67 = .ok (.goto (-12), 3) := by decide +kernel
theorem dX9_solutions_70 : decode cX9_solutions 70 = .ok (.aload_n 0, 1) := by decide +kernel
theorem dX9_solutions_71 : decode cX9_solutions 71 = .ok (.aload_n 0, 1) := by decide +kernel
theorem dX9_solutions_72 : decode cX9_solutions 72 = .ok (.getfield 125, 3) := by decide +kernel
theorem dX9_solutions_75 : decode cX9_solutions 75 = .ok (.putfield 41, 3) := by decide +kernel
theorem dX9_solutions_78 : decode cX9_solutions 78 = .ok (.aload_n 0, 1) := by decide +kernel
theorem dX9_solutions_79 : decode cX9_solutions 79 = .ok (.getfield 41, 3) := by decide +kernel
theorem dX9_solutions_82 : decode cX9_solutions 82 = .ok (.ireturn, 1) := by decide +kernel
theorem dX9_value_0 : decode cX9_value 0 = .ok (.iload_n 1, 1) := by decide +kernel
theorem dX9_value_1 : decode cX9_value 1 = .ok (.ifCond .lt 21, 3) := by decide +kernel
theorem dX9_value_4 : decode cX9_value 4 = .ok (.iload_n 1, 1) := by decide +kernel
theorem dX9_value_5 : decode cX9_value 5 = .ok (.aload_n 0, 1) := by decide +kernel
theorem dX9_value_6 : decode cX9_value 6 = .ok (.getfield 41, 3) := by decide +kernel
theorem dX9_value_9 : decode cX9_value 9 = .ok (.if_icmp .ge 13, 3) := by decide +kernel
theorem dX9_value_12 : decode cX9_value 12 = .ok (.iload_n 2, 1) := by decide +kernel
theorem dX9_value_13 : decode cX9_value 13 = .ok (.ifCond .ge 9, 3) := by decide +kernel
theorem dX9_value_16 : decode cX9_value 16 = .ok (.iload_n 2, 1) := by decide +kernel
theorem dX9_value_17 : decode cX9_value 17 = .ok (.bipush (-8), 2) := by decide +kernel
theorem dX9_value_19 : decode cX9_value 19 = .ok (.if_icmp .ge 5, 3) := by decide +kernel
theorem dX9_value_22 : decode cX9_value 22 = .ok (.iconst (-1), 1) := by decide +kernel
theorem dX9_value_23 : decode cX9_value 23 = .ok (.ireturn, 1) := by decide +kernel
theorem dX9_value_24 : decode cX9_value 24 = .ok (.iconst 0, 1) := by decide +kernel
theorem dX9_value_25 : decode cX9_value 25 = .ok (.istore_n 3, 1) := by decide +kernel
theorem dX9_value_26 : decode cX9_value 26 = .ok (.iconst 0, 1) := by decide +kernel
theorem dX9_value_27 : decode cX9_value 27 = .ok (.istore 4, 2) := by decide +kernel
theorem dX9_value_29 : decode cX9_value 29 = .ok (.iload 4, 2) := by decide +kernel
theorem dX9_value_31 : decode cX9_value 31 = .ok (.aload_n 0, 1) := by decide +kernel
theorem dX9_value_32 : decode cX9_value 32 = .ok (.getfield 65, 3) := by decide +kernel
theorem dX9_value_35 : decode cX9_value 35 = .ok (.if_icmp .ge 18, 3) := by decide +kernel
theorem dX9_value_38 : decode cX9_value 38 = .ok (.iload_n 3, 1) := by decide +kernel
theorem dX9_value_39 : decode cX9_value 39 = .ok (.aload_n 0, 1) := by decide +kernel
theorem dX9_value_40 : decode cX9_value 40 = .ok (.iload 4, 2) := by decide +kernel
theorem dX9_value_42 : decode cX9_value 42 = .ok (.invokevirtual 88, 3) := by decide +kernel
theorem dX9_value_45 : decode cX9_value 45 = .ok (.ior, 1) := by decide +kernel
theorem dX9_value_46 : decode cX9_value 46 = .ok (.istore_n 3, 1) := by decide +kernel
theorem dX9_value_47 : decode cX9_value 47 = .ok (.iinc 4 1, 3) := by decide +kernel
theorem dX9_value_50 : decode cX9_value 50 = .ok (.goto (-21), 3) := by decide +kernel
theorem dX9_value_53 : decode cX9_value 53 = .ok (.iload_n 3, 1) := by decide +kernel
theorem dX9_value_54 : decode cX9_value 54 = .ok (.iload_n 2, 1) := by decide +kernel
theorem dX9_value_55 : decode cX9_value 55 = .ok (.invokestatic 82, 3) := by decide +kernel
theorem dX9_value_58 : decode cX9_value 58 = .ok (.iand, 1) := by decide +kernel
theorem dX9_value_59 : decode cX9_value 59 = .ok (.ifCond .ne 7, 3) := by decide +kernel
theorem dX9_value_62 : decode cX9_value 62 = .ok (.iconst (-1), 1) := by decide +kernel
