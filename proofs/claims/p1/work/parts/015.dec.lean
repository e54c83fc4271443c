theorem dX9_choose_66 : decode cX9_choose 66 = .ok (.lstore_n 2, 1) := by decide +kernel
theorem dX9_choose_67 : decode cX9_choose 67 = .ok (.aload_n 0, 1) := by decide +kernel
theorem dX9_choose_68 : decode cX9_choose 68 = .ok (.getfield 107, 3) := by decide +kernel
theorem dX9_choose_71 : decode cX9_choose 71 = .ok (.lconst 0, 1) := by decide +kernel
theorem dX9_choose_72 : decode cX9_choose 72 = .ok (.lcmp, 1) := by decide +kernel
theorem dX9_choose_73 : decode cX9_choose 73 = .ok (.ifCond .lt 12, 3) := by decide +kernel
theorem dX9_choose_85 : decode cX9_choose 85 = .ok (.aload_n 0, 1) := by decide +kernel
theorem dX9_choose_86 : decode cX9_choose 86 = .ok (.lload_n 2, 1) := by decide +kernel
theorem dX9_choose_87 : decode cX9_choose 87 = .ok (.putfield 107, 3) := by decide +kernel
theorem dX9_choose_90 : decode cX9_choose 90 = .ok (.iconst 0, 1) := by decide +kernel
theorem dX9_choose_91 : decode cX9_choose 91 = .ok (.istore 4, 2) := by decide +kernel
theorem dX9_choose_93 : decode cX9_choose 93 = .ok (.iload 4, 2) := by decide +kernel
theorem dX9_choose_95 : decode cX9_choose 95 = .ok (.aload_n 0, 1) := by decide +kernel
theorem dX9_choose_96 : decode cX9_choose 96 = .ok (.getfield 65, 3) := by decide +kernel
theorem dX9_choose_99 : decode cX9_choose 99 = .ok (.if_icmp .ge 23, 3) := by decide +kernel
theorem dX9_choose_122 : decode cX9_choose 122 = .ok (.aload_n 0, 1) := by decide +kernel
theorem dX9_choose_123 : decode cX9_choose 123 = .ok (.invokevirtual 115, 3) := by decide +kernel
theorem dX9_choose_126 : decode cX9_choose 126 = .ok (.istore_n 1, 1) := by decide +kernel
theorem dX9_choose_127 : decode cX9_choose 127 = .ok (.goto (-73), 3) := by decide +kernel
theorem dX9_choose_130 : decode cX9_choose 130 = .ok (.return_, 1) := by decide +kernel
theorem dX9_plan_0 : decode cX9_plan 0 = .ok (.aload_n 0, 1) := by decide +kernel
theorem dX9_plan_1 : decode cX9_plan 1 = .ok (.iload_n 1, 1) := by decide +kernel
theorem dX9_plan_2 : decode cX9_plan 2 = .ok (.invokevirtual 75, 3) := by decide +kernel
theorem dX9_plan_5 : decode cX9_plan 5 = .ok (.ifCond .ne 5, 3) := by decide +kernel
theorem dX9_plan_8 : decode cX9_plan 8 = .ok (.iconst (-1), 1) := by decide +kernel
theorem dX9_plan_9 : decode cX9_plan 9 = .ok (.ireturn, 1) := by decide +kernel
theorem dX9_cost_0 : decode cX9_cost 0 = .ok (.aload_n 0, 1) := by decide +kernel
theorem dX9_cost_1 : decode cX9_cost 1 = .ok (.invokevirtual 119, 3) := by decide +kernel
theorem dX9_cost_4 : decode cX9_cost 4 = .ok (.aload_n 0, 1) := by decide +kernel
theorem dX9_cost_5 : decode cX9_cost 5 = .ok (.getfield 107, 3) := by decide +kernel
theorem dX9_cost_8 : decode cX9_cost 8 = .ok (.lreturn, 1) := by decide +kernel
theorem dX9_use_0 : decode cX9_use 0 = .ok (.aload_n 0, 1) := by decide +kernel
theorem dX9_use_1 : decode cX9_use 1 = .ok (.iload_n 1, 1) := by decide +kernel
theorem dX9_use_2 : decode cX9_use 2 = .ok (.invokevirtual 75, 3) := by decide +kernel
theorem dX9_use_5 : decode cX9_use 5 = .ok (.ifCond .ne 5, 3) := by decide +kernel
theorem dX9_use_8 : decode cX9_use 8 = .ok (.iconst (-1), 1) := by decide +kernel
theorem dX9_use_9 : decode cX9_use 9 = .ok (.ireturn, 1) := by decide +kernel
theorem dX9_drop_0 : decode cX9_drop 0 = .ok (.aload_n 0, 1) := by decide +kernel
theorem dX9_drop_1 : decode cX9_drop 1 = .ok (.getfield 68, 3) := by decide +kernel
theorem dX9_drop_4 : decode cX9_drop 4 = .ok (.istore_n 1, 1) := by decide +kernel
theorem dX9_drop_5 : decode cX9_drop 5 = .ok (.aload_n 0, 1) := by decide +kernel
theorem dX9_drop_6 : decode cX9_drop 6 = .ok (.iconst 0, 1) := by decide +kernel
theorem dX9_drop_7 : decode cX9_drop 7 = .ok (.putfield 68, 3) := by decide +kernel
theorem dX9_drop_10 : decode cX9_drop 10 = .ok (.iload_n 1, 1) := by decide +kernel
theorem dX9_drop_11 : decode cX9_drop 11 = .ok (.ireturn, 1) := by decide +kernel
theorem dX9_size_0 : decode cX9_size 0 = .ok (.iload_n 1, 1) := by decide +kernel
theorem dX9_size_1 : decode cX9_size 1 = .ok (.iconst 1, 1) := by decide +kernel
theorem dX9_size_2 : decode cX9_size 2 = .ok (.if_icmp .lt 11, 3) := by decide +kernel
theorem dX9_size_5 : decode cX9_size 5 = .ok (.iload_n 1, 1) := by decide +kernel
theorem dX9_size_6 : decode cX9_size 6 = .ok (.aload_n 0, 1) := by decide +kernel
theorem dX9_size_7 : decode cX9_size 7 = .ok (.getfield 68, 3) := by decide +kernel
theorem dX9_size_10 : decode cX9_size 10 = .ok (.if_icmp .le 7, 3) := by decide +kernel
theorem dX9_size_13 : decode cX9_size 13 = .ok (.ldc2_w 105, 3) := by decide +kernel
theorem dX9_size_16 : decode cX9_size 16 = .ok (.lreturn, 1) := by decide +kernel
theorem dX9_keep_0 : decode cX9_keep 0 = .ok (.iconst 1, 1) := by decide +kernel
theorem dX9_keep_1 : decode cX9_keep 1 = .ok (.istore_n 1, 1) := by decide +kernel
theorem dX9_keep_2 : decode cX9_keep 2 = .ok (.iload_n 1, 1) := by decide +kernel
theorem dX9_keep_3 : decode cX9_keep 3 = .ok (.bipush 8, 2) := by decide +kernel
theorem dX9_keep_5 : decode cX9_keep 5 = .ok (.if_icmp .gt 44, 3) := by decide +kernel
theorem dX9_keep_8 : decode cX9_keep 8 = .ok (.aload_n 0, 1) := by decide +kernel
theorem dX9_keep_9 : decode cX9_keep 9 = .ok (.getfield 38, 3) := by decide +kernel
theorem dX9_keep_12 : decode cX9_keep 12 = .ok (.bipush 8, 2) := by decide +kernel
theorem dX9_keep_14 : decode cX9_keep 14 = .ok (.aload_n 0, 1) := by decide +kernel
theorem dX9_keep_15 : decode cX9_keep 15 = .ok (.getfield 125, 3) := by decide +kernel
theorem dX9_keep_18 : decode cX9_keep 18 = .ok (.imul, 1) := by decide +kernel
theorem dX9_keep_19 : decode cX9_keep 19 = .ok (.iload_n 1, 1) := by decide +kernel
theorem dX9_keep_20 : decode cX9_keep 20 = .ok (.iadd, 1) := by decide +kernel
theorem dX9_keep_21 : decode cX9_keep 21 = .ok (.iconst 1, 1) := by decide +kernel
theorem dX9_keep_22 : decode cX9_keep 22 = .ok (.isub, 1) := by decide +kernel
theorem dX9_keep_23 : decode cX9_keep 23 = .ok (.aload_n 0, 1) := by decide +kernel
theorem dX9_keep_24 : decode cX9_keep 24 = .ok (.getfield 31, 3) := by decide +kernel
theorem dX9_keep_27 : decode cX9_keep 27 = .ok (.iload_n 1, 1) := by decide +kernel
theorem dX9_keep_28 : decode cX9_keep 28 = .ok (.iaload, 1) := by decide +kernel
theorem dX9_keep_29 : decode cX9_keep 29 = .ok (.ifCond .le 12, 3) := by decide +kernel
theorem dX9_keep_41 : decode cX9_keep 41 = .ok (.iconst 0, 1) := by decide +kernel
theorem dX9_keep_42 : decode cX9_keep 42 = .ok (.iastore, 1) := by decide +kernel
theorem dX9_keep_43 : decode cX9_keep 43 = .ok (.iinc 1 1, 3) := by decide +kernel
theorem dX9_keep_46 : decode cX9_keep 46 = .ok (.goto (-44), 3) := by decide +kernel
theorem dX9_keep_49 : decode cX9_keep 49 = .ok (.aload_n 0, 1) := by decide +kernel
theorem dX9_keep_50 : decode cX9_keep 50 = .ok (.dup, 1) := by decide +kernel
theorem dX9_keep_51 : decode cX9_keep 51 = .ok (.getfield 125, 3) := by decide +kernel
theorem dX9_keep_54 : decode cX9_keep 54 = .ok (.iconst 1, 1) := by decide +kernel
theorem dX9_keep_55 : decode cX9_keep 55 = .ok (.iadd, 1) := by decide +kernel
theorem dX9_keep_56 : decode cX9_keep 56 = .ok (.putfield 125, 3) := by decide +kernel
theorem dX9_keep_59 : decode cX9_keep 59 = .ok (.return_, 1) := by decide +kernel
theorem dX9_join_0 : decode cX9_join 0 = .ok (.iconst 0, 1) := by decide +kernel
theorem dX9_join_1 : decode cX9_join 1 = .ok (.istore 4, 2) := by decide +kernel
theorem dX9_join_3 : decode cX9_join 3 = .ok (.aload_n 0, 1) := by decide +kernel
theorem dX9_join_4 : decode cX9_join 4 = .ok (.iconst 0, 1) := by decide +kernel
theorem dX9_join_5 : decode cX9_join 5 = .ok (.putfield 125, 3) := by decide +kernel
theorem dX9_join_8 : decode cX9_join 8 = .ok (.iconst 0, 1) := by decide +kernel
theorem dX9_join_9 : decode cX9_join 9 = .ok (.istore 5, 2) := by decide +kernel
theorem dX9_join_11 : decode cX9_join 11 = .ok (.iload 5, 2) := by decide +kernel
theorem dX9_join_13 : decode cX9_join 13 = .ok (.bipush 9, 2) := by decide +kernel
theorem dX9_join_15 : decode cX9_join 15 = .ok (.if_icmp .ge 17, 3) := by decide +kernel
theorem dX9_join_18 : decode cX9_join 18 = .ok (.aload_n 0, 1) := by decide +kernel
theorem dX9_join_19 : decode cX9_join 19 = .ok (.getfield 31, 3) := by decide +kernel
theorem dX9_join_22 : decode cX9_join 22 = .ok (.iload 5, 2) := by decide +kernel
theorem dX9_join_24 : decode cX9_join 24 = .ok (.iconst 0, 1) := by decide +kernel
theorem dX9_join_25 : decode cX9_join 25 = .ok (.iastore, 1) := by decide +kernel
theorem dX9_join_26 : decode cX9_join 26 = .ok (.iinc 5 1, 3) := by decide +kernel
theorem dX9_join_29 : decode cX9_join 29 = .ok (.goto (-18), 3) := by decide +kernel
theorem dX9_join_32 : decode cX9_join 32 = .ok (.iload_n 2, 1) := by decide +kernel
theorem dX9_join_33 : decode cX9_join 33 = .ok (.ifCond .ne 11, 3) := by decide +kernel
theorem dX9_join_36 : decode cX9_join 36 = .ok (.iload_n 3, 1) := by decide +kernel
theorem dX9_join_37 : decode cX9_join 37 = .ok (.ifCond .eq 7, 3) := by decide +kernel
theorem dX9_join_40 : decode cX9_join 40 = .ok (.aload_n 0, 1) := by decide +kernel
theorem dX9_join_41 : decode cX9_join 41 = .ok (.invokevirtual 128, 3) := by decide +kernel
theorem dX9_join_44 : decode cX9_join 44 = .ok (.iload_n 2, 1) := by decide +kernel
theorem dX9_join_45 : decode cX9_join 45 = .ok (.ifCond .ne 7, 3) := by decide +kernel
theorem dX9_join_48 : decode cX9_join 48 = .ok (.iconst (-1), 1) := by decide +kernel
theorem dX9_join_49 : decode cX9_join 49 = .ok (.goto 4, 3) := by decide +kernel
theorem dX9_join_53 : decode cX9_join 53 = .ok (.istore 5, 2) := by decide +kernel
theorem dX9_join_55 : decode cX9_join 55 = .ok (.aload_n 0, 1) := by decide +kernel
theorem dX9_join_56 : decode cX9_join 56 = .ok (.getfield 34, 3) := by decide +kernel
theorem dX9_join_59 : decode cX9_join 59 = .ok (.iconst 0, 1) := by decide +kernel
theorem dX9_join_60 : decode cX9_join 60 = .ok (.iconst (-1), 1) := by decide +kernel
theorem dX9_join_61 : decode cX9_join 61 = .ok (.iastore, 1) := by decide +kernel
theorem dX9_join_62 : decode cX9_join 62 = .ok (.iload 5, 2) := by decide +kernel
theorem dX9_join_64 : decode cX9_join 64 = .ok (.ifCond .lt 145, 3) := by decide +kernel
theorem dX9_join_209 : decode cX9_join 209 = .ok (.iload 4, 2) := by decide +kernel
theorem dX9_join_211 : decode cX9_join 211 = .ok (.ireturn, 1) := by decide +kernel
theorem dX9_rows_0 : decode cX9_rows 0 = .ok (.aload_n 0, 1) := by decide +kernel
theorem dX9_rows_1 : decode cX9_rows 1 = .ok (.aload_n 0, 1) := by decide +kernel
theorem dX9_rows_2 : decode cX9_rows 2 = .ok (.getfield 16, 3) := by decide +kernel
theorem dX9_rows_5 : decode cX9_rows 5 = .ok (.aload_n 0, 1) := by decide +kernel
theorem dX9_rows_6 : decode cX9_rows 6 = .ok (.getfield 68, 3) := by decide +kernel
theorem dX9_rows_9 : decode cX9_rows 9 = .ok (.iconst 0, 1) := by decide +kernel
theorem dX9_rows_10 : decode cX9_rows 10 = .ok (.invokevirtual 134, 3) := by decide +kernel
theorem dX9_rows_13 : decode cX9_rows 13 = .ok (.istore_n 1, 1) := by decide +kernel
theorem dX9_rows_14 : decode cX9_rows 14 = .ok (.iload_n 1, 1) := by decide +kernel
theorem dX9_rows_15 : decode cX9_rows 15 = .ok (.ifCond .ge 8, 3) := by decide +kernel
theorem dX9_rows_23 : decode cX9_rows 23 = .ok (.iload_n 1, 1) := by decide +kernel
theorem dX9_rows_24 : decode cX9_rows 24 = .ok (.ireturn, 1) := by decide +kernel
theorem dX9_sortBy_0 : decode cX9_sortBy 0 = .ok (.iconst 0, 1) := by decide +kernel
theorem dX9_sortBy_1 : decode cX9_sortBy 1 = .ok (.istore_n 2, 1) := by decide +kernel
theorem dX9_sortBy_2 : decode cX9_sortBy 2 = .ok (.iconst 0, 1) := by decide +kernel
theorem dX9_sortBy_3 : decode cX9_sortBy 3 = .ok (.istore_n 3, 1) := by decide +kernel
theorem dX9_sortBy_4 : decode cX9_sortBy 4 = .ok (.iload_n 3, 1) := by decide +kernel
theorem dX9_sortBy_5 : decode cX9_sortBy 5 = .ok (.bipush 64, 2) := by decide +kernel
theorem dX9_sortBy_7 : decode cX9_sortBy 7 = .ok (.if_icmp .ge 67, 3) := by decide +kernel
theorem dX9_sortBy_10 : decode cX9_sortBy 10 = .ok (.iconst 0, 1) := by decide +kernel
theorem dX9_sortBy_11 : decode cX9_sortBy 11 = .ok (.istore 4, 2) := by decide +kernel
theorem dX9_sortBy_13 : decode cX9_sortBy 13 = .ok (.iload 4, 2) := by decide +kernel
theorem dX9_sortBy_15 : decode cX9_sortBy 15 = .ok (.aload_n 0, 1) := by decide +kernel
theorem dX9_sortBy_16 : decode cX9_sortBy 16 = .ok (.getfield 125, 3) := by decide +kernel
theorem dX9_sortBy_19 : decode cX9_sortBy 19 = .ok (.if_icmp .ge 49, 3) := by decide +kernel
theorem dX9_sortBy_22 : decode cX9_sortBy 22 = .ok (.aload_n 0, 1) := by decide +kernel
theorem dX9_sortBy_23 : decode cX9_sortBy 23 = .ok (.getfield 38, 3) := by decide +kernel
theorem dX9_sortBy_26 : decode cX9_sortBy 26 = .ok (.bipush 8, 2) := by decide +kernel
theorem dX9_sortBy_28 : decode cX9_sortBy 28 = .ok (.aload_n 0, 1) := by decide +kernel
theorem dX9_sortBy_29 : decode cX9_sortBy 29 = .ok (.getfield 45, 3) := by decide +kernel
theorem dX9_sortBy_32 : decode cX9_sortBy 32 = .ok (.iload 4, 2) := by decide +kernel
theorem dX9_sortBy_34 : decode cX9_sortBy 34 = .ok (.iaload, 1) := by decide +kernel
theorem dX9_sortBy_35 : decode cX9_sortBy 35 = .ok (.imul, 1) := by decide +kernel
theorem dX9_sortBy_36 : decode cX9_sortBy 36 = .ok (.iload_n 1, 1) := by decide +kernel
theorem dX9_sortBy_37 : decode cX9_sortBy 37 = .ok (.iadd, 1) := by decide +kernel
theorem dX9_sortBy_38 : decode cX9_sortBy 38 = .ok (.iaload, 1) := by decide +kernel
theorem dX9_sortBy_39 : decode cX9_sortBy 39 = .ok (.iload_n 3, 1) := by decide +kernel
theorem dX9_sortBy_40 : decode cX9_sortBy 40 = .ok (.if_icmp .eq 6, 3) := by decide +kernel
