theorem dX0_estimate_17 : decode cX0_estimate 17 = .ok (.aload_n 0, 1) := by decide +kernel
theorem dX0_estimate_18 : decode cX0_estimate 18 = .ok (.getfield 10, 3) := by decide +kernel
theorem dX0_estimate_21 : decode cX0_estimate 21 = .ok (.invokevirtual 82, 3) := by decide +kernel
theorem dX0_estimate_24 : decode cX0_estimate 24 = .ok (.aload_n 0, 1) := by decide +kernel
theorem dX0_estimate_25 : decode cX0_estimate 25 = .ok (.getfield 19, 3) := by decide +kernel
theorem dX0_estimate_28 : decode cX0_estimate 28 = .ok (.iload_n 1, 1) := by decide +kernel
theorem dX0_estimate_29 : decode cX0_estimate 29 = .ok (.invokevirtual 86, 3) := by decide +kernel
theorem dX0_estimate_32 : decode cX0_estimate 32 = .ok (.iload_n 2, 1) := by decide +kernel
theorem dX0_estimate_33 : decode cX0_estimate 33 = .ok (.invokevirtual 90, 3) := by decide +kernel
theorem dX0_estimate_36 : decode cX0_estimate 36 = .ok (.ireturn, 1) := by decide +kernel
theorem dX0_plan_0 : decode cX0_plan 0 = .ok (.aload_n 0, 1) := by decide +kernel
theorem dX0_plan_1 : decode cX0_plan 1 = .ok (.getfield 19, 3) := by decide +kernel
theorem dX0_plan_4 : decode cX0_plan 4 = .ok (.iload_n 1, 1) := by decide +kernel
theorem dX0_plan_5 : decode cX0_plan 5 = .ok (.invokevirtual 80, 3) := by decide +kernel
theorem dX0_plan_8 : decode cX0_plan 8 = .ok (.ifCond .ne 5, 3) := by decide +kernel
theorem dX0_plan_11 : decode cX0_plan 11 = .ok (.iconst (-1), 1) := by decide +kernel
theorem dX0_plan_12 : decode cX0_plan 12 = .ok (.ireturn, 1) := by decide +kernel
theorem dX0_plan_13 : decode cX0_plan 13 = .ok (.aload_n 0, 1) := by decide +kernel
theorem dX0_plan_14 : decode cX0_plan 14 = .ok (.invokevirtual 96, 3) := by decide +kernel
theorem dX0_plan_17 : decode cX0_plan 17 = .ok (.iload_n 1, 1) := by decide +kernel
theorem dX0_plan_18 : decode cX0_plan 18 = .ok (.invokevirtual 100, 3) := by decide +kernel
theorem dX0_plan_21 : decode cX0_plan 21 = .ok (.ireturn, 1) := by decide +kernel
theorem dX0_cost_0 : decode cX0_cost 0 = .ok (.aload_n 0, 1) := by decide +kernel
theorem dX0_cost_1 : decode cX0_cost 1 = .ok (.invokevirtual 96, 3) := by decide +kernel
theorem dX0_cost_4 : decode cX0_cost 4 = .ok (.pop, 1) := by decide +kernel
theorem dX0_cost_5 : decode cX0_cost 5 = .ok (.aload_n 0, 1) := by decide +kernel
theorem dX0_cost_6 : decode cX0_cost 6 = .ok (.getfield 33, 3) := by decide +kernel
theorem dX0_cost_9 : decode cX0_cost 9 = .ok (.getfield 102, 3) := by decide +kernel
theorem dX0_cost_12 : decode cX0_cost 12 = .ok (.lreturn, 1) := by decide +kernel
theorem dX0_use_0 : decode cX0_use 0 = .ok (.aload_n 0, 1) := by decide +kernel
theorem dX0_use_1 : decode cX0_use 1 = .ok (.getfield 19, 3) := by decide +kernel
theorem dX0_use_4 : decode cX0_use 4 = .ok (.iload_n 1, 1) := by decide +kernel
theorem dX0_use_5 : decode cX0_use 5 = .ok (.invokevirtual 80, 3) := by decide +kernel
theorem dX0_use_8 : decode cX0_use 8 = .ok (.ifCond .eq 14, 3) := by decide +kernel
theorem dX0_use_11 : decode cX0_use 11 = .ok (.aload_n 0, 1) := by decide +kernel
theorem dX0_use_12 : decode cX0_use 12 = .ok (.getfield 26, 3) := by decide +kernel
theorem dX0_use_15 : decode cX0_use 15 = .ok (.iload_n 1, 1) := by decide +kernel
theorem dX0_use_16 : decode cX0_use 16 = .ok (.invokevirtual 106, 3) := by decide +kernel
theorem dX0_use_19 : decode cX0_use 19 = .ok (.ifCond .eq 5, 3) := by decide +kernel
theorem dX0_use_22 : decode cX0_use 22 = .ok (.iconst (-1), 1) := by decide +kernel
theorem dX0_use_23 : decode cX0_use 23 = .ok (.ireturn, 1) := by decide +kernel
theorem dX0_use_24 : decode cX0_use 24 = .ok (.aload_n 0, 1) := by decide +kernel
theorem dX0_use_25 : decode cX0_use 25 = .ok (.getfield 26, 3) := by decide +kernel
theorem dX0_use_28 : decode cX0_use 28 = .ok (.iload_n 1, 1) := by decide +kernel
theorem dX0_use_29 : decode cX0_use 29 = .ok (.invokevirtual 107, 3) := by decide +kernel
theorem dX0_use_32 : decode cX0_use 32 = .ok (.aload_n 0, 1) := by decide +kernel
theorem dX0_use_33 : decode cX0_use 33 = .ok (.getfield 26, 3) := by decide +kernel
theorem dX0_use_36 : decode cX0_use 36 = .ok (.getfield 110, 3) := by decide +kernel
theorem dX0_use_39 : decode cX0_use 39 = .ok (.ireturn, 1) := by decide +kernel
theorem dX0_drop_0 : decode cX0_drop 0 = .ok (.aload_n 0, 1) := by decide +kernel
theorem dX0_drop_1 : decode cX0_drop 1 = .ok (.getfield 26, 3) := by decide +kernel
theorem dX0_drop_4 : decode cX0_drop 4 = .ok (.getfield 110, 3) := by decide +kernel
theorem dX0_drop_7 : decode cX0_drop 7 = .ok (.istore_n 1, 1) := by decide +kernel
theorem dX0_drop_8 : decode cX0_drop 8 = .ok (.aload_n 0, 1) := by decide +kernel
theorem dX0_drop_9 : decode cX0_drop 9 = .ok (.getfield 26, 3) := by decide +kernel
theorem dX0_drop_12 : decode cX0_drop 12 = .ok (.invokevirtual 76, 3) := by decide +kernel
theorem dX0_drop_15 : decode cX0_drop 15 = .ok (.iload_n 1, 1) := by decide +kernel
theorem dX0_drop_16 : decode cX0_drop 16 = .ok (.ireturn, 1) := by decide +kernel
theorem dX0_size_0 : decode cX0_size 0 = .ok (.iload_n 1, 1) := by decide +kernel
theorem dX0_size_1 : decode cX0_size 1 = .ok (.iconst 1, 1) := by decide +kernel
theorem dX0_size_2 : decode cX0_size 2 = .ok (.if_icmp .lt 14, 3) := by decide +kernel
theorem dX0_size_5 : decode cX0_size 5 = .ok (.iload_n 1, 1) := by decide +kernel
theorem dX0_size_6 : decode cX0_size 6 = .ok (.aload_n 0, 1) := by decide +kernel
theorem dX0_size_7 : decode cX0_size 7 = .ok (.getfield 26, 3) := by decide +kernel
theorem dX0_size_10 : decode cX0_size 10 = .ok (.getfield 110, 3) := by decide +kernel
theorem dX0_size_13 : decode cX0_size 13 = .ok (.if_icmp .le 7, 3) := by decide +kernel
theorem dX0_size_16 : decode cX0_size 16 = .ok (.ldc2_w 113, 3) := by decide +kernel
theorem dX0_size_19 : decode cX0_size 19 = .ok (.lreturn, 1) := by decide +kernel
theorem dX0_size_20 : decode cX0_size 20 = .ok (.aload_n 0, 1) := by decide +kernel
theorem dX0_size_21 : decode cX0_size 21 = .ok (.getfield 19, 3) := by decide +kernel
theorem dX0_size_24 : decode cX0_size 24 = .ok (.aload_n 0, 1) := by decide +kernel
theorem dX0_size_25 : decode cX0_size 25 = .ok (.getfield 10, 3) := by decide +kernel
theorem dX0_size_28 : decode cX0_size 28 = .ok (.invokevirtual 82, 3) := by decide +kernel
theorem dX0_size_31 : decode cX0_size 31 = .ok (.lconst 1, 1) := by decide +kernel
theorem dX0_size_32 : decode cX0_size 32 = .ok (.lstore_n 2, 1) := by decide +kernel
theorem dX0_size_33 : decode cX0_size 33 = .ok (.iconst 0, 1) := by decide +kernel
theorem dX0_size_34 : decode cX0_size 34 = .ok (.istore 4, 2) := by decide +kernel
theorem dX0_size_36 : decode cX0_size 36 = .ok (.iconst 0, 1) := by decide +kernel
theorem dX0_size_37 : decode cX0_size 37 = .ok (.istore 5, 2) := by decide +kernel
theorem dX0_size_39 : decode cX0_size 39 = .ok (.iload 5, 2) := by decide +kernel
theorem dX0_size_41 : decode cX0_size 41 = .ok (.iload_n 1, 1) := by decide +kernel
theorem dX0_size_42 : decode cX0_size 42 = .ok (.if_icmp .ge 49, 3) := by decide +kernel
theorem dX0_size_45 : decode cX0_size 45 = .ok (.aload_n 0, 1) := by decide +kernel
theorem dX0_size_46 : decode cX0_size 46 = .ok (.getfield 19, 3) := by decide +kernel
theorem dX0_size_49 : decode cX0_size 49 = .ok (.aload_n 0, 1) := by decide +kernel
theorem dX0_size_50 : decode cX0_size 50 = .ok (.getfield 26, 3) := by decide +kernel
theorem dX0_size_53 : decode cX0_size 53 = .ok (.iload 5, 2) := by decide +kernel
theorem dX0_size_55 : decode cX0_size 55 = .ok (.invokevirtual 100, 3) := by decide +kernel
theorem dX0_size_58 : decode cX0_size 58 = .ok (.invokevirtual 86, 3) := by decide +kernel
theorem dX0_size_61 : decode cX0_size 61 = .ok (.astore 6, 2) := by decide +kernel
theorem dX0_size_63 : decode cX0_size 63 = .ok (.lload_n 2, 1) := by decide +kernel
theorem dX0_size_64 : decode cX0_size 64 = .ok (.aload 6, 2) := by decide +kernel
theorem dX0_size_66 : decode cX0_size 66 = .ok (.iload 4, 2) := by decide +kernel
theorem dX0_size_68 : decode cX0_size 68 = .ok (.invokevirtual 90, 3) := by decide +kernel
theorem dX0_size_71 : decode cX0_size 71 = .ok (.invokestatic 115, 3) := by decide +kernel
theorem dX0_size_74 : decode cX0_size 74 = .ok (.lstore_n 2, 1) := by decide +kernel
theorem dX0_size_75 : decode cX0_size 75 = .ok (.iload 4, 2) := by decide +kernel
theorem dX0_size_77 : decode cX0_size 77 = .ok (.aload 6, 2) := by decide +kernel
theorem dX0_size_79 : decode cX0_size 79 = .ok (.invokevirtual 119, 3) := by decide +kernel
theorem dX0_size_82 : decode cX0_size 82 = .ok (.ior, 1) := by decide +kernel
theorem dX0_size_83 : decode cX0_size 83 = .ok (.istore 4, 2) := by decide +kernel
theorem dX0_size_85 : decode cX0_size 85 = .ok (.iinc 5 1, 3) := by decide +kernel
theorem dX0_size_88 : decode cX0_size 88 = .ok (.goto (-49), 3) := by decide +kernel
theorem dX0_size_91 : decode cX0_size 91 = .ok (.lload_n 2, 1) := by decide +kernel
theorem dX0_size_92 : decode cX0_size 92 = .ok (.lreturn, 1) := by decide +kernel
theorem dX0_rows_0 : decode cX0_rows 0 = .ok (.aload_n 0, 1) := by decide +kernel
theorem dX0_rows_1 : decode cX0_rows 1 = .ok (.getfield 40, 3) := by decide +kernel
theorem dX0_rows_4 : decode cX0_rows 4 = .ok (.aload_n 0, 1) := by decide +kernel
theorem dX0_rows_5 : decode cX0_rows 5 = .ok (.getfield 26, 3) := by decide +kernel
theorem dX0_rows_8 : decode cX0_rows 8 = .ok (.aload_n 0, 1) := by decide +kernel
theorem dX0_rows_9 : decode cX0_rows 9 = .ok (.getfield 19, 3) := by decide +kernel
theorem dX0_rows_12 : decode cX0_rows 12 = .ok (.aload_n 0, 1) := by decide +kernel
theorem dX0_rows_13 : decode cX0_rows 13 = .ok (.getfield 10, 3) := by decide +kernel
theorem dX0_rows_16 : decode cX0_rows 16 = .ok (.invokevirtual 123, 3) := by decide +kernel
theorem dX0_rows_19 : decode cX0_rows 19 = .ok (.ireturn, 1) := by decide +kernel
theorem dX0_solutions_0 : decode cX0_solutions 0 = .ok (.aload_n 0, 1) := by decide +kernel
theorem dX0_solutions_1 : decode cX0_solutions 1 = .ok (.getfield 44, 3) := by decide +kernel
theorem dX0_solutions_4 : decode cX0_solutions 4 = .ok (.bipush (-4), 2) := by decide +kernel
theorem dX0_solutions_6 : decode cX0_solutions 6 = .ok (.if_icmp .ne 26, 3) := by decide +kernel
theorem dX0_solutions_9 : decode cX0_solutions 9 = .ok (.aload_n 0, 1) := by decide +kernel
theorem dX0_solutions_10 : decode cX0_solutions 10 = .ok (.aload_n 0, 1) := by decide +kernel
theorem dX0_solutions_11 : decode cX0_solutions 11 = .ok (.getfield 40, 3) := by decide +kernel
theorem dX0_solutions_14 : decode cX0_solutions 14 = .ok (.aload_n 0, 1) := by decide +kernel
theorem dX0_solutions_15 : decode cX0_solutions 15 = .ok (.invokevirtual 96, 3) := by decide +kernel
theorem dX0_solutions_18 : decode cX0_solutions 18 = .ok (.aload_n 0, 1) := by decide +kernel
theorem dX0_solutions_19 : decode cX0_solutions 19 = .ok (.getfield 19, 3) := by decide +kernel
theorem dX0_solutions_22 : decode cX0_solutions 22 = .ok (.aload_n 0, 1) := by decide +kernel
theorem dX0_solutions_23 : decode cX0_solutions 23 = .ok (.getfield 10, 3) := by decide +kernel
theorem dX0_solutions_26 : decode cX0_solutions 26 = .ok (.invokevirtual 127, 3) := by decide +kernel
theorem dX0_solutions_29 : decode cX0_solutions 29 = .ok (.putfield 44, 3) := by decide +kernel
theorem dX0_solutions_32 : decode cX0_solutions 32 = .ok (.aload_n 0, 1) := by decide +kernel
theorem dX0_solutions_33 : decode cX0_solutions 33 = .ok (.getfield 44, 3) := by decide +kernel
theorem dX0_solutions_36 : decode cX0_solutions 36 = .ok (.ireturn, 1) := by decide +kernel
theorem dX0_value_0 : decode cX0_value 0 = .ok (.iload_n 1, 1) := by decide +kernel
theorem dX0_value_1 : decode cX0_value 1 = .ok (.ifCond .lt 18, 3) := by decide +kernel
theorem dX0_value_4 : decode cX0_value 4 = .ok (.iload_n 1, 1) := by decide +kernel
theorem dX0_value_5 : decode cX0_value 5 = .ok (.aload_n 0, 1) := by decide +kernel
theorem dX0_value_6 : decode cX0_value 6 = .ok (.getfield 44, 3) := by decide +kernel
theorem dX0_value_9 : decode cX0_value 9 = .ok (.if_icmp .ge 10, 3) := by decide +kernel
theorem dX0_value_12 : decode cX0_value 12 = .ok (.iload_n 2, 1) := by decide +kernel
theorem dX0_value_13 : decode cX0_value 13 = .ok (.invokestatic 130, 3) := by decide +kernel
theorem dX0_value_16 : decode cX0_value 16 = .ok (.ifCond .ne 5, 3) := by decide +kernel
theorem dX0_value_19 : decode cX0_value 19 = .ok (.iconst (-1), 1) := by decide +kernel
theorem dX0_value_20 : decode cX0_value 20 = .ok (.ireturn, 1) := by decide +kernel
theorem dX0_value_21 : decode cX0_value 21 = .ok (.aload_n 0, 1) := by decide +kernel
theorem dX0_value_22 : decode cX0_value 22 = .ok (.getfield 19, 3) := by decide +kernel
theorem dX0_value_25 : decode cX0_value 25 = .ok (.invokevirtual 133, 3) := by decide +kernel
theorem dX0_value_28 : decode cX0_value 28 = .ok (.iload_n 2, 1) := by decide +kernel
theorem dX0_value_29 : decode cX0_value 29 = .ok (.invokestatic 134, 3) := by decide +kernel
theorem dX0_value_32 : decode cX0_value 32 = .ok (.iand, 1) := by decide +kernel
theorem dX0_value_33 : decode cX0_value 33 = .ok (.ifCond .ne 5, 3) := by decide +kernel
theorem dX0_value_36 : decode cX0_value 36 = .ok (.iconst (-1), 1) := by decide +kernel
theorem dX0_value_37 : decode cX0_value 37 = .ok (.ireturn, 1) := by decide +kernel
theorem dX0_value_38 : decode cX0_value 38 = .ok (.aload_n 0, 1) := by decide +kernel
theorem dX0_value_39 : decode cX0_value 39 = .ok (.getfield 40, 3) := by decide +kernel
theorem dX0_value_42 : decode cX0_value 42 = .ok (.getfield 137, 3) := by decide +kernel
theorem dX0_value_45 : decode cX0_value 45 = .ok (.iload_n 1, 1) := by decide +kernel
theorem dX0_value_46 : decode cX0_value 46 = .ok (.invokevirtual 141, 3) := by decide +kernel
theorem dX0_value_49 : decode cX0_value 49 = .ok (.iload_n 2, 1) := by decide +kernel
theorem dX0_value_50 : decode cX0_value 50 = .ok (.invokestatic 146, 3) := by decide +kernel
