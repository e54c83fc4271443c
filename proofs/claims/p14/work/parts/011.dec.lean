theorem dX0_init_0 : decode cX0_init 0 = .ok (.aload_n 0, 1) := by decide +kernel
theorem dX0_init_1 : decode cX0_init 1 = .ok (.invokespecial 1, 3) := by decide +kernel
theorem dX0_init_4 : decode cX0_init 4 = .ok (.aload_n 0, 1) := by decide +kernel
theorem dX0_init_5 : decode cX0_init 5 = .ok (.new 7, 3) := by decide +kernel
theorem dX0_init_8 : decode cX0_init 8 = .ok (.dup, 1) := by decide +kernel
theorem dX0_init_9 : decode cX0_init 9 = .ok (.invokespecial 9, 3) := by decide +kernel
theorem dX0_init_12 : decode cX0_init 12 = .ok (.putfield 10, 3) := by decide +kernel
theorem dX0_init_15 : decode cX0_init 15 = .ok (.aload_n 0, 1) := by decide +kernel
theorem dX0_init_16 : decode cX0_init 16 = .ok (.new 16, 3) := by decide +kernel
theorem dX0_init_19 : decode cX0_init 19 = .ok (.dup, 1) := by decide +kernel
theorem dX0_init_20 : decode cX0_init 20 = .ok (.invokespecial 18, 3) := by decide +kernel
theorem dX0_init_23 : decode cX0_init 23 = .ok (.putfield 19, 3) := by decide +kernel
theorem dX0_init_26 : decode cX0_init 26 = .ok (.aload_n 0, 1) := by decide +kernel
theorem dX0_init_27 : decode cX0_init 27 = .ok (.new 23, 3) := by decide +kernel
theorem dX0_init_30 : decode cX0_init 30 = .ok (.dup, 1) := by decide +kernel
theorem dX0_init_31 : decode cX0_init 31 = .ok (.invokespecial 25, 3) := by decide +kernel
theorem dX0_init_34 : decode cX0_init 34 = .ok (.putfield 26, 3) := by decide +kernel
theorem dX0_init_37 : decode cX0_init 37 = .ok (.aload_n 0, 1) := by decide +kernel
theorem dX0_init_38 : decode cX0_init 38 = .ok (.new 30, 3) := by decide +kernel
theorem dX0_init_41 : decode cX0_init 41 = .ok (.dup, 1) := by decide +kernel
theorem dX0_init_42 : decode cX0_init 42 = .ok (.invokespecial 32, 3) := by decide +kernel
theorem dX0_init_45 : decode cX0_init 45 = .ok (.putfield 33, 3) := by decide +kernel
theorem dX0_init_48 : decode cX0_init 48 = .ok (.aload_n 0, 1) := by decide +kernel
theorem dX0_init_49 : decode cX0_init 49 = .ok (.new 37, 3) := by decide +kernel
theorem dX0_init_52 : decode cX0_init 52 = .ok (.dup, 1) := by decide +kernel
theorem dX0_init_53 : decode cX0_init 53 = .ok (.invokespecial 39, 3) := by decide +kernel
theorem dX0_init_56 : decode cX0_init 56 = .ok (.putfield 40, 3) := by decide +kernel
theorem dX0_init_59 : decode cX0_init 59 = .ok (.aload_n 0, 1) := by decide +kernel
theorem dX0_init_60 : decode cX0_init 60 = .ok (.bipush (-4), 2) := by decide +kernel
theorem dX0_init_62 : decode cX0_init 62 = .ok (.putfield 44, 3) := by decide +kernel
theorem dX0_init_65 : decode cX0_init 65 = .ok (.return_, 1) := by decide +kernel
theorem dX0_insert_0 : decode cX0_insert 0 = .ok (.aload_n 0, 1) := by decide +kernel
theorem dX0_insert_1 : decode cX0_insert 1 = .ok (.invokevirtual 48, 3) := by decide +kernel
theorem dX0_insert_4 : decode cX0_insert 4 = .ok (.iload_n 1, 1) := by decide +kernel
theorem dX0_insert_5 : decode cX0_insert 5 = .ok (.invokestatic 51, 3) := by decide +kernel
theorem dX0_insert_8 : decode cX0_insert 8 = .ok (.ifCond .eq 17, 3) := by decide +kernel
theorem dX0_insert_11 : decode cX0_insert 11 = .ok (.iload_n 2, 1) := by decide +kernel
theorem dX0_insert_12 : decode cX0_insert 12 = .ok (.invokestatic 51, 3) := by decide +kernel
theorem dX0_insert_15 : decode cX0_insert 15 = .ok (.ifCond .eq 10, 3) := by decide +kernel
theorem dX0_insert_18 : decode cX0_insert 18 = .ok (.iload_n 3, 1) := by decide +kernel
theorem dX0_insert_19 : decode cX0_insert 19 = .ok (.invokestatic 51, 3) := by decide +kernel
theorem dX0_insert_22 : decode cX0_insert 22 = .ok (.ifCond .ne 5, 3) := by decide +kernel
theorem dX0_insert_25 : decode cX0_insert 25 = .ok (.iconst (-1), 1) := by decide +kernel
theorem dX0_insert_26 : decode cX0_insert 26 = .ok (.ireturn, 1) := by decide +kernel
theorem dX0_insert_27 : decode cX0_insert 27 = .ok (.aload_n 0, 1) := by decide +kernel
theorem dX0_insert_28 : decode cX0_insert 28 = .ok (.getfield 10, 3) := by decide +kernel
theorem dX0_insert_31 : decode cX0_insert 31 = .ok (.iload_n 1, 1) := by decide +kernel
theorem dX0_insert_32 : decode cX0_insert 32 = .ok (.iload_n 2, 1) := by decide +kernel
theorem dX0_insert_33 : decode cX0_insert 33 = .ok (.iload_n 3, 1) := by decide +kernel
theorem dX0_insert_34 : decode cX0_insert 34 = .ok (.invokevirtual 55, 3) := by decide +kernel
theorem dX0_insert_37 : decode cX0_insert 37 = .ok (.ifCond .eq 5, 3) := by decide +kernel
theorem dX0_insert_40 : decode cX0_insert 40 = .ok (.iconst 0, 1) := by decide +kernel
theorem dX0_insert_41 : decode cX0_insert 41 = .ok (.ireturn, 1) := by decide +kernel
theorem dX0_insert_42 : decode cX0_insert 42 = .ok (.aload_n 0, 1) := by decide +kernel
theorem dX0_insert_43 : decode cX0_insert 43 = .ok (.getfield 10, 3) := by decide +kernel
theorem dX0_insert_46 : decode cX0_insert 46 = .ok (.getfield 59, 3) := by decide +kernel
theorem dX0_insert_49 : decode cX0_insert 49 = .ok (.sipush 640, 3) := by decide +kernel
theorem dX0_insert_52 : decode cX0_insert 52 = .ok (.if_icmp .lt 6, 3) := by decide +kernel
theorem dX0_insert_55 : decode cX0_insert 55 = .ok (.bipush (-3), 2) := by decide +kernel
theorem dX0_insert_57 : decode cX0_insert 57 = .ok (.ireturn, 1) := by decide +kernel
theorem dX0_insert_58 : decode cX0_insert 58 = .ok (.aload_n 0, 1) := by decide +kernel
theorem dX0_insert_59 : decode cX0_insert 59 = .ok (.getfield 10, 3) := by decide +kernel
theorem dX0_insert_62 : decode cX0_insert 62 = .ok (.iload_n 1, 1) := by decide +kernel
theorem dX0_insert_63 : decode cX0_insert 63 = .ok (.iload_n 2, 1) := by decide +kernel
theorem dX0_insert_64 : decode cX0_insert 64 = .ok (.iload_n 3, 1) := by decide +kernel
theorem dX0_insert_65 : decode cX0_insert 65 = .ok (.invokevirtual 62, 3) := by decide +kernel
theorem dX0_insert_68 : decode cX0_insert 68 = .ok (.iconst 1, 1) := by decide +kernel
theorem dX0_insert_69 : decode cX0_insert 69 = .ok (.ireturn, 1) := by decide +kernel
theorem dX0_remove_0 : decode cX0_remove 0 = .ok (.aload_n 0, 1) := by decide +kernel
theorem dX0_remove_1 : decode cX0_remove 1 = .ok (.invokevirtual 48, 3) := by decide +kernel
theorem dX0_remove_4 : decode cX0_remove 4 = .ok (.iload_n 1, 1) := by decide +kernel
theorem dX0_remove_5 : decode cX0_remove 5 = .ok (.invokestatic 51, 3) := by decide +kernel
theorem dX0_remove_8 : decode cX0_remove 8 = .ok (.ifCond .eq 17, 3) := by decide +kernel
theorem dX0_remove_11 : decode cX0_remove 11 = .ok (.iload_n 2, 1) := by decide +kernel
theorem dX0_remove_12 : decode cX0_remove 12 = .ok (.invokestatic 51, 3) := by decide +kernel
theorem dX0_remove_15 : decode cX0_remove 15 = .ok (.ifCond .eq 10, 3) := by decide +kernel
theorem dX0_remove_18 : decode cX0_remove 18 = .ok (.iload_n 3, 1) := by decide +kernel
theorem dX0_remove_19 : decode cX0_remove 19 = .ok (.invokestatic 51, 3) := by decide +kernel
theorem dX0_remove_22 : decode cX0_remove 22 = .ok (.ifCond .ne 5, 3) := by decide +kernel
theorem dX0_remove_25 : decode cX0_remove 25 = .ok (.iconst (-1), 1) := by decide +kernel
theorem dX0_remove_26 : decode cX0_remove 26 = .ok (.ireturn, 1) := by decide +kernel
theorem dX0_remove_27 : decode cX0_remove 27 = .ok (.aload_n 0, 1) := by decide +kernel
theorem dX0_remove_28 : decode cX0_remove 28 = .ok (.getfield 10, 3) := by decide +kernel
theorem dX0_remove_31 : decode cX0_remove 31 = .ok (.iload_n 1, 1) := by decide +kernel
theorem dX0_remove_32 : decode cX0_remove 32 = .ok (.iload_n 2, 1) := by decide +kernel
theorem dX0_remove_33 : decode cX0_remove 33 = .ok (.iload_n 3, 1) := by decide +kernel
theorem dX0_remove_34 : decode cX0_remove 34 = .ok (.invokevirtual 55, 3) := by decide +kernel
theorem dX0_remove_37 : decode cX0_remove 37 = .ok (.ifCond .ne 5, 3) := by decide +kernel
theorem dX0_remove_40 : decode cX0_remove 40 = .ok (.iconst 0, 1) := by decide +kernel
theorem dX0_remove_41 : decode cX0_remove 41 = .ok (.ireturn, 1) := by decide +kernel
theorem dX0_remove_42 : decode cX0_remove 42 = .ok (.aload_n 0, 1) := by decide +kernel
theorem dX0_remove_43 : decode cX0_remove 43 = .ok (.getfield 10, 3) := by decide +kernel
theorem dX0_remove_46 : decode cX0_remove 46 = .ok (.iload_n 1, 1) := by decide +kernel
theorem dX0_remove_47 : decode cX0_remove 47 = .ok (.iload_n 2, 1) := by decide +kernel
theorem dX0_remove_48 : decode cX0_remove 48 = .ok (.iload_n 3, 1) := by decide +kernel
theorem dX0_remove_49 : decode cX0_remove 49 = .ok (.invokevirtual 66, 3) := by decide +kernel
theorem dX0_remove_52 : decode cX0_remove 52 = .ok (.iconst 1, 1) := by decide +kernel
theorem dX0_remove_53 : decode cX0_remove 53 = .ok (.ireturn, 1) := by decide +kernel
theorem dX0_triples_0 : decode cX0_triples 0 = .ok (.aload_n 0, 1) := by decide +kernel
theorem dX0_triples_1 : decode cX0_triples 1 = .ok (.getfield 10, 3) := by decide +kernel
theorem dX0_triples_4 : decode cX0_triples 4 = .ok (.getfield 59, 3) := by decide +kernel
theorem dX0_triples_7 : decode cX0_triples 7 = .ok (.ireturn, 1) := by decide +kernel
theorem dX0_pattern_0 : decode cX0_pattern 0 = .ok (.aload_n 0, 1) := by decide +kernel
theorem dX0_pattern_1 : decode cX0_pattern 1 = .ok (.invokevirtual 48, 3) := by decide +kernel
theorem dX0_pattern_4 : decode cX0_pattern 4 = .ok (.iload_n 1, 1) := by decide +kernel
theorem dX0_pattern_5 : decode cX0_pattern 5 = .ok (.invokestatic 69, 3) := by decide +kernel
theorem dX0_pattern_8 : decode cX0_pattern 8 = .ok (.ifCond .eq 17, 3) := by decide +kernel
theorem dX0_pattern_11 : decode cX0_pattern 11 = .ok (.iload_n 2, 1) := by decide +kernel
theorem dX0_pattern_12 : decode cX0_pattern 12 = .ok (.invokestatic 69, 3) := by decide +kernel
theorem dX0_pattern_15 : decode cX0_pattern 15 = .ok (.ifCond .eq 10, 3) := by decide +kernel
theorem dX0_pattern_18 : decode cX0_pattern 18 = .ok (.iload_n 3, 1) := by decide +kernel
theorem dX0_pattern_19 : decode cX0_pattern 19 = .ok (.invokestatic 69, 3) := by decide +kernel
theorem dX0_pattern_22 : decode cX0_pattern 22 = .ok (.ifCond .ne 5, 3) := by decide +kernel
theorem dX0_pattern_25 : decode cX0_pattern 25 = .ok (.iconst (-1), 1) := by decide +kernel
theorem dX0_pattern_26 : decode cX0_pattern 26 = .ok (.ireturn, 1) := by decide +kernel
theorem dX0_pattern_27 : decode cX0_pattern 27 = .ok (.aload_n 0, 1) := by decide +kernel
theorem dX0_pattern_28 : decode cX0_pattern 28 = .ok (.getfield 19, 3) := by decide +kernel
theorem dX0_pattern_31 : decode cX0_pattern 31 = .ok (.getfield 72, 3) := by decide +kernel
theorem dX0_pattern_34 : decode cX0_pattern 34 = .ok (.bipush 6, 2) := by decide +kernel
theorem dX0_pattern_36 : decode cX0_pattern 36 = .ok (.if_icmp .lt 6, 3) := by decide +kernel
theorem dX0_pattern_39 : decode cX0_pattern 39 = .ok (.bipush (-3), 2) := by decide +kernel
theorem dX0_pattern_41 : decode cX0_pattern 41 = .ok (.ireturn, 1) := by decide +kernel
theorem dX0_pattern_42 : decode cX0_pattern 42 = .ok (.aload_n 0, 1) := by decide +kernel
theorem dX0_pattern_43 : decode cX0_pattern 43 = .ok (.getfield 19, 3) := by decide +kernel
theorem dX0_pattern_46 : decode cX0_pattern 46 = .ok (.iload_n 1, 1) := by decide +kernel
theorem dX0_pattern_47 : decode cX0_pattern 47 = .ok (.iload_n 2, 1) := by decide +kernel
theorem dX0_pattern_48 : decode cX0_pattern 48 = .ok (.iload_n 3, 1) := by decide +kernel
theorem dX0_pattern_49 : decode cX0_pattern 49 = .ok (.invokevirtual 73, 3) := by decide +kernel
theorem dX0_pattern_52 : decode cX0_pattern 52 = .ok (.aload_n 0, 1) := by decide +kernel
theorem dX0_pattern_53 : decode cX0_pattern 53 = .ok (.getfield 26, 3) := by decide +kernel
theorem dX0_pattern_56 : decode cX0_pattern 56 = .ok (.invokevirtual 76, 3) := by decide +kernel
theorem dX0_pattern_59 : decode cX0_pattern 59 = .ok (.aload_n 0, 1) := by decide +kernel
theorem dX0_pattern_60 : decode cX0_pattern 60 = .ok (.getfield 19, 3) := by decide +kernel
theorem dX0_pattern_63 : decode cX0_pattern 63 = .ok (.getfield 72, 3) := by decide +kernel
theorem dX0_pattern_66 : decode cX0_pattern 66 = .ok (.iconst 1, 1) := by decide +kernel
theorem dX0_pattern_67 : decode cX0_pattern 67 = .ok (.isub, 1) := by decide +kernel
theorem dX0_pattern_68 : decode cX0_pattern 68 = .ok (.ireturn, 1) := by decide +kernel
theorem dX0_clear_0 : decode cX0_clear 0 = .ok (.aload_n 0, 1) := by decide +kernel
theorem dX0_clear_1 : decode cX0_clear 1 = .ok (.invokevirtual 48, 3) := by decide +kernel
theorem dX0_clear_4 : decode cX0_clear 4 = .ok (.aload_n 0, 1) := by decide +kernel
theorem dX0_clear_5 : decode cX0_clear 5 = .ok (.getfield 19, 3) := by decide +kernel
theorem dX0_clear_8 : decode cX0_clear 8 = .ok (.getfield 72, 3) := by decide +kernel
theorem dX0_clear_11 : decode cX0_clear 11 = .ok (.istore_n 1, 1) := by decide +kernel
theorem dX0_clear_12 : decode cX0_clear 12 = .ok (.aload_n 0, 1) := by decide +kernel
theorem dX0_clear_13 : decode cX0_clear 13 = .ok (.getfield 19, 3) := by decide +kernel
theorem dX0_clear_16 : decode cX0_clear 16 = .ok (.invokevirtual 79, 3) := by decide +kernel
theorem dX0_clear_19 : decode cX0_clear 19 = .ok (.aload_n 0, 1) := by decide +kernel
theorem dX0_clear_20 : decode cX0_clear 20 = .ok (.getfield 26, 3) := by decide +kernel
theorem dX0_clear_23 : decode cX0_clear 23 = .ok (.invokevirtual 76, 3) := by decide +kernel
theorem dX0_clear_26 : decode cX0_clear 26 = .ok (.iload_n 1, 1) := by decide +kernel
theorem dX0_clear_27 : decode cX0_clear 27 = .ok (.ireturn, 1) := by decide +kernel
theorem dX0_estimate_0 : decode cX0_estimate 0 = .ok (.aload_n 0, 1) := by decide +kernel
theorem dX0_estimate_1 : decode cX0_estimate 1 = .ok (.getfield 19, 3) := by decide +kernel
theorem dX0_estimate_4 : decode cX0_estimate 4 = .ok (.iload_n 1, 1) := by decide +kernel
theorem dX0_estimate_5 : decode cX0_estimate 5 = .ok (.invokevirtual 80, 3) := by decide +kernel
theorem dX0_estimate_8 : decode cX0_estimate 8 = .ok (.ifCond .ne 5, 3) := by decide +kernel
theorem dX0_estimate_11 : decode cX0_estimate 11 = .ok (.iconst (-1), 1) := by decide +kernel
theorem dX0_estimate_12 : decode cX0_estimate 12 = .ok (.ireturn, 1) := by decide +kernel
theorem dX0_estimate_13 : decode cX0_estimate 13 = .ok (.aload_n 0, 1) := by decide +kernel
theorem dX0_estimate_14 : decode cX0_estimate 14 = .ok (.getfield 19, 3) := by decide +kernel
