theorem dX9_estimate_86 : decode cX9_estimate 86 = .ok (.irem, 1) := by decide +kernel
theorem dX9_estimate_87 : decode cX9_estimate 87 = .ok (.ifCond .le 7, 3) := by decide +kernel
theorem dX9_estimate_90 : decode cX9_estimate 90 = .ok (.iconst 1, 1) := by decide +kernel
theorem dX9_estimate_91 : decode cX9_estimate 91 = .ok (.goto 4, 3) := by decide +kernel
theorem dX9_estimate_94 : decode cX9_estimate 94 = .ok (.iconst 0, 1) := by decide +kernel
theorem dX9_estimate_95 : decode cX9_estimate 95 = .ok (.iadd, 1) := by decide +kernel
theorem dX9_estimate_96 : decode cX9_estimate 96 = .ok (.ireturn, 1) := by decide +kernel
theorem dX9_variables_0 : decode cX9_variables 0 = .ok (.iconst 0, 1) := by decide +kernel
theorem dX9_variables_1 : decode cX9_variables 1 = .ok (.istore_n 2, 1) := by decide +kernel
theorem dX9_variables_2 : decode cX9_variables 2 = .ok (.iconst 0, 1) := by decide +kernel
theorem dX9_variables_3 : decode cX9_variables 3 = .ok (.istore_n 3, 1) := by decide +kernel
theorem dX9_variables_4 : decode cX9_variables 4 = .ok (.iload_n 3, 1) := by decide +kernel
theorem dX9_variables_5 : decode cX9_variables 5 = .ok (.iconst 3, 1) := by decide +kernel
theorem dX9_variables_6 : decode cX9_variables 6 = .ok (.if_icmp .ge 42, 3) := by decide +kernel
theorem dX9_variables_9 : decode cX9_variables 9 = .ok (.iload_n 2, 1) := by decide +kernel
theorem dX9_variables_10 : decode cX9_variables 10 = .ok (.aload_n 0, 1) := by decide +kernel
theorem dX9_variables_11 : decode cX9_variables 11 = .ok (.getfield 13, 3) := by decide +kernel
theorem dX9_variables_14 : decode cX9_variables 14 = .ok (.iconst 3, 1) := by decide +kernel
theorem dX9_variables_15 : decode cX9_variables 15 = .ok (.iload_n 1, 1) := by decide +kernel
theorem dX9_variables_16 : decode cX9_variables 16 = .ok (.imul, 1) := by decide +kernel
theorem dX9_variables_17 : decode cX9_variables 17 = .ok (.iload_n 3, 1) := by decide +kernel
theorem dX9_variables_18 : decode cX9_variables 18 = .ok (.iadd, 1) := by decide +kernel
theorem dX9_variables_19 : decode cX9_variables 19 = .ok (.iaload, 1) := by decide +kernel
theorem dX9_variables_20 : decode cX9_variables 20 = .ok (.ifCond .ge 19, 3) := by decide +kernel
theorem dX9_variables_23 : decode cX9_variables 23 = .ok (.aload_n 0, 1) := by decide +kernel
theorem dX9_variables_24 : decode cX9_variables 24 = .ok (.getfield 13, 3) := by decide +kernel
theorem dX9_variables_27 : decode cX9_variables 27 = .ok (.iconst 3, 1) := by decide +kernel
theorem dX9_variables_28 : decode cX9_variables 28 = .ok (.iload_n 1, 1) := by decide +kernel
theorem dX9_variables_29 : decode cX9_variables 29 = .ok (.imul, 1) := by decide +kernel
theorem dX9_variables_30 : decode cX9_variables 30 = .ok (.iload_n 3, 1) := by decide +kernel
theorem dX9_variables_31 : decode cX9_variables 31 = .ok (.iadd, 1) := by decide +kernel
theorem dX9_variables_32 : decode cX9_variables 32 = .ok (.iaload, 1) := by decide +kernel
theorem dX9_variables_33 : decode cX9_variables 33 = .ok (.invokestatic 82, 3) := by decide +kernel
theorem dX9_variables_36 : decode cX9_variables 36 = .ok (.goto 4, 3) := by decide +kernel
theorem dX9_variables_39 : decode cX9_variables 39 = .ok (.iconst 0, 1) := by decide +kernel
theorem dX9_variables_40 : decode cX9_variables 40 = .ok (.ior, 1) := by decide +kernel
theorem dX9_variables_41 : decode cX9_variables 41 = .ok (.istore_n 2, 1) := by decide +kernel
theorem dX9_variables_42 : decode cX9_variables 42 = .ok (.iinc 3 1, 3) := by decide +kernel
theorem dX9_variables_45 : decode cX9_variables 45 = .ok (.goto (-41), 3) := by decide +kernel
theorem dX9_variables_48 : decode cX9_variables 48 = .ok (.iload_n 2, 1) := by decide +kernel
theorem dX9_variables_49 : decode cX9_variables 49 = .ok (.ireturn, 1) := by decide +kernel
theorem dX9_product_0 : decode cX9_product 0 = .ok (.lload_n 2, 1) := by decide +kernel
theorem dX9_product_1 : decode cX9_product 1 = .ok (.lconst 0, 1) := by decide +kernel
theorem dX9_product_2 : decode cX9_product 2 = .ok (.lcmp, 1) := by decide +kernel
theorem dX9_product_3 : decode cX9_product 3 = .ok (.ifCond .ne 5, 3) := by decide +kernel
theorem dX9_product_6 : decode cX9_product 6 = .ok (.lconst 0, 1) := by decide +kernel
theorem dX9_product_7 : decode cX9_product 7 = .ok (.lreturn, 1) := by decide +kernel
theorem dX9_product_8 : decode cX9_product 8 = .ok (.lload_n 0, 1) := by decide +kernel
theorem dX9_product_9 : decode cX9_product 9 = .ok (.ldc2_w 86, 3) := by decide +kernel
theorem dX9_product_12 : decode cX9_product 12 = .ok (.lload_n 2, 1) := by decide +kernel
theorem dX9_product_13 : decode cX9_product 13 = .ok (.ldiv, 1) := by decide +kernel
theorem dX9_product_14 : decode cX9_product 14 = .ok (.lcmp, 1) := by decide +kernel
theorem dX9_product_15 : decode cX9_product 15 = .ok (.ifCond .le 9, 3) := by decide +kernel
theorem dX9_product_18 : decode cX9_product 18 = .ok (.ldc2_w 86, 3) := by decide +kernel
theorem dX9_product_21 : decode cX9_product 21 = .ok (.goto 6, 3) := by decide +kernel
theorem dX9_product_24 : decode cX9_product 24 = .ok (.lload_n 0, 1) := by decide +kernel
theorem dX9_product_25 : decode cX9_product 25 = .ok (.lload_n 2, 1) := by decide +kernel
theorem dX9_product_26 : decode cX9_product 26 = .ok (.lmul, 1) := by decide +kernel
theorem dX9_product_27 : decode cX9_product 27 = .ok (.lreturn, 1) := by decide +kernel
theorem dX9_estimated_0 : decode cX9_estimated 0 = .ok (.iload_n 2, 1) := by decide +kernel
theorem dX9_estimated_1 : decode cX9_estimated 1 = .ok (.aload_n 0, 1) := by decide +kernel
theorem dX9_estimated_2 : decode cX9_estimated 2 = .ok (.iload_n 1, 1) := by decide +kernel
theorem dX9_estimated_3 : decode cX9_estimated 3 = .ok (.invokevirtual 88, 3) := by decide +kernel
theorem dX9_estimated_6 : decode cX9_estimated 6 = .ok (.iand, 1) := by decide +kernel
theorem dX9_estimated_7 : decode cX9_estimated 7 = .ok (.istore_n 3, 1) := by decide +kernel
theorem dX9_estimated_8 : decode cX9_estimated 8 = .ok (.sipush 256, 3) := by decide +kernel
theorem dX9_estimated_11 : decode cX9_estimated 11 = .ok (.iload_n 1, 1) := by decide +kernel
theorem dX9_estimated_12 : decode cX9_estimated 12 = .ok (.imul, 1) := by decide +kernel
theorem dX9_estimated_13 : decode cX9_estimated 13 = .ok (.iload_n 3, 1) := by decide +kernel
theorem dX9_estimated_14 : decode cX9_estimated 14 = .ok (.iadd, 1) := by decide +kernel
theorem dX9_estimated_15 : decode cX9_estimated 15 = .ok (.istore 4, 2) := by decide +kernel
theorem dX9_estimated_17 : decode cX9_estimated 17 = .ok (.aload_n 0, 1) := by decide +kernel
theorem dX9_estimated_18 : decode cX9_estimated 18 = .ok (.getfield 19, 3) := by decide +kernel
theorem dX9_estimated_21 : decode cX9_estimated 21 = .ok (.iload 4, 2) := by decide +kernel
theorem dX9_estimated_23 : decode cX9_estimated 23 = .ok (.iaload, 1) := by decide +kernel
theorem dX9_estimated_24 : decode cX9_estimated 24 = .ok (.ifCond .ge 16, 3) := by decide +kernel
theorem dX9_estimated_27 : decode cX9_estimated 27 = .ok (.aload_n 0, 1) := by decide +kernel
theorem dX9_estimated_28 : decode cX9_estimated 28 = .ok (.getfield 19, 3) := by decide +kernel
theorem dX9_estimated_31 : decode cX9_estimated 31 = .ok (.iload 4, 2) := by decide +kernel
theorem dX9_estimated_33 : decode cX9_estimated 33 = .ok (.aload_n 0, 1) := by decide +kernel
theorem dX9_estimated_34 : decode cX9_estimated 34 = .ok (.iload_n 1, 1) := by decide +kernel
theorem dX9_estimated_35 : decode cX9_estimated 35 = .ok (.iload_n 3, 1) := by decide +kernel
theorem dX9_estimated_36 : decode cX9_estimated 36 = .ok (.invokevirtual 91, 3) := by decide +kernel
theorem dX9_estimated_39 : decode cX9_estimated 39 = .ok (.iastore, 1) := by decide +kernel
theorem dX9_estimated_40 : decode cX9_estimated 40 = .ok (.aload_n 0, 1) := by decide +kernel
theorem dX9_estimated_41 : decode cX9_estimated 41 = .ok (.getfield 19, 3) := by decide +kernel
theorem dX9_estimated_44 : decode cX9_estimated 44 = .ok (.iload 4, 2) := by decide +kernel
theorem dX9_estimated_46 : decode cX9_estimated 46 = .ok (.iaload, 1) := by decide +kernel
theorem dX9_estimated_47 : decode cX9_estimated 47 = .ok (.ireturn, 1) := by decide +kernel
theorem dX9_costOf_0 : decode cX9_costOf 0 = .ok (.lconst 1, 1) := by decide +kernel
theorem dX9_costOf_1 : decode cX9_costOf 1 = .ok (.lstore_n 2, 1) := by decide +kernel
theorem dX9_costOf_2 : decode cX9_costOf 2 = .ok (.lconst 0, 1) := by decide +kernel
theorem dX9_costOf_3 : decode cX9_costOf 3 = .ok (.lstore 4, 2) := by decide +kernel
theorem dX9_costOf_5 : decode cX9_costOf 5 = .ok (.iconst 0, 1) := by decide +kernel
theorem dX9_costOf_6 : decode cX9_costOf 6 = .ok (.istore 6, 2) := by decide +kernel
theorem dX9_costOf_8 : decode cX9_costOf 8 = .ok (.iconst 0, 1) := by decide +kernel
theorem dX9_costOf_9 : decode cX9_costOf 9 = .ok (.istore 7, 2) := by decide +kernel
theorem dX9_costOf_11 : decode cX9_costOf 11 = .ok (.iload 7, 2) := by decide +kernel
theorem dX9_costOf_13 : decode cX9_costOf 13 = .ok (.aload_n 0, 1) := by decide +kernel
theorem dX9_costOf_14 : decode cX9_costOf 14 = .ok (.getfield 65, 3) := by decide +kernel
theorem dX9_costOf_17 : decode cX9_costOf 17 = .ok (.if_icmp .ge 61, 3) := by decide +kernel
theorem dX9_costOf_20 : decode cX9_costOf 20 = .ok (.lload_n 2, 1) := by decide +kernel
theorem dX9_costOf_21 : decode cX9_costOf 21 = .ok (.aload_n 0, 1) := by decide +kernel
theorem dX9_costOf_22 : decode cX9_costOf 22 = .ok (.aload_n 1, 1) := by decide +kernel
theorem dX9_costOf_23 : decode cX9_costOf 23 = .ok (.iload 7, 2) := by decide +kernel
theorem dX9_costOf_25 : decode cX9_costOf 25 = .ok (.iaload, 1) := by decide +kernel
theorem dX9_costOf_26 : decode cX9_costOf 26 = .ok (.iload 6, 2) := by decide +kernel
theorem dX9_costOf_28 : decode cX9_costOf 28 = .ok (.invokevirtual 94, 3) := by decide +kernel
theorem dX9_costOf_31 : decode cX9_costOf 31 = .ok (.i2l, 1) := by decide +kernel
theorem dX9_costOf_32 : decode cX9_costOf 32 = .ok (.invokestatic 97, 3) := by decide +kernel
theorem dX9_costOf_35 : decode cX9_costOf 35 = .ok (.lstore_n 2, 1) := by decide +kernel
theorem dX9_costOf_36 : decode cX9_costOf 36 = .ok (.lload 4, 2) := by decide +kernel
theorem dX9_costOf_38 : decode cX9_costOf 38 = .ok (.lload_n 2, 1) := by decide +kernel
theorem dX9_costOf_39 : decode cX9_costOf 39 = .ok (.ladd, 1) := by decide +kernel
theorem dX9_costOf_40 : decode cX9_costOf 40 = .ok (.ldc2_w 86, 3) := by decide +kernel
theorem dX9_costOf_43 : decode cX9_costOf 43 = .ok (.lcmp, 1) := by decide +kernel
theorem dX9_costOf_44 : decode cX9_costOf 44 = .ok (.ifCond .le 9, 3) := by decide +kernel
theorem dX9_costOf_47 : decode cX9_costOf 47 = .ok (.ldc2_w 86, 3) := by decide +kernel
theorem dX9_costOf_50 : decode cX9_costOf 50 = .ok (.goto 7, 3) := by decide +kernel
theorem dX9_costOf_53 : decode cX9_costOf 53 = .ok (.lload 4, 2) := by decide +kernel
theorem dX9_costOf_55 : decode cX9_costOf 55 = .ok (.lload_n 2, 1) := by decide +kernel
theorem dX9_costOf_56 : decode cX9_costOf 56 = .ok (.ladd, 1) := by decide +kernel
theorem dX9_costOf_57 : decode cX9_costOf 57 = .ok (.lstore 4, 2) := by decide +kernel
theorem dX9_costOf_59 : decode cX9_costOf 59 = .ok (.iload 6, 2) := by decide +kernel
theorem dX9_costOf_61 : decode cX9_costOf 61 = .ok (.aload_n 0, 1) := by decide +kernel
theorem dX9_costOf_62 : decode cX9_costOf 62 = .ok (.aload_n 1, 1) := by decide +kernel
theorem dX9_costOf_63 : decode cX9_costOf 63 = .ok (.iload 7, 2) := by decide +kernel
theorem dX9_costOf_65 : decode cX9_costOf 65 = .ok (.iaload, 1) := by decide +kernel
theorem dX9_costOf_66 : decode cX9_costOf 66 = .ok (.invokevirtual 88, 3) := by decide +kernel
theorem dX9_costOf_69 : decode cX9_costOf 69 = .ok (.ior, 1) := by decide +kernel
theorem dX9_costOf_70 : decode cX9_costOf 70 = .ok (.istore 6, 2) := by decide +kernel
theorem dX9_costOf_72 : decode cX9_costOf 72 = .ok (.iinc 7 1, 3) := by decide +kernel
theorem dX9_costOf_75 : decode cX9_costOf 75 = .ok (.goto (-64), 3) := by decide +kernel
theorem dX9_costOf_78 : decode cX9_costOf 78 = .ok (.lload 4, 2) := by decide +kernel
theorem dX9_costOf_80 : decode cX9_costOf 80 = .ok (.lreturn, 1) := by decide +kernel
theorem dX9_turn_0 : decode cX9_turn 0 = .ok (.aload_n 0, 1) := by decide +kernel
theorem dX9_turn_1 : decode cX9_turn 1 = .ok (.getfield 65, 3) := by decide +kernel
theorem dX9_turn_4 : decode cX9_turn 4 = .ok (.iconst 2, 1) := by decide +kernel
theorem dX9_turn_5 : decode cX9_turn 5 = .ok (.isub, 1) := by decide +kernel
theorem dX9_turn_6 : decode cX9_turn 6 = .ok (.istore_n 1, 1) := by decide +kernel
theorem dX9_turn_7 : decode cX9_turn 7 = .ok (.iload_n 1, 1) := by decide +kernel
theorem dX9_turn_8 : decode cX9_turn 8 = .ok (.ifCond .lt 26, 3) := by decide +kernel
theorem dX9_turn_11 : decode cX9_turn 11 = .ok (.aload_n 0, 1) := by decide +kernel
theorem dX9_turn_12 : decode cX9_turn 12 = .ok (.getfield 22, 3) := by decide +kernel
theorem dX9_turn_15 : decode cX9_turn 15 = .ok (.iload_n 1, 1) := by decide +kernel
theorem dX9_turn_16 : decode cX9_turn 16 = .ok (.iaload, 1) := by decide +kernel
theorem dX9_turn_17 : decode cX9_turn 17 = .ok (.aload_n 0, 1) := by decide +kernel
theorem dX9_turn_18 : decode cX9_turn 18 = .ok (.getfield 22, 3) := by decide +kernel
theorem dX9_turn_21 : decode cX9_turn 21 = .ok (.iload_n 1, 1) := by decide +kernel
theorem dX9_turn_22 : decode cX9_turn 22 = .ok (.iconst 1, 1) := by decide +kernel
theorem dX9_turn_23 : decode cX9_turn 23 = .ok (.iadd, 1) := by decide +kernel
theorem dX9_turn_24 : decode cX9_turn 24 = .ok (.iaload, 1) := by decide +kernel
theorem dX9_turn_25 : decode cX9_turn 25 = .ok (.if_icmp .le 9, 3) := by decide +kernel
theorem dX9_turn_28 : decode cX9_turn 28 = .ok (.iinc 1 (-1), 3) := by decide +kernel
theorem dX9_turn_31 : decode cX9_turn 31 = .ok (.goto (-24), 3) := by decide +kernel
theorem dX9_turn_34 : decode cX9_turn 34 = .ok (.iload_n 1, 1) := by decide +kernel
theorem dX9_turn_35 : decode cX9_turn 35 = .ok (.ifCond .ge 5, 3) := by decide +kernel
theorem dX9_turn_38 : decode cX9_turn 38 = .ok (.iconst 0, 1) := by decide +kernel
theorem dX9_turn_39 : decode cX9_turn 39 = .ok (.ireturn, 1) := by decide +kernel
theorem dX9_turn_40 : decode cX9_turn 40 = .ok (.aload_n 0, 1) := by decide +kernel
