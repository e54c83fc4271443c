theorem dX2_estimated_52 : decode cX2_estimated 52 = .ok (.iload_n 2, 1) := by decide +kernel
theorem dX2_estimated_53 : decode cX2_estimated 53 = .ok (.iadd, 1) := by decide +kernel
theorem dX2_estimated_54 : decode cX2_estimated 54 = .ok (.iconst 1, 1) := by decide +kernel
theorem dX2_estimated_55 : decode cX2_estimated 55 = .ok (.isub, 1) := by decide +kernel
theorem dX2_estimated_56 : decode cX2_estimated 56 = .ok (.iload_n 2, 1) := by decide +kernel
theorem dX2_estimated_57 : decode cX2_estimated 57 = .ok (.idiv, 1) := by decide +kernel
theorem dX2_estimated_58 : decode cX2_estimated 58 = .ok (.ireturn, 1) := by decide +kernel
theorem dX2_fits_0 : decode cX2_fits 0 = .ok (.aload_n 0, 1) := by decide +kernel
theorem dX2_fits_1 : decode cX2_fits 1 = .ok (.getfield 9, 3) := by decide +kernel
theorem dX2_fits_4 : decode cX2_fits 4 = .ok (.iconst 0, 1) := by decide +kernel
theorem dX2_fits_5 : decode cX2_fits 5 = .ok (.iaload, 1) := by decide +kernel
theorem dX2_fits_6 : decode cX2_fits 6 = .ok (.ifCond .lt 13, 3) := by decide +kernel
theorem dX2_fits_9 : decode cX2_fits 9 = .ok (.aload_n 0, 1) := by decide +kernel
theorem dX2_fits_10 : decode cX2_fits 10 = .ok (.getfield 9, 3) := by decide +kernel
theorem dX2_fits_13 : decode cX2_fits 13 = .ok (.iconst 0, 1) := by decide +kernel
theorem dX2_fits_14 : decode cX2_fits 14 = .ok (.iaload, 1) := by decide +kernel
theorem dX2_fits_15 : decode cX2_fits 15 = .ok (.iload_n 1, 1) := by decide +kernel
theorem dX2_fits_16 : decode cX2_fits 16 = .ok (.if_icmp .ne 105, 3) := by decide +kernel
theorem dX2_fits_19 : decode cX2_fits 19 = .ok (.aload_n 0, 1) := by decide +kernel
theorem dX2_fits_20 : decode cX2_fits 20 = .ok (.getfield 9, 3) := by decide +kernel
theorem dX2_fits_23 : decode cX2_fits 23 = .ok (.iconst 1, 1) := by decide +kernel
theorem dX2_fits_24 : decode cX2_fits 24 = .ok (.iaload, 1) := by decide +kernel
theorem dX2_fits_25 : decode cX2_fits 25 = .ok (.ifCond .lt 13, 3) := by decide +kernel
theorem dX2_fits_28 : decode cX2_fits 28 = .ok (.aload_n 0, 1) := by decide +kernel
theorem dX2_fits_29 : decode cX2_fits 29 = .ok (.getfield 9, 3) := by decide +kernel
theorem dX2_fits_32 : decode cX2_fits 32 = .ok (.iconst 1, 1) := by decide +kernel
theorem dX2_fits_33 : decode cX2_fits 33 = .ok (.iaload, 1) := by decide +kernel
theorem dX2_fits_34 : decode cX2_fits 34 = .ok (.iload_n 2, 1) := by decide +kernel
theorem dX2_fits_35 : decode cX2_fits 35 = .ok (.if_icmp .ne 86, 3) := by decide +kernel
theorem dX2_fits_38 : decode cX2_fits 38 = .ok (.aload_n 0, 1) := by decide +kernel
theorem dX2_fits_39 : decode cX2_fits 39 = .ok (.getfield 9, 3) := by decide +kernel
theorem dX2_fits_42 : decode cX2_fits 42 = .ok (.iconst 2, 1) := by decide +kernel
theorem dX2_fits_43 : decode cX2_fits 43 = .ok (.iaload, 1) := by decide +kernel
theorem dX2_fits_44 : decode cX2_fits 44 = .ok (.ifCond .lt 13, 3) := by decide +kernel
theorem dX2_fits_47 : decode cX2_fits 47 = .ok (.aload_n 0, 1) := by decide +kernel
theorem dX2_fits_48 : decode cX2_fits 48 = .ok (.getfield 9, 3) := by decide +kernel
theorem dX2_fits_51 : decode cX2_fits 51 = .ok (.iconst 2, 1) := by decide +kernel
theorem dX2_fits_52 : decode cX2_fits 52 = .ok (.iaload, 1) := by decide +kernel
theorem dX2_fits_53 : decode cX2_fits 53 = .ok (.iload_n 3, 1) := by decide +kernel
theorem dX2_fits_54 : decode cX2_fits 54 = .ok (.if_icmp .ne 67, 3) := by decide +kernel
theorem dX2_fits_57 : decode cX2_fits 57 = .ok (.aload_n 0, 1) := by decide +kernel
theorem dX2_fits_58 : decode cX2_fits 58 = .ok (.getfield 9, 3) := by decide +kernel
theorem dX2_fits_61 : decode cX2_fits 61 = .ok (.iconst 0, 1) := by decide +kernel
theorem dX2_fits_62 : decode cX2_fits 62 = .ok (.iaload, 1) := by decide +kernel
theorem dX2_fits_63 : decode cX2_fits 63 = .ok (.aload_n 0, 1) := by decide +kernel
theorem dX2_fits_64 : decode cX2_fits 64 = .ok (.getfield 9, 3) := by decide +kernel
theorem dX2_fits_67 : decode cX2_fits 67 = .ok (.iconst 1, 1) := by decide +kernel
theorem dX2_fits_68 : decode cX2_fits 68 = .ok (.iaload, 1) := by decide +kernel
theorem dX2_fits_69 : decode cX2_fits 69 = .ok (.if_icmp .ne 8, 3) := by decide +kernel
theorem dX2_fits_72 : decode cX2_fits 72 = .ok (.iload_n 1, 1) := by decide +kernel
theorem dX2_fits_73 : decode cX2_fits 73 = .ok (.iload_n 2, 1) := by decide +kernel
theorem dX2_fits_74 : decode cX2_fits 74 = .ok (.if_icmp .ne 47, 3) := by decide +kernel
theorem dX2_fits_77 : decode cX2_fits 77 = .ok (.aload_n 0, 1) := by decide +kernel
theorem dX2_fits_78 : decode cX2_fits 78 = .ok (.getfield 9, 3) := by decide +kernel
theorem dX2_fits_81 : decode cX2_fits 81 = .ok (.iconst 1, 1) := by decide +kernel
theorem dX2_fits_82 : decode cX2_fits 82 = .ok (.iaload, 1) := by decide +kernel
theorem dX2_fits_83 : decode cX2_fits 83 = .ok (.aload_n 0, 1) := by decide +kernel
theorem dX2_fits_84 : decode cX2_fits 84 = .ok (.getfield 9, 3) := by decide +kernel
theorem dX2_fits_87 : decode cX2_fits 87 = .ok (.iconst 2, 1) := by decide +kernel
theorem dX2_fits_88 : decode cX2_fits 88 = .ok (.iaload, 1) := by decide +kernel
theorem dX2_fits_89 : decode cX2_fits 89 = .ok (.if_icmp .ne 8, 3) := by decide +kernel
theorem dX2_fits_92 : decode cX2_fits 92 = .ok (.iload_n 2, 1) := by decide +kernel
theorem dX2_fits_93 : decode cX2_fits 93 = .ok (.iload_n 3, 1) := by decide +kernel
theorem dX2_fits_94 : decode cX2_fits 94 = .ok (.if_icmp .ne 27, 3) := by decide +kernel
theorem dX2_fits_97 : decode cX2_fits 97 = .ok (.aload_n 0, 1) := by decide +kernel
theorem dX2_fits_98 : decode cX2_fits 98 = .ok (.getfield 9, 3) := by decide +kernel
theorem dX2_fits_101 : decode cX2_fits 101 = .ok (.iconst 0, 1) := by decide +kernel
theorem dX2_fits_102 : decode cX2_fits 102 = .ok (.iaload, 1) := by decide +kernel
theorem dX2_fits_103 : decode cX2_fits 103 = .ok (.aload_n 0, 1) := by decide +kernel
theorem dX2_fits_104 : decode cX2_fits 104 = .ok (.getfield 9, 3) := by decide +kernel
theorem dX2_fits_107 : decode cX2_fits 107 = .ok (.iconst 2, 1) := by decide +kernel
theorem dX2_fits_108 : decode cX2_fits 108 = .ok (.iaload, 1) := by decide +kernel
theorem dX2_fits_109 : decode cX2_fits 109 = .ok (.if_icmp .ne 8, 3) := by decide +kernel
theorem dX2_fits_112 : decode cX2_fits 112 = .ok (.iload_n 1, 1) := by decide +kernel
theorem dX2_fits_113 : decode cX2_fits 113 = .ok (.iload_n 3, 1) := by decide +kernel
theorem dX2_fits_114 : decode cX2_fits 114 = .ok (.if_icmp .ne 7, 3) := by decide +kernel
theorem dX2_fits_117 : decode cX2_fits 117 = .ok (.iconst 1, 1) := by decide +kernel
theorem dX2_fits_118 : decode cX2_fits 118 = .ok (.goto 4, 3) := by decide +kernel
theorem dX2_fits_121 : decode cX2_fits 121 = .ok (.iconst 0, 1) := by decide +kernel
theorem dX2_fits_122 : decode cX2_fits 122 = .ok (.ireturn, 1) := by decide +kernel
theorem dX3_init_0 : decode cX3_init 0 = .ok (.aload_n 0, 1) := by decide +kernel
theorem dX3_init_1 : decode cX3_init 1 = .ok (.invokespecial 3, 3) := by decide +kernel
theorem dX3_init_4 : decode cX3_init 4 = .ok (.aload_n 0, 1) := by decide +kernel
theorem dX3_init_5 : decode cX3_init 5 = .ok (.bipush 6, 2) := by decide +kernel
theorem dX3_init_7 : decode cX3_init 7 = .ok (.anewarray 9, 3) := by decide +kernel
theorem dX3_init_10 : decode cX3_init 10 = .ok (.putfield 11, 3) := by decide +kernel
theorem dX3_init_13 : decode cX3_init 13 = .ok (.iconst 0, 1) := by decide +kernel
theorem dX3_init_14 : decode cX3_init 14 = .ok (.istore_n 1, 1) := by decide +kernel
theorem dX3_init_15 : decode cX3_init 15 = .ok (.iload_n 1, 1) := by decide +kernel
theorem dX3_init_16 : decode cX3_init 16 = .ok (.bipush 6, 2) := by decide +kernel
theorem dX3_init_18 : decode cX3_init 18 = .ok (.if_icmp .ge 22, 3) := by decide +kernel
theorem dX3_init_21 : decode cX3_init 21 = .ok (.aload_n 0, 1) := by decide +kernel
theorem dX3_init_22 : decode cX3_init 22 = .ok (.getfield 11, 3) := by decide +kernel
theorem dX3_init_25 : decode cX3_init 25 = .ok (.iload_n 1, 1) := by decide +kernel
theorem dX3_init_26 : decode cX3_init 26 = .ok (.new 9, 3) := by decide +kernel
theorem dX3_init_29 : decode cX3_init 29 = .ok (.dup, 1) := by decide +kernel
theorem dX3_init_30 : decode cX3_init 30 = .ok (.invokespecial 17, 3) := by decide +kernel
theorem dX3_init_33 : decode cX3_init 33 = .ok (.aastore, 1) := by decide +kernel
theorem dX3_init_34 : decode cX3_init 34 = .ok (.iinc 1 1, 3) := by decide +kernel
theorem dX3_init_37 : decode cX3_init 37 = .ok (.goto (-22), 3) := by decide +kernel
theorem dX3_init_40 : decode cX3_init 40 = .ok (.return_, 1) := by decide +kernel
theorem dX3_has_0 : decode cX3_has 0 = .ok (.iload_n 1, 1) := by decide +kernel
theorem dX3_has_1 : decode cX3_has 1 = .ok (.ifCond .lt 15, 3) := by decide +kernel
theorem dX3_has_4 : decode cX3_has 4 = .ok (.iload_n 1, 1) := by decide +kernel
theorem dX3_has_5 : decode cX3_has 5 = .ok (.aload_n 0, 1) := by decide +kernel
theorem dX3_has_6 : decode cX3_has 6 = .ok (.getfield 18, 3) := by decide +kernel
theorem dX3_has_9 : decode cX3_has 9 = .ok (.if_icmp .ge 7, 3) := by decide +kernel
theorem dX3_has_12 : decode cX3_has 12 = .ok (.iconst 1, 1) := by decide +kernel
theorem dX3_has_13 : decode cX3_has 13 = .ok (.goto 4, 3) := by decide +kernel
theorem dX3_has_16 : decode cX3_has 16 = .ok (.iconst 0, 1) := by decide +kernel
theorem dX3_has_17 : decode cX3_has 17 = .ok (.ireturn, 1) := by decide +kernel
theorem dX3_at_0 : decode cX3_at 0 = .ok (.aload_n 0, 1) := by decide +kernel
theorem dX3_at_1 : decode cX3_at 1 = .ok (.getfield 11, 3) := by decide +kernel
theorem dX3_at_4 : decode cX3_at 4 = .ok (.iload_n 1, 1) := by decide +kernel
theorem dX3_at_5 : decode cX3_at 5 = .ok (.aaload, 1) := by decide +kernel
theorem dX3_at_6 : decode cX3_at 6 = .ok (.areturn, 1) := by decide +kernel
theorem dX3_append_0 : decode cX3_append 0 = .ok (.aload_n 0, 1) := by decide +kernel
theorem dX3_append_1 : decode cX3_append 1 = .ok (.getfield 18, 3) := by decide +kernel
theorem dX3_append_4 : decode cX3_append 4 = .ok (.bipush 6, 2) := by decide +kernel
theorem dX3_append_6 : decode cX3_append 6 = .ok (.if_icmp .ge 28, 3) := by decide +kernel
theorem dX3_append_9 : decode cX3_append 9 = .ok (.aload_n 0, 1) := by decide +kernel
theorem dX3_append_10 : decode cX3_append 10 = .ok (.getfield 11, 3) := by decide +kernel
theorem dX3_append_13 : decode cX3_append 13 = .ok (.aload_n 0, 1) := by decide +kernel
theorem dX3_append_14 : decode cX3_append 14 = .ok (.getfield 18, 3) := by decide +kernel
theorem dX3_append_17 : decode cX3_append 17 = .ok (.aaload, 1) := by decide +kernel
theorem dX3_append_18 : decode cX3_append 18 = .ok (.iload_n 1, 1) := by decide +kernel
theorem dX3_append_19 : decode cX3_append 19 = .ok (.iload_n 2, 1) := by decide +kernel
theorem dX3_append_20 : decode cX3_append 20 = .ok (.iload_n 3, 1) := by decide +kernel
theorem dX3_append_21 : decode cX3_append 21 = .ok (.invokevirtual 22, 3) := by decide +kernel
theorem dX3_append_24 : decode cX3_append 24 = .ok (.aload_n 0, 1) := by decide +kernel
theorem dX3_append_25 : decode cX3_append 25 = .ok (.dup, 1) := by decide +kernel
theorem dX3_append_26 : decode cX3_append 26 = .ok (.getfield 18, 3) := by decide +kernel
theorem dX3_append_29 : decode cX3_append 29 = .ok (.iconst 1, 1) := by decide +kernel
theorem dX3_append_30 : decode cX3_append 30 = .ok (.iadd, 1) := by decide +kernel
theorem dX3_append_31 : decode cX3_append 31 = .ok (.putfield 18, 3) := by decide +kernel
theorem dX3_append_34 : decode cX3_append 34 = .ok (.return_, 1) := by decide +kernel
theorem dX3_makeEmpty_0 : decode cX3_makeEmpty 0 = .ok (.aload_n 0, 1) := by decide +kernel
theorem dX3_makeEmpty_1 : decode cX3_makeEmpty 1 = .ok (.iconst 0, 1) := by decide +kernel
theorem dX3_makeEmpty_2 : decode cX3_makeEmpty 2 = .ok (.putfield 18, 3) := by decide +kernel
theorem dX3_makeEmpty_5 : decode cX3_makeEmpty 5 = .ok (.return_, 1) := by decide +kernel
theorem dX3_variables_0 : decode cX3_variables 0 = .ok (.iconst 0, 1) := by decide +kernel
theorem dX3_variables_1 : decode cX3_variables 1 = .ok (.istore_n 1, 1) := by decide +kernel
theorem dX3_variables_2 : decode cX3_variables 2 = .ok (.iconst 0, 1) := by decide +kernel
theorem dX3_variables_3 : decode cX3_variables 3 = .ok (.istore_n 2, 1) := by decide +kernel
theorem dX3_variables_4 : decode cX3_variables 4 = .ok (.iload_n 2, 1) := by decide +kernel
theorem dX3_variables_5 : decode cX3_variables 5 = .ok (.aload_n 0, 1) := by decide +kernel
theorem dX3_variables_6 : decode cX3_variables 6 = .ok (.getfield 18, 3) := by decide +kernel
theorem dX3_variables_9 : decode cX3_variables 9 = .ok (.if_icmp .ge 21, 3) := by decide +kernel
theorem dX3_variables_12 : decode cX3_variables 12 = .ok (.iload_n 1, 1) := by decide +kernel
theorem dX3_variables_13 : decode cX3_variables 13 = .ok (.aload_n 0, 1) := by decide +kernel
theorem dX3_variables_14 : decode cX3_variables 14 = .ok (.getfield 11, 3) := by decide +kernel
theorem dX3_variables_17 : decode cX3_variables 17 = .ok (.iload_n 2, 1) := by decide +kernel
theorem dX3_variables_18 : decode cX3_variables 18 = .ok (.aaload, 1) := by decide +kernel
theorem dX3_variables_19 : decode cX3_variables 19 = .ok (.invokevirtual 26, 3) := by decide +kernel
theorem dX3_variables_22 : decode cX3_variables 22 = .ok (.ior, 1) := by decide +kernel
theorem dX3_variables_23 : decode cX3_variables 23 = .ok (.istore_n 1, 1) := by decide +kernel
theorem dX3_variables_24 : decode cX3_variables 24 = .ok (.iinc 2 1, 3) := by decide +kernel
theorem dX3_variables_27 : decode cX3_variables 27 = .ok (.goto (-23), 3) := by decide +kernel
theorem dX3_variables_30 : decode cX3_variables 30 = .ok (.iload_n 1, 1) := by decide +kernel
theorem dX3_variables_31 : decode cX3_variables 31 = .ok (.ireturn, 1) := by decide +kernel
