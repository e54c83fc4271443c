theorem dX7_extend_76 : decode cX7_extend 76 = .ok (.iconst 1, 1) := by decide +kernel
theorem dX7_extend_77 : decode cX7_extend 77 = .ok (.iadd, 1) := by decide +kernel
theorem dX7_extend_78 : decode cX7_extend 78 = .ok (.putfield 33, 3) := by decide +kernel
theorem dX7_extend_81 : decode cX7_extend 81 = .ok (.aload_n 0, 1) := by decide +kernel
theorem dX7_extend_82 : decode cX7_extend 82 = .ok (.getfield 33, 3) := by decide +kernel
theorem dX7_extend_85 : decode cX7_extend 85 = .ok (.sipush 20000, 3) := by decide +kernel
theorem dX7_extend_88 : decode cX7_extend 88 = .ok (.if_icmp .le 4, 3) := by decide +kernel
theorem dX7_extend_91 : decode cX7_extend 91 = .ok (.return_, 1) := by decide +kernel
theorem dX7_extend_92 : decode cX7_extend 92 = .ok (.aload_n 0, 1) := by decide +kernel
theorem dX7_extend_93 : decode cX7_extend 93 = .ok (.iload_n 1, 1) := by decide +kernel
theorem dX7_extend_94 : decode cX7_extend 94 = .ok (.iconst 1, 1) := by decide +kernel
theorem dX7_extend_95 : decode cX7_extend 95 = .ok (.iadd, 1) := by decide +kernel
theorem dX7_extend_96 : decode cX7_extend 96 = .ok (.aload 4, 2) := by decide +kernel
theorem dX7_extend_98 : decode cX7_extend 98 = .ok (.lload_n 2, 1) := by decide +kernel
theorem dX7_extend_99 : decode cX7_extend 99 = .ok (.iload 6, 2) := by decide +kernel
theorem dX7_extend_101 : decode cX7_extend 101 = .ok (.invokevirtual 91, 3) := by decide +kernel
theorem dX7_extend_104 : decode cX7_extend 104 = .ok (.invokestatic 71, 3) := by decide +kernel
theorem dX7_extend_107 : decode cX7_extend 107 = .ok (.iinc 6 1, 3) := by decide +kernel
theorem dX7_extend_110 : decode cX7_extend 110 = .ok (.goto (-61), 3) := by decide +kernel
theorem dX7_extend_113 : decode cX7_extend 113 = .ok (.return_, 1) := by decide +kernel
theorem dX4_init_0 : decode cX4_init 0 = .ok (.aload_n 0, 1) := by decide +kernel
theorem dX4_init_1 : decode cX4_init 1 = .ok (.invokespecial 3, 3) := by decide +kernel
theorem dX4_init_4 : decode cX4_init 4 = .ok (.aload_n 0, 1) := by decide +kernel
theorem dX4_init_5 : decode cX4_init 5 = .ok (.bipush 6, 2) := by decide +kernel
theorem dX4_init_7 : decode cX4_init 7 = .ok (.newarray .int, 2) := by decide +kernel
theorem dX4_init_9 : decode cX4_init 9 = .ok (.putfield 9, 3) := by decide +kernel
theorem dX4_init_12 : decode cX4_init 12 = .ok (.return_, 1) := by decide +kernel
theorem dX4_has_0 : decode cX4_has 0 = .ok (.aload_n 0, 1) := by decide +kernel
theorem dX4_has_1 : decode cX4_has 1 = .ok (.getfield 15, 3) := by decide +kernel
theorem dX4_has_4 : decode cX4_has 4 = .ok (.iconst 1, 1) := by decide +kernel
theorem dX4_has_5 : decode cX4_has 5 = .ok (.iload_n 1, 1) := by decide +kernel
theorem dX4_has_6 : decode cX4_has 6 = .ok (.ishl, 1) := by decide +kernel
theorem dX4_has_7 : decode cX4_has 7 = .ok (.iand, 1) := by decide +kernel
theorem dX4_has_8 : decode cX4_has 8 = .ok (.ifCond .eq 7, 3) := by decide +kernel
theorem dX4_has_11 : decode cX4_has 11 = .ok (.iconst 1, 1) := by decide +kernel
theorem dX4_has_12 : decode cX4_has 12 = .ok (.goto 4, 3) := by decide +kernel
theorem dX4_has_15 : decode cX4_has 15 = .ok (.iconst 0, 1) := by decide +kernel
theorem dX4_has_16 : decode cX4_has 16 = .ok (.ireturn, 1) := by decide +kernel
theorem dX4_at_0 : decode cX4_at 0 = .ok (.aload_n 0, 1) := by decide +kernel
theorem dX4_at_1 : decode cX4_at 1 = .ok (.getfield 9, 3) := by decide +kernel
theorem dX4_at_4 : decode cX4_at 4 = .ok (.iload_n 1, 1) := by decide +kernel
theorem dX4_at_5 : decode cX4_at 5 = .ok (.iaload, 1) := by decide +kernel
theorem dX4_at_6 : decode cX4_at 6 = .ok (.ireturn, 1) := by decide +kernel
theorem dX4_append_0 : decode cX4_append 0 = .ok (.aload_n 0, 1) := by decide +kernel
theorem dX4_append_1 : decode cX4_append 1 = .ok (.getfield 19, 3) := by decide +kernel
theorem dX4_append_4 : decode cX4_append 4 = .ok (.bipush 6, 2) := by decide +kernel
theorem dX4_append_6 : decode cX4_append 6 = .ok (.if_icmp .ge 35, 3) := by decide +kernel
theorem dX4_append_9 : decode cX4_append 9 = .ok (.aload_n 0, 1) := by decide +kernel
theorem dX4_append_10 : decode cX4_append 10 = .ok (.getfield 9, 3) := by decide +kernel
theorem dX4_append_13 : decode cX4_append 13 = .ok (.aload_n 0, 1) := by decide +kernel
theorem dX4_append_14 : decode cX4_append 14 = .ok (.getfield 19, 3) := by decide +kernel
theorem dX4_append_17 : decode cX4_append 17 = .ok (.iload_n 1, 1) := by decide +kernel
theorem dX4_append_18 : decode cX4_append 18 = .ok (.iastore, 1) := by decide +kernel
theorem dX4_append_19 : decode cX4_append 19 = .ok (.aload_n 0, 1) := by decide +kernel
theorem dX4_append_20 : decode cX4_append 20 = .ok (.dup, 1) := by decide +kernel
theorem dX4_append_21 : decode cX4_append 21 = .ok (.getfield 15, 3) := by decide +kernel
theorem dX4_append_24 : decode cX4_append 24 = .ok (.iconst 1, 1) := by decide +kernel
theorem dX4_append_25 : decode cX4_append 25 = .ok (.iload_n 1, 1) := by decide +kernel
theorem dX4_append_26 : decode cX4_append 26 = .ok (.ishl, 1) := by decide +kernel
theorem dX4_append_27 : decode cX4_append 27 = .ok (.ior, 1) := by decide +kernel
theorem dX4_append_28 : decode cX4_append 28 = .ok (.putfield 15, 3) := by decide +kernel
theorem dX4_append_31 : decode cX4_append 31 = .ok (.aload_n 0, 1) := by decide +kernel
theorem dX4_append_32 : decode cX4_append 32 = .ok (.dup, 1) := by decide +kernel
theorem dX4_append_33 : decode cX4_append 33 = .ok (.getfield 19, 3) := by decide +kernel
theorem dX4_append_36 : decode cX4_append 36 = .ok (.iconst 1, 1) := by decide +kernel
theorem dX4_append_37 : decode cX4_append 37 = .ok (.iadd, 1) := by decide +kernel
theorem dX4_append_38 : decode cX4_append 38 = .ok (.putfield 19, 3) := by decide +kernel
theorem dX4_append_41 : decode cX4_append 41 = .ok (.return_, 1) := by decide +kernel
theorem dX4_shorten_0 : decode cX4_shorten 0 = .ok (.aload_n 0, 1) := by decide +kernel
theorem dX4_shorten_1 : decode cX4_shorten 1 = .ok (.getfield 19, 3) := by decide +kernel
theorem dX4_shorten_4 : decode cX4_shorten 4 = .ok (.ifCond .le 35, 3) := by decide +kernel
theorem dX4_shorten_7 : decode cX4_shorten 7 = .ok (.aload_n 0, 1) := by decide +kernel
theorem dX4_shorten_8 : decode cX4_shorten 8 = .ok (.dup, 1) := by decide +kernel
theorem dX4_shorten_9 : decode cX4_shorten 9 = .ok (.getfield 19, 3) := by decide +kernel
theorem dX4_shorten_12 : decode cX4_shorten 12 = .ok (.iconst 1, 1) := by decide +kernel
theorem dX4_shorten_13 : decode cX4_shorten 13 = .ok (.isub, 1) := by decide +kernel
theorem dX4_shorten_14 : decode cX4_shorten 14 = .ok (.putfield 19, 3) := by decide +kernel
theorem dX4_shorten_17 : decode cX4_shorten 17 = .ok (.aload_n 0, 1) := by decide +kernel
theorem dX4_shorten_18 : decode cX4_shorten 18 = .ok (.dup, 1) := by decide +kernel
theorem dX4_shorten_19 : decode cX4_shorten 19 = .ok (.getfield 15, 3) := by decide +kernel
theorem dX4_shorten_22 : decode cX4_shorten 22 = .ok (.iconst 1, 1) := by decide +kernel
theorem dX4_shorten_23 : decode cX4_shorten 23 = .ok (.aload_n 0, 1) := by decide +kernel
theorem dX4_shorten_24 : decode cX4_shorten 24 = .ok (.getfield 9, 3) := by decide +kernel
theorem dX4_shorten_27 : decode cX4_shorten 27 = .ok (.aload_n 0, 1) := by decide +kernel
theorem dX4_shorten_28 : decode cX4_shorten 28 = .ok (.getfield 19, 3) := by decide +kernel
theorem dX4_shorten_31 : decode cX4_shorten 31 = .ok (.iaload, 1) := by decide +kernel
theorem dX4_shorten_32 : decode cX4_shorten 32 = .ok (.ishl, 1) := by decide +kernel
theorem dX4_shorten_33 : decode cX4_shorten 33 = .ok (.iconst (-1), 1) := by decide +kernel
theorem dX4_shorten_34 : decode cX4_shorten 34 = .ok (.ixor, 1) := by decide +kernel
theorem dX4_shorten_35 : decode cX4_shorten 35 = .ok (.iand, 1) := by decide +kernel
theorem dX4_shorten_36 : decode cX4_shorten 36 = .ok (.putfield 15, 3) := by decide +kernel
theorem dX4_shorten_39 : decode cX4_shorten 39 = .ok (.return_, 1) := by decide +kernel
theorem dX4_makeEmpty_0 : decode cX4_makeEmpty 0 = .ok (.aload_n 0, 1) := by decide +kernel
theorem dX4_makeEmpty_1 : decode cX4_makeEmpty 1 = .ok (.iconst 0, 1) := by decide +kernel
theorem dX4_makeEmpty_2 : decode cX4_makeEmpty 2 = .ok (.putfield 19, 3) := by decide +kernel
theorem dX4_makeEmpty_5 : decode cX4_makeEmpty 5 = .ok (.aload_n 0, 1) := by decide +kernel
theorem dX4_makeEmpty_6 : decode cX4_makeEmpty 6 = .ok (.iconst 0, 1) := by decide +kernel
theorem dX4_makeEmpty_7 : decode cX4_makeEmpty 7 = .ok (.putfield 15, 3) := by decide +kernel
theorem dX4_makeEmpty_10 : decode cX4_makeEmpty 10 = .ok (.return_, 1) := by decide +kernel
theorem dX4_copy_0 : decode cX4_copy 0 = .ok (.aload_n 1, 1) := by decide +kernel
theorem dX4_copy_1 : decode cX4_copy 1 = .ok (.getfield 9, 3) := by decide +kernel
theorem dX4_copy_4 : decode cX4_copy 4 = .ok (.iconst 0, 1) := by decide +kernel
theorem dX4_copy_5 : decode cX4_copy 5 = .ok (.aload_n 0, 1) := by decide +kernel
theorem dX4_copy_6 : decode cX4_copy 6 = .ok (.getfield 9, 3) := by decide +kernel
theorem dX4_copy_9 : decode cX4_copy 9 = .ok (.iconst 0, 1) := by decide +kernel
theorem dX4_copy_10 : decode cX4_copy 10 = .ok (.bipush 6, 2) := by decide +kernel
theorem dX4_copy_12 : decode cX4_copy 12 = .ok (.invokestatic 22, 3) := by decide +kernel
theorem dX4_copy_15 : decode cX4_copy 15 = .ok (.aload_n 0, 1) := by decide +kernel
theorem dX4_copy_16 : decode cX4_copy 16 = .ok (.aload_n 1, 1) := by decide +kernel
theorem dX4_copy_17 : decode cX4_copy 17 = .ok (.getfield 19, 3) := by decide +kernel
theorem dX4_copy_20 : decode cX4_copy 20 = .ok (.putfield 19, 3) := by decide +kernel
theorem dX4_copy_23 : decode cX4_copy 23 = .ok (.aload_n 0, 1) := by decide +kernel
theorem dX4_copy_24 : decode cX4_copy 24 = .ok (.aload_n 1, 1) := by decide +kernel
theorem dX4_copy_25 : decode cX4_copy 25 = .ok (.getfield 15, 3) := by decide +kernel
theorem dX4_copy_28 : decode cX4_copy 28 = .ok (.putfield 15, 3) := by decide +kernel
theorem dX4_copy_31 : decode cX4_copy 31 = .ok (.return_, 1) := by decide +kernel
theorem dX2_init_0 : decode cX2_init 0 = .ok (.aload_n 0, 1) := by decide +kernel
theorem dX2_init_1 : decode cX2_init 1 = .ok (.invokespecial 3, 3) := by decide +kernel
theorem dX2_init_4 : decode cX2_init 4 = .ok (.aload_n 0, 1) := by decide +kernel
theorem dX2_init_5 : decode cX2_init 5 = .ok (.iconst 3, 1) := by decide +kernel
theorem dX2_init_6 : decode cX2_init 6 = .ok (.newarray .int, 2) := by decide +kernel
theorem dX2_init_8 : decode cX2_init 8 = .ok (.putfield 9, 3) := by decide +kernel
theorem dX2_init_11 : decode cX2_init 11 = .ok (.aload_n 0, 1) := by decide +kernel
theorem dX2_init_12 : decode cX2_init 12 = .ok (.iconst 3, 1) := by decide +kernel
theorem dX2_init_13 : decode cX2_init 13 = .ok (.newarray .int, 2) := by decide +kernel
theorem dX2_init_15 : decode cX2_init 15 = .ok (.putfield 15, 3) := by decide +kernel
theorem dX2_init_18 : decode cX2_init 18 = .ok (.return_, 1) := by decide +kernel
theorem dX2_become_0 : decode cX2_become 0 = .ok (.aload_n 0, 1) := by decide +kernel
theorem dX2_become_1 : decode cX2_become 1 = .ok (.getfield 9, 3) := by decide +kernel
theorem dX2_become_4 : decode cX2_become 4 = .ok (.iconst 0, 1) := by decide +kernel
theorem dX2_become_5 : decode cX2_become 5 = .ok (.iload_n 1, 1) := by decide +kernel
theorem dX2_become_6 : decode cX2_become 6 = .ok (.iastore, 1) := by decide +kernel
theorem dX2_become_7 : decode cX2_become 7 = .ok (.aload_n 0, 1) := by decide +kernel
theorem dX2_become_8 : decode cX2_become 8 = .ok (.getfield 9, 3) := by decide +kernel
theorem dX2_become_11 : decode cX2_become 11 = .ok (.iconst 1, 1) := by decide +kernel
theorem dX2_become_12 : decode cX2_become 12 = .ok (.iload_n 2, 1) := by decide +kernel
theorem dX2_become_13 : decode cX2_become 13 = .ok (.iastore, 1) := by decide +kernel
theorem dX2_become_14 : decode cX2_become 14 = .ok (.aload_n 0, 1) := by decide +kernel
theorem dX2_become_15 : decode cX2_become 15 = .ok (.getfield 9, 3) := by decide +kernel
theorem dX2_become_18 : decode cX2_become 18 = .ok (.iconst 2, 1) := by decide +kernel
theorem dX2_become_19 : decode cX2_become 19 = .ok (.iload_n 3, 1) := by decide +kernel
theorem dX2_become_20 : decode cX2_become 20 = .ok (.iastore, 1) := by decide +kernel
theorem dX2_become_21 : decode cX2_become 21 = .ok (.return_, 1) := by decide +kernel
theorem dX2_variables_0 : decode cX2_variables 0 = .ok (.iconst 0, 1) := by decide +kernel
theorem dX2_variables_1 : decode cX2_variables 1 = .ok (.istore_n 1, 1) := by decide +kernel
theorem dX2_variables_2 : decode cX2_variables 2 = .ok (.iconst 0, 1) := by decide +kernel
theorem dX2_variables_3 : decode cX2_variables 3 = .ok (.istore_n 2, 1) := by decide +kernel
theorem dX2_variables_4 : decode cX2_variables 4 = .ok (.iload_n 2, 1) := by decide +kernel
theorem dX2_variables_5 : decode cX2_variables 5 = .ok (.iconst 3, 1) := by decide +kernel
theorem dX2_variables_6 : decode cX2_variables 6 = .ok (.if_icmp .ge 30, 3) := by decide +kernel
theorem dX2_variables_9 : decode cX2_variables 9 = .ok (.aload_n 0, 1) := by decide +kernel
theorem dX2_variables_10 : decode cX2_variables 10 = .ok (.getfield 9, 3) := by decide +kernel
theorem dX2_variables_13 : decode cX2_variables 13 = .ok (.iload_n 2, 1) := by decide +kernel
theorem dX2_variables_14 : decode cX2_variables 14 = .ok (.iaload, 1) := by decide +kernel
theorem dX2_variables_15 : decode cX2_variables 15 = .ok (.ifCond .ge 15, 3) := by decide +kernel
theorem dX2_variables_18 : decode cX2_variables 18 = .ok (.iload_n 1, 1) := by decide +kernel
theorem dX2_variables_19 : decode cX2_variables 19 = .ok (.aload_n 0, 1) := by decide +kernel
theorem dX2_variables_20 : decode cX2_variables 20 = .ok (.getfield 9, 3) := by decide +kernel
theorem dX2_variables_23 : decode cX2_variables 23 = .ok (.iload_n 2, 1) := by decide +kernel
theorem dX2_variables_24 : decode cX2_variables 24 = .ok (.iaload, 1) := by decide +kernel
