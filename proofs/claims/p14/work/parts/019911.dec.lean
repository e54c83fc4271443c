theorem dX9_value_63 : decode cX9_value 63 = .ok (.goto 21, 3) := by decide +kernel
theorem dX9_value_66 : decode cX9_value 66 = .ok (.aload_n 0, 1) := by decide +kernel
theorem dX9_value_67 : decode cX9_value 67 = .ok (.getfield 38, 3) := by decide +kernel
theorem dX9_value_70 : decode cX9_value 70 = .ok (.bipush 8, 2) := by decide +kernel
theorem dX9_value_72 : decode cX9_value 72 = .ok (.aload_n 0, 1) := by decide +kernel
theorem dX9_value_73 : decode cX9_value 73 = .ok (.getfield 45, 3) := by decide +kernel
theorem dX9_value_76 : decode cX9_value 76 = .ok (.iload_n 1, 1) := by decide +kernel
theorem dX9_value_77 : decode cX9_value 77 = .ok (.iaload, 1) := by decide +kernel
theorem dX9_value_78 : decode cX9_value 78 = .ok (.imul, 1) := by decide +kernel
theorem dX9_value_79 : decode cX9_value 79 = .ok (.iconst 1, 1) := by decide +kernel
theorem dX9_value_80 : decode cX9_value 80 = .ok (.isub, 1) := by decide +kernel
theorem dX9_value_81 : decode cX9_value 81 = .ok (.iload_n 2, 1) := by decide +kernel
theorem dX9_value_82 : decode cX9_value 82 = .ok (.isub, 1) := by decide +kernel
theorem dX9_value_83 : decode cX9_value 83 = .ok (.iaload, 1) := by decide +kernel
theorem dX9_value_84 : decode cX9_value 84 = .ok (.ireturn, 1) := by decide +kernel
theorem dX7_init_0 : decode cX7_init 0 = .ok (.aload_n 0, 1) := by decide +kernel
theorem dX7_init_1 : decode cX7_init 1 = .ok (.invokespecial 3, 3) := by decide +kernel
theorem dX7_init_4 : decode cX7_init 4 = .ok (.aload_n 0, 1) := by decide +kernel
theorem dX7_init_5 : decode cX7_init 5 = .ok (.bipush 6, 2) := by decide +kernel
theorem dX7_init_7 : decode cX7_init 7 = .ok (.anewarray 9, 3) := by decide +kernel
theorem dX7_init_10 : decode cX7_init 10 = .ok (.putfield 11, 3) := by decide +kernel
theorem dX7_init_13 : decode cX7_init 13 = .ok (.aload_n 0, 1) := by decide +kernel
theorem dX7_init_14 : decode cX7_init 14 = .ok (.new 17, 3) := by decide +kernel
theorem dX7_init_17 : decode cX7_init 17 = .ok (.dup, 1) := by decide +kernel
theorem dX7_init_18 : decode cX7_init 18 = .ok (.invokespecial 19, 3) := by decide +kernel
theorem dX7_init_21 : decode cX7_init 21 = .ok (.putfield 20, 3) := by decide +kernel
theorem dX7_init_24 : decode cX7_init 24 = .ok (.iconst 0, 1) := by decide +kernel
theorem dX7_init_25 : decode cX7_init 25 = .ok (.istore_n 1, 1) := by decide +kernel
theorem dX7_init_26 : decode cX7_init 26 = .ok (.iload_n 1, 1) := by decide +kernel
theorem dX7_init_27 : decode cX7_init 27 = .ok (.bipush 6, 2) := by decide +kernel
theorem dX7_init_29 : decode cX7_init 29 = .ok (.if_icmp .ge 22, 3) := by decide +kernel
theorem dX7_init_32 : decode cX7_init 32 = .ok (.aload_n 0, 1) := by decide +kernel
theorem dX7_init_33 : decode cX7_init 33 = .ok (.getfield 11, 3) := by decide +kernel
theorem dX7_init_36 : decode cX7_init 36 = .ok (.iload_n 1, 1) := by decide +kernel
theorem dX7_init_37 : decode cX7_init 37 = .ok (.new 9, 3) := by decide +kernel
theorem dX7_init_40 : decode cX7_init 40 = .ok (.dup, 1) := by decide +kernel
theorem dX7_init_41 : decode cX7_init 41 = .ok (.invokespecial 24, 3) := by decide +kernel
theorem dX7_init_44 : decode cX7_init 44 = .ok (.aastore, 1) := by decide +kernel
theorem dX7_init_45 : decode cX7_init 45 = .ok (.iinc 1 1, 3) := by decide +kernel
theorem dX7_init_48 : decode cX7_init 48 = .ok (.goto (-22), 3) := by decide +kernel
theorem dX7_init_51 : decode cX7_init 51 = .ok (.return_, 1) := by decide +kernel
theorem dX7_countRows_0 : decode cX7_countRows 0 = .ok (.aload_n 0, 1) := by decide +kernel
theorem dX7_countRows_1 : decode cX7_countRows 1 = .ok (.iconst 0, 1) := by decide +kernel
theorem dX7_countRows_2 : decode cX7_countRows 2 = .ok (.putfield 25, 3) := by decide +kernel
theorem dX7_countRows_5 : decode cX7_countRows 5 = .ok (.aload_n 0, 1) := by decide +kernel
theorem dX7_countRows_6 : decode cX7_countRows 6 = .ok (.aload_n 1, 1) := by decide +kernel
theorem dX7_countRows_7 : decode cX7_countRows 7 = .ok (.aload_n 2, 1) := by decide +kernel
theorem dX7_countRows_8 : decode cX7_countRows 8 = .ok (.aload_n 3, 1) := by decide +kernel
theorem dX7_countRows_9 : decode cX7_countRows 9 = .ok (.invokevirtual 29, 3) := by decide +kernel
theorem dX7_countRows_12 : decode cX7_countRows 12 = .ok (.aload_n 0, 1) := by decide +kernel
theorem dX7_countRows_13 : decode cX7_countRows 13 = .ok (.getfield 33, 3) := by decide +kernel
theorem dX7_countRows_16 : decode cX7_countRows 16 = .ok (.sipush 20000, 3) := by decide +kernel
theorem dX7_countRows_19 : decode cX7_countRows 19 = .ok (.if_icmp .le 8, 3) := by decide +kernel
theorem dX7_countRows_22 : decode cX7_countRows 22 = .ok (.bipush (-2), 2) := by decide +kernel
theorem dX7_countRows_24 : decode cX7_countRows 24 = .ok (.goto 7, 3) := by decide +kernel
theorem dX7_countRows_27 : decode cX7_countRows 27 = .ok (.aload_n 0, 1) := by decide +kernel
theorem dX7_countRows_28 : decode cX7_countRows 28 = .ok (.getfield 33, 3) := by decide +kernel
theorem dX7_countRows_31 : decode cX7_countRows 31 = .ok (.ireturn, 1) := by decide +kernel
theorem dX7_collect_0 : decode cX7_collect 0 = .ok (.aload_n 0, 1) := by decide +kernel
theorem dX7_collect_1 : decode cX7_collect 1 = .ok (.iconst 1, 1) := by decide +kernel
theorem dX7_collect_2 : decode cX7_collect 2 = .ok (.putfield 25, 3) := by decide +kernel
theorem dX7_collect_5 : decode cX7_collect 5 = .ok (.aload_n 0, 1) := by decide +kernel
theorem dX7_collect_6 : decode cX7_collect 6 = .ok (.getfield 20, 3) := by decide +kernel
theorem dX7_collect_9 : decode cX7_collect 9 = .ok (.invokevirtual 37, 3) := by decide +kernel
theorem dX7_collect_12 : decode cX7_collect 12 = .ok (.aload_n 0, 1) := by decide +kernel
theorem dX7_collect_13 : decode cX7_collect 13 = .ok (.aload_n 1, 1) := by decide +kernel
theorem dX7_collect_14 : decode cX7_collect 14 = .ok (.aload_n 2, 1) := by decide +kernel
theorem dX7_collect_15 : decode cX7_collect 15 = .ok (.aload_n 3, 1) := by decide +kernel
theorem dX7_collect_16 : decode cX7_collect 16 = .ok (.invokevirtual 29, 3) := by decide +kernel
theorem dX7_collect_19 : decode cX7_collect 19 = .ok (.aload_n 0, 1) := by decide +kernel
theorem dX7_collect_20 : decode cX7_collect 20 = .ok (.getfield 33, 3) := by decide +kernel
theorem dX7_collect_23 : decode cX7_collect 23 = .ok (.sipush 20000, 3) := by decide +kernel
theorem dX7_collect_26 : decode cX7_collect 26 = .ok (.if_icmp .le 6, 3) := by decide +kernel
theorem dX7_collect_29 : decode cX7_collect 29 = .ok (.bipush (-2), 2) := by decide +kernel
theorem dX7_collect_31 : decode cX7_collect 31 = .ok (.ireturn, 1) := by decide +kernel
theorem dX7_collect_32 : decode cX7_collect 32 = .ok (.aload_n 0, 1) := by decide +kernel
theorem dX7_collect_33 : decode cX7_collect 33 = .ok (.getfield 20, 3) := by decide +kernel
theorem dX7_collect_36 : decode cX7_collect 36 = .ok (.invokevirtual 40, 3) := by decide +kernel
theorem dX7_collect_39 : decode cX7_collect 39 = .ok (.aload_n 0, 1) := by decide +kernel
theorem dX7_collect_40 : decode cX7_collect 40 = .ok (.getfield 20, 3) := by decide +kernel
theorem dX7_collect_43 : decode cX7_collect 43 = .ok (.getfield 43, 3) := by decide +kernel
theorem dX7_collect_46 : decode cX7_collect 46 = .ok (.ireturn, 1) := by decide +kernel
theorem dX7_walk_0 : decode cX7_walk 0 = .ok (.iconst 0, 1) := by decide +kernel
theorem dX7_walk_1 : decode cX7_walk 1 = .ok (.istore 4, 2) := by decide +kernel
theorem dX7_walk_3 : decode cX7_walk 3 = .ok (.iconst 0, 1) := by decide +kernel
theorem dX7_walk_4 : decode cX7_walk 4 = .ok (.istore 5, 2) := by decide +kernel
theorem dX7_walk_6 : decode cX7_walk 6 = .ok (.iload 5, 2) := by decide +kernel
theorem dX7_walk_8 : decode cX7_walk 8 = .ok (.aload_n 1, 1) := by decide +kernel
theorem dX7_walk_9 : decode cX7_walk 9 = .ok (.getfield 46, 3) := by decide +kernel
theorem dX7_walk_12 : decode cX7_walk 12 = .ok (.if_icmp .ge 46, 3) := by decide +kernel
theorem dX7_walk_15 : decode cX7_walk 15 = .ok (.aload_n 2, 1) := by decide +kernel
theorem dX7_walk_16 : decode cX7_walk 16 = .ok (.aload_n 1, 1) := by decide +kernel
theorem dX7_walk_17 : decode cX7_walk 17 = .ok (.iload 5, 2) := by decide +kernel
theorem dX7_walk_19 : decode cX7_walk 19 = .ok (.invokevirtual 51, 3) := by decide +kernel
theorem dX7_walk_22 : decode cX7_walk 22 = .ok (.invokevirtual 55, 3) := by decide +kernel
theorem dX7_walk_25 : decode cX7_walk 25 = .ok (.astore 6, 2) := by decide +kernel
theorem dX7_walk_27 : decode cX7_walk 27 = .ok (.aload_n 0, 1) := by decide +kernel
theorem dX7_walk_28 : decode cX7_walk 28 = .ok (.getfield 11, 3) := by decide +kernel
theorem dX7_walk_31 : decode cX7_walk 31 = .ok (.iload 5, 2) := by decide +kernel
theorem dX7_walk_33 : decode cX7_walk 33 = .ok (.aaload, 1) := by decide +kernel
theorem dX7_walk_34 : decode cX7_walk 34 = .ok (.aload 6, 2) := by decide +kernel
theorem dX7_walk_36 : decode cX7_walk 36 = .ok (.iload 4, 2) := by decide +kernel
theorem dX7_walk_38 : decode cX7_walk 38 = .ok (.aload_n 3, 1) := by decide +kernel
theorem dX7_walk_39 : decode cX7_walk 39 = .ok (.invokevirtual 60, 3) := by decide +kernel
theorem dX7_walk_42 : decode cX7_walk 42 = .ok (.iload 4, 2) := by decide +kernel
theorem dX7_walk_44 : decode cX7_walk 44 = .ok (.aload 6, 2) := by decide +kernel
theorem dX7_walk_46 : decode cX7_walk 46 = .ok (.invokevirtual 64, 3) := by decide +kernel
theorem dX7_walk_49 : decode cX7_walk 49 = .ok (.ior, 1) := by decide +kernel
theorem dX7_walk_50 : decode cX7_walk 50 = .ok (.istore 4, 2) := by decide +kernel
theorem dX7_walk_52 : decode cX7_walk 52 = .ok (.iinc 5 1, 3) := by decide +kernel
theorem dX7_walk_55 : decode cX7_walk 55 = .ok (.goto (-49), 3) := by decide +kernel
theorem dX7_walk_58 : decode cX7_walk 58 = .ok (.aload_n 0, 1) := by decide +kernel
theorem dX7_walk_59 : decode cX7_walk 59 = .ok (.aload_n 1, 1) := by decide +kernel
theorem dX7_walk_60 : decode cX7_walk 60 = .ok (.getfield 46, 3) := by decide +kernel
theorem dX7_walk_63 : decode cX7_walk 63 = .ok (.putfield 70, 3) := by decide +kernel
theorem dX7_walk_66 : decode cX7_walk 66 = .ok (.aload_n 0, 1) := by decide +kernel
theorem dX7_walk_67 : decode cX7_walk 67 = .ok (.iconst 0, 1) := by decide +kernel
theorem dX7_walk_68 : decode cX7_walk 68 = .ok (.putfield 33, 3) := by decide +kernel
theorem dX7_walk_71 : decode cX7_walk 71 = .ok (.aload_n 0, 1) := by decide +kernel
theorem dX7_walk_72 : decode cX7_walk 72 = .ok (.iconst 0, 1) := by decide +kernel
theorem dX7_walk_73 : decode cX7_walk 73 = .ok (.lconst 0, 1) := by decide +kernel
theorem dX7_walk_74 : decode cX7_walk 74 = .ok (.invokestatic 71, 3) := by decide +kernel
theorem dX7_walk_77 : decode cX7_walk 77 = .ok (.return_, 1) := by decide +kernel
theorem dX7_extend_0 : decode cX7_extend 0 = .ok (.iload_n 1, 1) := by decide +kernel
theorem dX7_extend_1 : decode cX7_extend 1 = .ok (.aload_n 0, 1) := by decide +kernel
theorem dX7_extend_2 : decode cX7_extend 2 = .ok (.getfield 70, 3) := by decide +kernel
theorem dX7_extend_5 : decode cX7_extend 5 = .ok (.if_icmp .lt 19, 3) := by decide +kernel
theorem dX7_extend_8 : decode cX7_extend 8 = .ok (.aload_n 0, 1) := by decide +kernel
theorem dX7_extend_9 : decode cX7_extend 9 = .ok (.getfield 25, 3) := by decide +kernel
theorem dX7_extend_12 : decode cX7_extend 12 = .ok (.ifCond .eq 11, 3) := by decide +kernel
theorem dX7_extend_15 : decode cX7_extend 15 = .ok (.aload_n 0, 1) := by decide +kernel
theorem dX7_extend_16 : decode cX7_extend 16 = .ok (.getfield 20, 3) := by decide +kernel
theorem dX7_extend_19 : decode cX7_extend 19 = .ok (.lload_n 2, 1) := by decide +kernel
theorem dX7_extend_20 : decode cX7_extend 20 = .ok (.invokevirtual 75, 3) := by decide +kernel
theorem dX7_extend_23 : decode cX7_extend 23 = .ok (.return_, 1) := by decide +kernel
theorem dX7_extend_24 : decode cX7_extend 24 = .ok (.aload_n 0, 1) := by decide +kernel
theorem dX7_extend_25 : decode cX7_extend 25 = .ok (.getfield 11, 3) := by decide +kernel
theorem dX7_extend_28 : decode cX7_extend 28 = .ok (.iload_n 1, 1) := by decide +kernel
theorem dX7_extend_29 : decode cX7_extend 29 = .ok (.aaload, 1) := by decide +kernel
theorem dX7_extend_30 : decode cX7_extend 30 = .ok (.astore 4, 2) := by decide +kernel
theorem dX7_extend_32 : decode cX7_extend 32 = .ok (.aload 4, 2) := by decide +kernel
theorem dX7_extend_34 : decode cX7_extend 34 = .ok (.lload_n 2, 1) := by decide +kernel
theorem dX7_extend_35 : decode cX7_extend 35 = .ok (.invokevirtual 79, 3) := by decide +kernel
theorem dX7_extend_38 : decode cX7_extend 38 = .ok (.istore 5, 2) := by decide +kernel
theorem dX7_extend_40 : decode cX7_extend 40 = .ok (.aload 4, 2) := by decide +kernel
theorem dX7_extend_42 : decode cX7_extend 42 = .ok (.iload 5, 2) := by decide +kernel
theorem dX7_extend_44 : decode cX7_extend 44 = .ok (.invokevirtual 83, 3) := by decide +kernel
theorem dX7_extend_47 : decode cX7_extend 47 = .ok (.istore 6, 2) := by decide +kernel
theorem dX7_extend_49 : decode cX7_extend 49 = .ok (.iload 6, 2) := by decide +kernel
theorem dX7_extend_51 : decode cX7_extend 51 = .ok (.aload 4, 2) := by decide +kernel
theorem dX7_extend_53 : decode cX7_extend 53 = .ok (.getfield 86, 3) := by decide +kernel
theorem dX7_extend_56 : decode cX7_extend 56 = .ok (.if_icmp .ge 57, 3) := by decide +kernel
theorem dX7_extend_59 : decode cX7_extend 59 = .ok (.aload 4, 2) := by decide +kernel
theorem dX7_extend_61 : decode cX7_extend 61 = .ok (.iload 6, 2) := by decide +kernel
theorem dX7_extend_63 : decode cX7_extend 63 = .ok (.iload 5, 2) := by decide +kernel
theorem dX7_extend_65 : decode cX7_extend 65 = .ok (.invokevirtual 87, 3) := by decide +kernel
theorem dX7_extend_68 : decode cX7_extend 68 = .ok (.ifCond .eq 45, 3) := by decide +kernel
theorem dX7_extend_71 : decode cX7_extend 71 = .ok (.aload_n 0, 1) := by decide +kernel
theorem dX7_extend_72 : decode cX7_extend 72 = .ok (.dup, 1) := by decide +kernel
theorem dX7_extend_73 : decode cX7_extend 73 = .ok (.getfield 33, 3) := by decide +kernel
