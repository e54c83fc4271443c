theorem dX9_turn_41 : decode cX9_turn 41 = .ok (.getfield 65, 3) := by decide +kernel
theorem dX9_turn_44 : decode cX9_turn 44 = .ok (.iconst 1, 1) := by decide +kernel
theorem dX9_turn_45 : decode cX9_turn 45 = .ok (.isub, 1) := by decide +kernel
theorem dX9_turn_46 : decode cX9_turn 46 = .ok (.istore_n 2, 1) := by decide +kernel
theorem dX9_turn_47 : decode cX9_turn 47 = .ok (.aload_n 0, 1) := by decide +kernel
theorem dX9_turn_48 : decode cX9_turn 48 = .ok (.getfield 22, 3) := by decide +kernel
theorem dX9_turn_51 : decode cX9_turn 51 = .ok (.iload_n 2, 1) := by decide +kernel
theorem dX9_turn_52 : decode cX9_turn 52 = .ok (.iaload, 1) := by decide +kernel
theorem dX9_turn_53 : decode cX9_turn 53 = .ok (.aload_n 0, 1) := by decide +kernel
theorem dX9_turn_54 : decode cX9_turn 54 = .ok (.getfield 22, 3) := by decide +kernel
theorem dX9_turn_57 : decode cX9_turn 57 = .ok (.iload_n 1, 1) := by decide +kernel
theorem dX9_turn_58 : decode cX9_turn 58 = .ok (.iaload, 1) := by decide +kernel
theorem dX9_turn_59 : decode cX9_turn 59 = .ok (.if_icmp .ge 9, 3) := by decide +kernel
theorem dX9_turn_62 : decode cX9_turn 62 = .ok (.iinc 2 (-1), 3) := by decide +kernel
theorem dX9_turn_65 : decode cX9_turn 65 = .ok (.goto (-18), 3) := by decide +kernel
theorem dX9_turn_68 : decode cX9_turn 68 = .ok (.aload_n 0, 1) := by decide +kernel
theorem dX9_turn_69 : decode cX9_turn 69 = .ok (.iload_n 1, 1) := by decide +kernel
theorem dX9_turn_70 : decode cX9_turn 70 = .ok (.iload_n 2, 1) := by decide +kernel
theorem dX9_turn_71 : decode cX9_turn 71 = .ok (.invokevirtual 101, 3) := by decide +kernel
theorem dX9_turn_74 : decode cX9_turn 74 = .ok (.iconst 1, 1) := by decide +kernel
theorem dX9_turn_75 : decode cX9_turn 75 = .ok (.istore_n 3, 1) := by decide +kernel
theorem dX9_turn_76 : decode cX9_turn 76 = .ok (.iload_n 1, 1) := by decide +kernel
theorem dX9_turn_77 : decode cX9_turn 77 = .ok (.iload_n 3, 1) := by decide +kernel
theorem dX9_turn_78 : decode cX9_turn 78 = .ok (.iadd, 1) := by decide +kernel
theorem dX9_turn_79 : decode cX9_turn 79 = .ok (.aload_n 0, 1) := by decide +kernel
theorem dX9_turn_80 : decode cX9_turn 80 = .ok (.getfield 65, 3) := by decide +kernel
theorem dX9_turn_83 : decode cX9_turn 83 = .ok (.iload_n 3, 1) := by decide +kernel
theorem dX9_turn_84 : decode cX9_turn 84 = .ok (.isub, 1) := by decide +kernel
theorem dX9_turn_85 : decode cX9_turn 85 = .ok (.if_icmp .ge 22, 3) := by decide +kernel
theorem dX9_turn_88 : decode cX9_turn 88 = .ok (.aload_n 0, 1) := by decide +kernel
theorem dX9_turn_89 : decode cX9_turn 89 = .ok (.iload_n 1, 1) := by decide +kernel
theorem dX9_turn_90 : decode cX9_turn 90 = .ok (.iload_n 3, 1) := by decide +kernel
theorem dX9_turn_91 : decode cX9_turn 91 = .ok (.iadd, 1) := by decide +kernel
theorem dX9_turn_92 : decode cX9_turn 92 = .ok (.aload_n 0, 1) := by decide +kernel
theorem dX9_turn_93 : decode cX9_turn 93 = .ok (.getfield 65, 3) := by decide +kernel
theorem dX9_turn_96 : decode cX9_turn 96 = .ok (.iload_n 3, 1) := by decide +kernel
theorem dX9_turn_97 : decode cX9_turn 97 = .ok (.isub, 1) := by decide +kernel
theorem dX9_turn_98 : decode cX9_turn 98 = .ok (.invokevirtual 101, 3) := by decide +kernel
theorem dX9_turn_101 : decode cX9_turn 101 = .ok (.iinc 3 1, 3) := by decide +kernel
theorem dX9_turn_104 : decode cX9_turn 104 = .ok (.goto (-28), 3) := by decide +kernel
theorem dX9_turn_107 : decode cX9_turn 107 = .ok (.iconst 1, 1) := by decide +kernel
theorem dX9_turn_108 : decode cX9_turn 108 = .ok (.ireturn, 1) := by decide +kernel
theorem dX9_change_0 : decode cX9_change 0 = .ok (.aload_n 0, 1) := by decide +kernel
theorem dX9_change_1 : decode cX9_change 1 = .ok (.getfield 22, 3) := by decide +kernel
theorem dX9_change_4 : decode cX9_change 4 = .ok (.iload_n 1, 1) := by decide +kernel
theorem dX9_change_5 : decode cX9_change 5 = .ok (.iaload, 1) := by decide +kernel
theorem dX9_change_6 : decode cX9_change 6 = .ok (.istore_n 3, 1) := by decide +kernel
theorem dX9_change_7 : decode cX9_change 7 = .ok (.aload_n 0, 1) := by decide +kernel
theorem dX9_change_8 : decode cX9_change 8 = .ok (.getfield 22, 3) := by decide +kernel
theorem dX9_change_11 : decode cX9_change 11 = .ok (.iload_n 1, 1) := by decide +kernel
theorem dX9_change_12 : decode cX9_change 12 = .ok (.aload_n 0, 1) := by decide +kernel
theorem dX9_change_13 : decode cX9_change 13 = .ok (.getfield 22, 3) := by decide +kernel
theorem dX9_change_16 : decode cX9_change 16 = .ok (.iload_n 2, 1) := by decide +kernel
theorem dX9_change_17 : decode cX9_change 17 = .ok (.iaload, 1) := by decide +kernel
theorem dX9_change_18 : decode cX9_change 18 = .ok (.iastore, 1) := by decide +kernel
theorem dX9_change_19 : decode cX9_change 19 = .ok (.aload_n 0, 1) := by decide +kernel
theorem dX9_change_20 : decode cX9_change 20 = .ok (.getfield 22, 3) := by decide +kernel
theorem dX9_change_23 : decode cX9_change 23 = .ok (.iload_n 2, 1) := by decide +kernel
theorem dX9_change_24 : decode cX9_change 24 = .ok (.iload_n 3, 1) := by decide +kernel
theorem dX9_change_25 : decode cX9_change 25 = .ok (.iastore, 1) := by decide +kernel
theorem dX9_change_26 : decode cX9_change 26 = .ok (.return_, 1) := by decide +kernel
theorem dX9_choose_0 : decode cX9_choose 0 = .ok (.iconst 0, 1) := by decide +kernel
theorem dX9_choose_1 : decode cX9_choose 1 = .ok (.istore_n 1, 1) := by decide +kernel
theorem dX9_choose_2 : decode cX9_choose 2 = .ok (.iload_n 1, 1) := by decide +kernel
theorem dX9_choose_3 : decode cX9_choose 3 = .ok (.sipush 1536, 3) := by decide +kernel
theorem dX9_choose_6 : decode cX9_choose 6 = .ok (.if_icmp .ge 16, 3) := by decide +kernel
theorem dX9_choose_9 : decode cX9_choose 9 = .ok (.aload_n 0, 1) := by decide +kernel
theorem dX9_choose_10 : decode cX9_choose 10 = .ok (.getfield 19, 3) := by decide +kernel
theorem dX9_choose_13 : decode cX9_choose 13 = .ok (.iload_n 1, 1) := by decide +kernel
theorem dX9_choose_14 : decode cX9_choose 14 = .ok (.iconst (-1), 1) := by decide +kernel
theorem dX9_choose_15 : decode cX9_choose 15 = .ok (.iastore, 1) := by decide +kernel
theorem dX9_choose_16 : decode cX9_choose 16 = .ok (.iinc 1 1, 3) := by decide +kernel
theorem dX9_choose_19 : decode cX9_choose 19 = .ok (.goto (-17), 3) := by decide +kernel
theorem dX9_choose_22 : decode cX9_choose 22 = .ok (.iconst 0, 1) := by decide +kernel
theorem dX9_choose_23 : decode cX9_choose 23 = .ok (.istore_n 1, 1) := by decide +kernel
theorem dX9_choose_24 : decode cX9_choose 24 = .ok (.iload_n 1, 1) := by decide +kernel
theorem dX9_choose_25 : decode cX9_choose 25 = .ok (.aload_n 0, 1) := by decide +kernel
theorem dX9_choose_26 : decode cX9_choose 26 = .ok (.getfield 65, 3) := by decide +kernel
theorem dX9_choose_29 : decode cX9_choose 29 = .ok (.if_icmp .ge 16, 3) := by decide +kernel
theorem dX9_choose_32 : decode cX9_choose 32 = .ok (.aload_n 0, 1) := by decide +kernel
theorem dX9_choose_33 : decode cX9_choose 33 = .ok (.getfield 22, 3) := by decide +kernel
theorem dX9_choose_36 : decode cX9_choose 36 = .ok (.iload_n 1, 1) := by decide +kernel
theorem dX9_choose_37 : decode cX9_choose 37 = .ok (.iload_n 1, 1) := by decide +kernel
theorem dX9_choose_38 : decode cX9_choose 38 = .ok (.iastore, 1) := by decide +kernel
theorem dX9_choose_39 : decode cX9_choose 39 = .ok (.iinc 1 1, 3) := by decide +kernel
theorem dX9_choose_42 : decode cX9_choose 42 = .ok (.goto (-18), 3) := by decide +kernel
theorem dX9_choose_45 : decode cX9_choose 45 = .ok (.aload_n 0, 1) := by decide +kernel
theorem dX9_choose_46 : decode cX9_choose 46 = .ok (.ldc2_w 105, 3) := by decide +kernel
theorem dX9_choose_49 : decode cX9_choose 49 = .ok (.putfield 107, 3) := by decide +kernel
theorem dX9_choose_52 : decode cX9_choose 52 = .ok (.iconst 1, 1) := by decide +kernel
theorem dX9_choose_53 : decode cX9_choose 53 = .ok (.istore_n 1, 1) := by decide +kernel
theorem dX9_choose_54 : decode cX9_choose 54 = .ok (.iload_n 1, 1) := by decide +kernel
theorem dX9_choose_55 : decode cX9_choose 55 = .ok (.ifCond .eq 75, 3) := by decide +kernel
theorem dX9_choose_58 : decode cX9_choose 58 = .ok (.aload_n 0, 1) := by decide +kernel
theorem dX9_choose_59 : decode cX9_choose 59 = .ok (.aload_n 0, 1) := by decide +kernel
theorem dX9_choose_60 : decode cX9_choose 60 = .ok (.getfield 22, 3) := by decide +kernel
theorem dX9_choose_63 : decode cX9_choose 63 = .ok (.invokevirtual 111, 3) := by decide +kernel
theorem dX9_choose_66 : decode cX9_choose 66 = .ok (.lstore_n 2, 1) := by decide +kernel
theorem dX9_choose_67 : decode cX9_choose 67 = .ok (.aload_n 0, 1) := by decide +kernel
theorem dX9_choose_68 : decode cX9_choose 68 = .ok (.getfield 107, 3) := by decide +kernel
theorem dX9_choose_71 : decode cX9_choose 71 = .ok (.lconst 0, 1) := by decide +kernel
theorem dX9_choose_72 : decode cX9_choose 72 = .ok (.lcmp, 1) := by decide +kernel
theorem dX9_choose_73 : decode cX9_choose 73 = .ok (.ifCond .lt 12, 3) := by decide +kernel
theorem dX9_choose_76 : decode cX9_choose 76 = .ok (.lload_n 2, 1) := by decide +kernel
theorem dX9_choose_77 : decode cX9_choose 77 = .ok (.aload_n 0, 1) := by decide +kernel
theorem dX9_choose_78 : decode cX9_choose 78 = .ok (.getfield 107, 3) := by decide +kernel
theorem dX9_choose_81 : decode cX9_choose 81 = .ok (.lcmp, 1) := by decide +kernel
theorem dX9_choose_82 : decode cX9_choose 82 = .ok (.ifCond .ge 40, 3) := by decide +kernel
theorem dX9_choose_85 : decode cX9_choose 85 = .ok (.aload_n 0, 1) := by decide +kernel
theorem dX9_choose_86 : decode cX9_choose 86 = .ok (.lload_n 2, 1) := by decide +kernel
theorem dX9_choose_87 : decode cX9_choose 87 = .ok (.putfield 107, 3) := by decide +kernel
theorem dX9_choose_90 : decode cX9_choose 90 = .ok (.iconst 0, 1) := by decide +kernel
theorem dX9_choose_91 : decode cX9_choose 91 = .ok (.istore 4, 2) := by decide +kernel
theorem dX9_choose_93 : decode cX9_choose 93 = .ok (.iload 4, 2) := by decide +kernel
theorem dX9_choose_95 : decode cX9_choose 95 = .ok (.aload_n 0, 1) := by decide +kernel
theorem dX9_choose_96 : decode cX9_choose 96 = .ok (.getfield 65, 3) := by decide +kernel
theorem dX9_choose_99 : decode cX9_choose 99 = .ok (.if_icmp .ge 23, 3) := by decide +kernel
theorem dX9_choose_102 : decode cX9_choose 102 = .ok (.aload_n 0, 1) := by decide +kernel
theorem dX9_choose_103 : decode cX9_choose 103 = .ok (.getfield 25, 3) := by decide +kernel
theorem dX9_choose_106 : decode cX9_choose 106 = .ok (.iload 4, 2) := by decide +kernel
theorem dX9_choose_108 : decode cX9_choose 108 = .ok (.aload_n 0, 1) := by decide +kernel
theorem dX9_choose_109 : decode cX9_choose 109 = .ok (.getfield 22, 3) := by decide +kernel
theorem dX9_choose_112 : decode cX9_choose 112 = .ok (.iload 4, 2) := by decide +kernel
theorem dX9_choose_114 : decode cX9_choose 114 = .ok (.iaload, 1) := by decide +kernel
theorem dX9_choose_115 : decode cX9_choose 115 = .ok (.iastore, 1) := by decide +kernel
theorem dX9_choose_116 : decode cX9_choose 116 = .ok (.iinc 4 1, 3) := by decide +kernel
theorem dX9_choose_119 : decode cX9_choose 119 = .ok (.goto (-26), 3) := by decide +kernel
theorem dX9_choose_122 : decode cX9_choose 122 = .ok (.aload_n 0, 1) := by decide +kernel
theorem dX9_choose_123 : decode cX9_choose 123 = .ok (.invokevirtual 115, 3) := by decide +kernel
theorem dX9_choose_126 : decode cX9_choose 126 = .ok (.istore_n 1, 1) := by decide +kernel
theorem dX9_choose_127 : decode cX9_choose 127 = .ok (.goto (-73), 3) := by decide +kernel
theorem dX9_choose_130 : decode cX9_choose 130 = .ok (.return_, 1) := by decide +kernel
theorem dX9_plan_0 : decode cX9_plan 0 = .ok (.aload_n 0, 1) := by decide +kernel
theorem dX9_plan_1 : decode cX9_plan 1 = .ok (.iload_n 1, 1) := by decide +kernel
theorem dX9_plan_2 : decode cX9_plan 2 = .ok (.invokevirtual 75, 3) := by decide +kernel
theorem dX9_plan_5 : decode cX9_plan 5 = .ok (.ifCond .ne 5, 3) := by decide +kernel
theorem dX9_plan_8 : decode cX9_plan 8 = .ok (.iconst (-1), 1) := by decide +kernel
theorem dX9_plan_9 : decode cX9_plan 9 = .ok (.ireturn, 1) := by decide +kernel
theorem dX9_plan_10 : decode cX9_plan 10 = .ok (.aload_n 0, 1) := by decide +kernel
theorem dX9_plan_11 : decode cX9_plan 11 = .ok (.invokevirtual 119, 3) := by decide +kernel
theorem dX9_plan_14 : decode cX9_plan 14 = .ok (.aload_n 0, 1) := by decide +kernel
theorem dX9_plan_15 : decode cX9_plan 15 = .ok (.getfield 25, 3) := by decide +kernel
theorem dX9_plan_18 : decode cX9_plan 18 = .ok (.iload_n 1, 1) := by decide +kernel
theorem dX9_plan_19 : decode cX9_plan 19 = .ok (.iaload, 1) := by decide +kernel
theorem dX9_plan_20 : decode cX9_plan 20 = .ok (.ireturn, 1) := by decide +kernel
theorem dX9_cost_0 : decode cX9_cost 0 = .ok (.aload_n 0, 1) := by decide +kernel
theorem dX9_cost_1 : decode cX9_cost 1 = .ok (.invokevirtual 119, 3) := by decide +kernel
theorem dX9_cost_4 : decode cX9_cost 4 = .ok (.aload_n 0, 1) := by decide +kernel
theorem dX9_cost_5 : decode cX9_cost 5 = .ok (.getfield 107, 3) := by decide +kernel
theorem dX9_cost_8 : decode cX9_cost 8 = .ok (.lreturn, 1) := by decide +kernel
theorem dX9_use_0 : decode cX9_use 0 = .ok (.aload_n 0, 1) := by decide +kernel
theorem dX9_use_1 : decode cX9_use 1 = .ok (.iload_n 1, 1) := by decide +kernel
theorem dX9_use_2 : decode cX9_use 2 = .ok (.invokevirtual 75, 3) := by decide +kernel
theorem dX9_use_5 : decode cX9_use 5 = .ok (.ifCond .ne 5, 3) := by decide +kernel
theorem dX9_use_8 : decode cX9_use 8 = .ok (.iconst (-1), 1) := by decide +kernel
theorem dX9_use_9 : decode cX9_use 9 = .ok (.ireturn, 1) := by decide +kernel
theorem dX9_use_10 : decode cX9_use 10 = .ok (.iconst 0, 1) := by decide +kernel
theorem dX9_use_11 : decode cX9_use 11 = .ok (.istore_n 2, 1) := by decide +kernel
theorem dX9_use_12 : decode cX9_use 12 = .ok (.iload_n 2, 1) := by decide +kernel
theorem dX9_use_13 : decode cX9_use 13 = .ok (.aload_n 0, 1) := by decide +kernel
