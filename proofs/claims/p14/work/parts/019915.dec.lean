theorem dX3_measure_0 : decode cX3_measure 0 = .ok (.aload_n 0, 1) := by decide +kernel
theorem dX3_measure_1 : decode cX3_measure 1 = .ok (.getfield 30, 3) := by decide +kernel
theorem dX3_measure_4 : decode cX3_measure 4 = .ok (.ifCond .eq 4, 3) := by decide +kernel
theorem dX3_measure_7 : decode cX3_measure 7 = .ok (.return_, 1) := by decide +kernel
theorem dX3_measure_8 : decode cX3_measure 8 = .ok (.iconst 0, 1) := by decide +kernel
theorem dX3_measure_9 : decode cX3_measure 9 = .ok (.istore_n 2, 1) := by decide +kernel
theorem dX3_measure_10 : decode cX3_measure 10 = .ok (.iload_n 2, 1) := by decide +kernel
theorem dX3_measure_11 : decode cX3_measure 11 = .ok (.aload_n 0, 1) := by decide +kernel
theorem dX3_measure_12 : decode cX3_measure 12 = .ok (.getfield 18, 3) := by decide +kernel
theorem dX3_measure_15 : decode cX3_measure 15 = .ok (.if_icmp .ge 19, 3) := by decide +kernel
theorem dX3_measure_18 : decode cX3_measure 18 = .ok (.aload_n 0, 1) := by decide +kernel
theorem dX3_measure_19 : decode cX3_measure 19 = .ok (.getfield 11, 3) := by decide +kernel
theorem dX3_measure_22 : decode cX3_measure 22 = .ok (.iload_n 2, 1) := by decide +kernel
theorem dX3_measure_23 : decode cX3_measure 23 = .ok (.aaload, 1) := by decide +kernel
theorem dX3_measure_24 : decode cX3_measure 24 = .ok (.aload_n 1, 1) := by decide +kernel
theorem dX3_measure_25 : decode cX3_measure 25 = .ok (.invokevirtual 34, 3) := by decide +kernel
theorem dX3_measure_28 : decode cX3_measure 28 = .ok (.iinc 2 1, 3) := by decide +kernel
theorem dX3_measure_31 : decode cX3_measure 31 = .ok (.goto (-21), 3) := by decide +kernel
theorem dX3_measure_34 : decode cX3_measure 34 = .ok (.aload_n 0, 1) := by decide +kernel
theorem dX3_measure_35 : decode cX3_measure 35 = .ok (.iconst 1, 1) := by decide +kernel
theorem dX3_measure_36 : decode cX3_measure 36 = .ok (.putfield 30, 3) := by decide +kernel
theorem dX3_measure_39 : decode cX3_measure 39 = .ok (.return_, 1) := by decide +kernel
theorem dX5_init_0 : decode cX5_init 0 = .ok (.aload_n 0, 1) := by decide +kernel
theorem dX5_init_1 : decode cX5_init 1 = .ok (.invokespecial 3, 3) := by decide +kernel
theorem dX5_init_4 : decode cX5_init 4 = .ok (.aload_n 0, 1) := by decide +kernel
theorem dX5_init_5 : decode cX5_init 5 = .ok (.new 9, 3) := by decide +kernel
theorem dX5_init_8 : decode cX5_init 8 = .ok (.dup, 1) := by decide +kernel
theorem dX5_init_9 : decode cX5_init 9 = .ok (.invokespecial 11, 3) := by decide +kernel
theorem dX5_init_12 : decode cX5_init 12 = .ok (.putfield 12, 3) := by decide +kernel
theorem dX5_init_15 : decode cX5_init 15 = .ok (.aload_n 0, 1) := by decide +kernel
theorem dX5_init_16 : decode cX5_init 16 = .ok (.new 9, 3) := by decide +kernel
theorem dX5_init_19 : decode cX5_init 19 = .ok (.dup, 1) := by decide +kernel
theorem dX5_init_20 : decode cX5_init 20 = .ok (.invokespecial 11, 3) := by decide +kernel
theorem dX5_init_23 : decode cX5_init 23 = .ok (.putfield 18, 3) := by decide +kernel
theorem dX5_init_26 : decode cX5_init 26 = .ok (.return_, 1) := by decide +kernel
theorem dX5_prepare_0 : decode cX5_prepare 0 = .ok (.aload_n 0, 1) := by decide +kernel
theorem dX5_prepare_1 : decode cX5_prepare 1 = .ok (.getfield 21, 3) := by decide +kernel
theorem dX5_prepare_4 : decode cX5_prepare 4 = .ok (.ifCond .eq 4, 3) := by decide +kernel
theorem dX5_prepare_7 : decode cX5_prepare 7 = .ok (.return_, 1) := by decide +kernel
theorem dX5_prepare_8 : decode cX5_prepare 8 = .ok (.aload_n 0, 1) := by decide +kernel
theorem dX5_prepare_9 : decode cX5_prepare 9 = .ok (.getfield 12, 3) := by decide +kernel
theorem dX5_prepare_12 : decode cX5_prepare 12 = .ok (.invokevirtual 25, 3) := by decide +kernel
theorem dX5_prepare_15 : decode cX5_prepare 15 = .ok (.aload_n 0, 1) := by decide +kernel
theorem dX5_prepare_16 : decode cX5_prepare 16 = .ok (.ldc2_w 28, 3) := by decide +kernel
theorem dX5_prepare_19 : decode cX5_prepare 19 = .ok (.putfield 30, 3) := by decide +kernel
theorem dX5_prepare_22 : decode cX5_prepare 22 = .ok (.aload_n 0, 1) := by decide +kernel
theorem dX5_prepare_23 : decode cX5_prepare 23 = .ok (.aload_n 1, 1) := by decide +kernel
theorem dX5_prepare_24 : decode cX5_prepare 24 = .ok (.iconst 0, 1) := by decide +kernel
theorem dX5_prepare_25 : decode cX5_prepare 25 = .ok (.iconst 0, 1) := by decide +kernel
theorem dX5_prepare_26 : decode cX5_prepare 26 = .ok (.lconst 1, 1) := by decide +kernel
theorem dX5_prepare_27 : decode cX5_prepare 27 = .ok (.lconst 0, 1) := by decide +kernel
theorem dX5_prepare_28 : decode cX5_prepare 28 = .ok (.invokestatic 34, 3) := by decide +kernel
theorem dX5_prepare_31 : decode cX5_prepare 31 = .ok (.aload_n 0, 1) := by decide +kernel
theorem dX5_prepare_32 : decode cX5_prepare 32 = .ok (.iconst 1, 1) := by decide +kernel
theorem dX5_prepare_33 : decode cX5_prepare 33 = .ok (.putfield 21, 3) := by decide +kernel
theorem dX5_prepare_36 : decode cX5_prepare 36 = .ok (.return_, 1) := by decide +kernel
theorem dX5_search_0 : decode cX5_search 0 = .ok (.iload_n 2, 1) := by decide +kernel
theorem dX5_search_1 : decode cX5_search 1 = .ok (.aload_n 1, 1) := by decide +kernel
theorem dX5_search_2 : decode cX5_search 2 = .ok (.getfield 38, 3) := by decide +kernel
theorem dX5_search_5 : decode cX5_search 5 = .ok (.if_icmp .lt 21, 3) := by decide +kernel
theorem dX5_search_8 : decode cX5_search 8 = .ok (.aload_n 0, 1) := by decide +kernel
theorem dX5_search_9 : decode cX5_search 9 = .ok (.lload 6, 2) := by decide +kernel
theorem dX5_search_11 : decode cX5_search 11 = .ok (.putfield 30, 3) := by decide +kernel
theorem dX5_search_14 : decode cX5_search 14 = .ok (.aload_n 0, 1) := by decide +kernel
theorem dX5_search_15 : decode cX5_search 15 = .ok (.getfield 18, 3) := by decide +kernel
theorem dX5_search_18 : decode cX5_search 18 = .ok (.aload_n 0, 1) := by decide +kernel
theorem dX5_search_19 : decode cX5_search 19 = .ok (.getfield 12, 3) := by decide +kernel
theorem dX5_search_22 : decode cX5_search 22 = .ok (.invokevirtual 44, 3) := by decide +kernel
theorem dX5_search_25 : decode cX5_search 25 = .ok (.return_, 1) := by decide +kernel
theorem dX5_search_26 : decode cX5_search 26 = .ok (.iconst 0, 1) := by decide +kernel
theorem dX5_search_27 : decode cX5_search 27 = .ok (.istore 8, 2) := by decide +kernel
theorem dX5_search_29 : decode cX5_search 29 = .ok (.iload 8, 2) := by decide +kernel
theorem dX5_search_31 : decode cX5_search 31 = .ok (.aload_n 1, 1) := by decide +kernel
theorem dX5_search_32 : decode cX5_search 32 = .ok (.getfield 38, 3) := by decide +kernel
theorem dX5_search_35 : decode cX5_search 35 = .ok (.if_icmp .ge 103, 3) := by decide +kernel
theorem dX5_search_38 : decode cX5_search 38 = .ok (.aload_n 0, 1) := by decide +kernel
theorem dX5_search_39 : decode cX5_search 39 = .ok (.getfield 12, 3) := by decide +kernel
theorem dX5_search_42 : decode cX5_search 42 = .ok (.iload 8, 2) := by decide +kernel
theorem dX5_search_44 : decode cX5_search 44 = .ok (.invokevirtual 48, 3) := by decide +kernel
theorem dX5_search_47 : decode cX5_search 47 = .ok (.ifCond .eq 6, 3) := by decide +kernel
theorem dX5_search_50 : decode cX5_search 50 = .ok (.goto 82, 3) := by decide +kernel
theorem dX5_search_53 : decode cX5_search 53 = .ok (.aload_n 1, 1) := by decide +kernel
theorem dX5_search_54 : decode cX5_search 54 = .ok (.iload 8, 2) := by decide +kernel
theorem dX5_search_56 : decode cX5_search 56 = .ok (.invokevirtual 52, 3) := by decide +kernel
theorem dX5_search_59 : decode cX5_search 59 = .ok (.astore 9, 2) := by decide +kernel
theorem dX5_search_61 : decode cX5_search 61 = .ok (.lload 4, 2) := by decide +kernel
theorem dX5_search_63 : decode cX5_search 63 = .ok (.aload 9, 2) := by decide +kernel
theorem dX5_search_65 : decode cX5_search 65 = .ok (.iload_n 3, 1) := by decide +kernel
theorem dX5_search_66 : decode cX5_search 66 = .ok (.invokevirtual 56, 3) := by decide +kernel
theorem dX5_search_69 : decode cX5_search 69 = .ok (.invokestatic 62, 3) := by decide +kernel
theorem dX5_search_72 : decode cX5_search 72 = .ok (.lstore 10, 2) := by decide +kernel
theorem dX5_search_74 : decode cX5_search 74 = .ok (.lload 6, 2) := by decide +kernel
theorem dX5_search_76 : decode cX5_search 76 = .ok (.lload 10, 2) := by decide +kernel
theorem dX5_search_78 : decode cX5_search 78 = .ok (.ladd, 1) := by decide +kernel
theorem dX5_search_79 : decode cX5_search 79 = .ok (.ldc2_w 66, 3) := by decide +kernel
theorem dX5_search_82 : decode cX5_search 82 = .ok (.invokestatic 68, 3) := by decide +kernel
theorem dX5_search_85 : decode cX5_search 85 = .ok (.lstore 12, 2) := by decide +kernel
theorem dX5_search_87 : decode cX5_search 87 = .ok (.lload 12, 2) := by decide +kernel
theorem dX5_search_89 : decode cX5_search 89 = .ok (.aload_n 0, 1) := by decide +kernel
theorem dX5_search_90 : decode cX5_search 90 = .ok (.getfield 30, 3) := by decide +kernel
theorem dX5_search_93 : decode cX5_search 93 = .ok (.lcmp, 1) := by decide +kernel
theorem dX5_search_94 : decode cX5_search 94 = .ok (.ifCond .ge 38, 3) := by decide +kernel
theorem dX5_search_97 : decode cX5_search 97 = .ok (.aload_n 0, 1) := by decide +kernel
theorem dX5_search_98 : decode cX5_search 98 = .ok (.getfield 12, 3) := by decide +kernel
theorem dX5_search_101 : decode cX5_search 101 = .ok (.iload 8, 2) := by decide +kernel
theorem dX5_search_103 : decode cX5_search 103 = .ok (.invokevirtual 74, 3) := by decide +kernel
theorem dX5_search_106 : decode cX5_search 106 = .ok (.aload_n 0, 1) := by decide +kernel
theorem dX5_search_107 : decode cX5_search 107 = .ok (.aload_n 1, 1) := by decide +kernel
theorem dX5_search_108 : decode cX5_search 108 = .ok (.iload_n 2, 1) := by decide +kernel
theorem dX5_search_109 : decode cX5_search 109 = .ok (.iconst 1, 1) := by decide +kernel
theorem dX5_search_110 : decode cX5_search 110 = .ok (.iadd, 1) := by decide +kernel
theorem dX5_search_111 : decode cX5_search 111 = .ok (.iload_n 3, 1) := by decide +kernel
theorem dX5_search_112 : decode cX5_search 112 = .ok (.aload 9, 2) := by decide +kernel
theorem dX5_search_114 : decode cX5_search 114 = .ok (.invokevirtual 78, 3) := by decide +kernel
theorem dX5_search_117 : decode cX5_search 117 = .ok (.ior, 1) := by decide +kernel
theorem dX5_search_118 : decode cX5_search 118 = .ok (.lload 10, 2) := by decide +kernel
theorem dX5_search_120 : decode cX5_search 120 = .ok (.lload 12, 2) := by decide +kernel
theorem dX5_search_122 : decode cX5_search 122 = .ok (.invokestatic 34, 3) := by decide +kernel
theorem dX5_search_125 : decode cX5_search 125 = .ok (.aload_n 0, 1) := by decide +kernel
theorem dX5_search_126 : decode cX5_search 126 = .ok (.getfield 12, 3) := by decide +kernel
theorem dX5_search_129 : decode cX5_search 129 = .ok (.invokevirtual 82, 3) := by decide +kernel
theorem dX5_search_132 : decode cX5_search 132 = .ok (.iinc 8 1, 3) := by decide +kernel
theorem dX5_search_135 : decode cX5_search 135 = .ok (.goto (-106), 3) := by decide +kernel
theorem dX5_search_138 : decode cX5_search 138 = .ok (.return_, 1) := by decide +kernel
theorem dX8_init_0 : decode cX8_init 0 = .ok (.aload_n 0, 1) := by decide +kernel
theorem dX8_init_1 : decode cX8_init 1 = .ok (.invokespecial 3, 3) := by decide +kernel
theorem dX8_init_4 : decode cX8_init 4 = .ok (.aload_n 0, 1) := by decide +kernel
theorem dX8_init_5 : decode cX8_init 5 = .ok (.bipush 64, 2) := by decide +kernel
theorem dX8_init_7 : decode cX8_init 7 = .ok (.newarray .long, 2) := by decide +kernel
theorem dX8_init_9 : decode cX8_init 9 = .ok (.putfield 9, 3) := by decide +kernel
theorem dX8_init_12 : decode cX8_init 12 = .ok (.aload_n 0, 1) := by decide +kernel
theorem dX8_init_13 : decode cX8_init 13 = .ok (.bipush 64, 2) := by decide +kernel
theorem dX8_init_15 : decode cX8_init 15 = .ok (.newarray .long, 2) := by decide +kernel
theorem dX8_init_17 : decode cX8_init 17 = .ok (.putfield 15, 3) := by decide +kernel
theorem dX8_init_20 : decode cX8_init 20 = .ok (.return_, 1) := by decide +kernel
theorem dX8_makeEmpty_0 : decode cX8_makeEmpty 0 = .ok (.aload_n 0, 1) := by decide +kernel
theorem dX8_makeEmpty_1 : decode cX8_makeEmpty 1 = .ok (.iconst 0, 1) := by decide +kernel
theorem dX8_makeEmpty_2 : decode cX8_makeEmpty 2 = .ok (.putfield 18, 3) := by decide +kernel
theorem dX8_makeEmpty_5 : decode cX8_makeEmpty 5 = .ok (.return_, 1) := by decide +kernel
theorem dX8_at_0 : decode cX8_at 0 = .ok (.aload_n 0, 1) := by decide +kernel
theorem dX8_at_1 : decode cX8_at 1 = .ok (.getfield 9, 3) := by decide +kernel
theorem dX8_at_4 : decode cX8_at 4 = .ok (.iload_n 1, 1) := by decide +kernel
theorem dX8_at_5 : decode cX8_at 5 = .ok (.laload, 1) := by decide +kernel
theorem dX8_at_6 : decode cX8_at 6 = .ok (.lreturn, 1) := by decide +kernel
theorem dX8_keep_0 : decode cX8_keep 0 = .ok (.aload_n 0, 1) := by decide +kernel
theorem dX8_keep_1 : decode cX8_keep 1 = .ok (.getfield 18, 3) := by decide +kernel
theorem dX8_keep_4 : decode cX8_keep 4 = .ok (.sipush 20000, 3) := by decide +kernel
theorem dX8_keep_7 : decode cX8_keep 7 = .ok (.if_icmp .lt 4, 3) := by decide +kernel
theorem dX8_keep_10 : decode cX8_keep 10 = .ok (.return_, 1) := by decide +kernel
theorem dX8_keep_11 : decode cX8_keep 11 = .ok (.aload_n 0, 1) := by decide +kernel
theorem dX8_keep_12 : decode cX8_keep 12 = .ok (.getfield 18, 3) := by decide +kernel
theorem dX8_keep_15 : decode cX8_keep 15 = .ok (.aload_n 0, 1) := by decide +kernel
theorem dX8_keep_16 : decode cX8_keep 16 = .ok (.getfield 9, 3) := by decide +kernel
theorem dX8_keep_19 : decode cX8_keep 19 = .ok (.arraylength, 1) := by decide +kernel
theorem dX8_keep_20 : decode cX8_keep 20 = .ok (.if_icmp .lt 27, 3) := by decide +kernel
theorem dX8_keep_23 : decode cX8_keep 23 = .ok (.aload_n 0, 1) := by decide +kernel
theorem dX8_keep_24 : decode cX8_keep 24 = .ok (.aload_n 0, 1) := by decide +kernel
theorem dX8_keep_25 : decode cX8_keep 25 = .ok (.getfield 9, 3) := by decide +kernel
theorem dX8_keep_28 : decode cX8_keep 28 = .ok (.iconst 2, 1) := by decide +kernel
theorem dX8_keep_29 : decode cX8_keep 29 = .ok (.aload_n 0, 1) := by decide +kernel
