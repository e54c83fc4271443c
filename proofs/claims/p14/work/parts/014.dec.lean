theorem dX9_init_13 : decode cX9_init 13 = .ok (.aload_n 0, 1) := by decide +kernel
theorem dX9_init_14 : decode cX9_init 14 = .ok (.bipush 18, 2) := by decide +kernel
theorem dX9_init_16 : decode cX9_init 16 = .ok (.newarray .int, 2) := by decide +kernel
theorem dX9_init_18 : decode cX9_init 18 = .ok (.putfield 13, 3) := by decide +kernel
theorem dX9_init_21 : decode cX9_init 21 = .ok (.aload_n 0, 1) := by decide +kernel
theorem dX9_init_22 : decode cX9_init 22 = .ok (.bipush 6, 2) := by decide +kernel
theorem dX9_init_24 : decode cX9_init 24 = .ok (.newarray .int, 2) := by decide +kernel
theorem dX9_init_26 : decode cX9_init 26 = .ok (.putfield 16, 3) := by decide +kernel
theorem dX9_init_29 : decode cX9_init 29 = .ok (.aload_n 0, 1) := by decide +kernel
theorem dX9_init_30 : decode cX9_init 30 = .ok (.sipush 1536, 3) := by decide +kernel
theorem dX9_init_33 : decode cX9_init 33 = .ok (.newarray .int, 2) := by decide +kernel
theorem dX9_init_35 : decode cX9_init 35 = .ok (.putfield 19, 3) := by decide +kernel
theorem dX9_init_38 : decode cX9_init 38 = .ok (.aload_n 0, 1) := by decide +kernel
theorem dX9_init_39 : decode cX9_init 39 = .ok (.bipush 6, 2) := by decide +kernel
theorem dX9_init_41 : decode cX9_init 41 = .ok (.newarray .int, 2) := by decide +kernel
theorem dX9_init_43 : decode cX9_init 43 = .ok (.putfield 22, 3) := by decide +kernel
theorem dX9_init_46 : decode cX9_init 46 = .ok (.aload_n 0, 1) := by decide +kernel
theorem dX9_init_47 : decode cX9_init 47 = .ok (.bipush 6, 2) := by decide +kernel
theorem dX9_init_49 : decode cX9_init 49 = .ok (.newarray .int, 2) := by decide +kernel
theorem dX9_init_51 : decode cX9_init 51 = .ok (.putfield 25, 3) := by decide +kernel
theorem dX9_init_54 : decode cX9_init 54 = .ok (.aload_n 0, 1) := by decide +kernel
theorem dX9_init_55 : decode cX9_init 55 = .ok (.bipush 9, 2) := by decide +kernel
theorem dX9_init_57 : decode cX9_init 57 = .ok (.newarray .int, 2) := by decide +kernel
theorem dX9_init_59 : decode cX9_init 59 = .ok (.putfield 28, 3) := by decide +kernel
theorem dX9_init_62 : decode cX9_init 62 = .ok (.aload_n 0, 1) := by decide +kernel
theorem dX9_init_63 : decode cX9_init 63 = .ok (.bipush 9, 2) := by decide +kernel
theorem dX9_init_65 : decode cX9_init 65 = .ok (.newarray .int, 2) := by decide +kernel
theorem dX9_init_67 : decode cX9_init 67 = .ok (.putfield 31, 3) := by decide +kernel
theorem dX9_init_70 : decode cX9_init 70 = .ok (.aload_n 0, 1) := by decide +kernel
theorem dX9_init_71 : decode cX9_init 71 = .ok (.bipush 6, 2) := by decide +kernel
theorem dX9_init_73 : decode cX9_init 73 = .ok (.newarray .int, 2) := by decide +kernel
theorem dX9_init_75 : decode cX9_init 75 = .ok (.putfield 34, 3) := by decide +kernel
theorem dX9_init_78 : decode cX9_init 78 = .ok (.aload_n 0, 1) := by decide +kernel
theorem dX9_init_79 : decode cX9_init 79 = .ok (.ldc 37, 2) := by decide +kernel
theorem dX9_init_81 : decode cX9_init 81 = .ok (.newarray .int, 2) := by decide +kernel
theorem dX9_init_83 : decode cX9_init 83 = .ok (.putfield 38, 3) := by decide +kernel
theorem dX9_init_86 : decode cX9_init 86 = .ok (.aload_n 0, 1) := by decide +kernel
theorem dX9_init_87 : decode cX9_init 87 = .ok (.bipush (-2), 2) := by decide +kernel
theorem dX9_init_89 : decode cX9_init 89 = .ok (.putfield 41, 3) := by decide +kernel
theorem dX9_init_92 : decode cX9_init 92 = .ok (.aload_n 0, 1) := by decide +kernel
theorem dX9_init_93 : decode cX9_init 93 = .ok (.sipush 20000, 3) := by decide +kernel
theorem dX9_init_96 : decode cX9_init 96 = .ok (.newarray .int, 2) := by decide +kernel
theorem dX9_init_98 : decode cX9_init 98 = .ok (.putfield 45, 3) := by decide +kernel
theorem dX9_init_101 : decode cX9_init 101 = .ok (.aload_n 0, 1) := by decide +kernel
theorem dX9_init_102 : decode cX9_init 102 = .ok (.sipush 20000, 3) := by decide +kernel
theorem dX9_init_105 : decode cX9_init 105 = .ok (.newarray .int, 2) := by decide +kernel
theorem dX9_init_107 : decode cX9_init 107 = .ok (.putfield 48, 3) := by decide +kernel
theorem dX9_init_110 : decode cX9_init 110 = .ok (.return_, 1) := by decide +kernel
theorem dX9_isNumber_0 : decode cX9_isNumber 0 = .ok (.iload_n 0, 1) := by decide +kernel
theorem dX9_isNumber_1 : decode cX9_isNumber 1 = .ok (.ifCond .lt 13, 3) := by decide +kernel
theorem dX9_isNumber_4 : decode cX9_isNumber 4 = .ok (.iload_n 0, 1) := by decide +kernel
theorem dX9_isNumber_5 : decode cX9_isNumber 5 = .ok (.bipush 63, 2) := by decide +kernel
theorem dX9_isNumber_7 : decode cX9_isNumber 7 = .ok (.if_icmp .gt 7, 3) := by decide +kernel
theorem dX9_isNumber_10 : decode cX9_isNumber 10 = .ok (.iconst 1, 1) := by decide +kernel
theorem dX9_isNumber_11 : decode cX9_isNumber 11 = .ok (.goto 4, 3) := by decide +kernel
theorem dX9_isNumber_14 : decode cX9_isNumber 14 = .ok (.iconst 0, 1) := by decide +kernel
theorem dX9_isNumber_15 : decode cX9_isNumber 15 = .ok (.ireturn, 1) := by decide +kernel
theorem dX9_isItem_0 : decode cX9_isItem 0 = .ok (.iload_n 0, 1) := by decide +kernel
theorem dX9_isItem_1 : decode cX9_isItem 1 = .ok (.bipush (-8), 2) := by decide +kernel
theorem dX9_isItem_3 : decode cX9_isItem 3 = .ok (.if_icmp .lt 13, 3) := by decide +kernel
theorem dX9_isItem_6 : decode cX9_isItem 6 = .ok (.iload_n 0, 1) := by decide +kernel
theorem dX9_isItem_7 : decode cX9_isItem 7 = .ok (.bipush 63, 2) := by decide +kernel
theorem dX9_isItem_9 : decode cX9_isItem 9 = .ok (.if_icmp .gt 7, 3) := by decide +kernel
theorem dX9_isItem_12 : decode cX9_isItem 12 = .ok (.iconst 1, 1) := by decide +kernel
theorem dX9_isItem_13 : decode cX9_isItem 13 = .ok (.goto 4, 3) := by decide +kernel
theorem dX9_isItem_16 : decode cX9_isItem 16 = .ok (.iconst 0, 1) := by decide +kernel
theorem dX9_isItem_17 : decode cX9_isItem 17 = .ok (.ireturn, 1) := by decide +kernel
theorem dX9_find_0 : decode cX9_find 0 = .ok (.iconst 0, 1) := by decide +kernel
theorem dX9_find_1 : decode cX9_find 1 = .ok (.istore 4, 2) := by decide +kernel
theorem dX9_find_3 : decode cX9_find 3 = .ok (.iload 4, 2) := by decide +kernel
theorem dX9_find_5 : decode cX9_find 5 = .ok (.aload_n 0, 1) := by decide +kernel
theorem dX9_find_6 : decode cX9_find 6 = .ok (.getfield 51, 3) := by decide +kernel
theorem dX9_find_9 : decode cX9_find 9 = .ok (.if_icmp .ge 55, 3) := by decide +kernel
theorem dX9_find_12 : decode cX9_find 12 = .ok (.aload_n 0, 1) := by decide +kernel
theorem dX9_find_13 : decode cX9_find 13 = .ok (.getfield 7, 3) := by decide +kernel
theorem dX9_find_16 : decode cX9_find 16 = .ok (.iconst 3, 1) := by decide +kernel
theorem dX9_find_17 : decode cX9_find 17 = .ok (.iload 4, 2) := by decide +kernel
theorem dX9_find_19 : decode cX9_find 19 = .ok (.imul, 1) := by decide +kernel
theorem dX9_find_20 : decode cX9_find 20 = .ok (.iaload, 1) := by decide +kernel
theorem dX9_find_21 : decode cX9_find 21 = .ok (.iload_n 1, 1) := by decide +kernel
theorem dX9_find_22 : decode cX9_find 22 = .ok (.if_icmp .ne 36, 3) := by decide +kernel
theorem dX9_find_25 : decode cX9_find 25 = .ok (.aload_n 0, 1) := by decide +kernel
theorem dX9_find_26 : decode cX9_find 26 = .ok (.getfield 7, 3) := by decide +kernel
theorem dX9_find_29 : decode cX9_find 29 = .ok (.iconst 3, 1) := by decide +kernel
theorem dX9_find_30 : decode cX9_find 30 = .ok (.iload 4, 2) := by decide +kernel
theorem dX9_find_32 : decode cX9_find 32 = .ok (.imul, 1) := by decide +kernel
theorem dX9_find_33 : decode cX9_find 33 = .ok (.iconst 1, 1) := by decide +kernel
theorem dX9_find_34 : decode cX9_find 34 = .ok (.iadd, 1) := by decide +kernel
theorem dX9_find_35 : decode cX9_find 35 = .ok (.iaload, 1) := by decide +kernel
theorem dX9_find_36 : decode cX9_find 36 = .ok (.iload_n 2, 1) := by decide +kernel
theorem dX9_find_37 : decode cX9_find 37 = .ok (.if_icmp .ne 21, 3) := by decide +kernel
theorem dX9_find_40 : decode cX9_find 40 = .ok (.aload_n 0, 1) := by decide +kernel
theorem dX9_find_41 : decode cX9_find 41 = .ok (.getfield 7, 3) := by decide +kernel
theorem dX9_find_44 : decode cX9_find 44 = .ok (.iconst 3, 1) := by decide +kernel
theorem dX9_find_45 : decode cX9_find 45 = .ok (.iload 4, 2) := by decide +kernel
theorem dX9_find_47 : decode cX9_find 47 = .ok (.imul, 1) := by decide +kernel
theorem dX9_find_48 : decode cX9_find 48 = .ok (.iconst 2, 1) := by decide +kernel
theorem dX9_find_49 : decode cX9_find 49 = .ok (.iadd, 1) := by decide +kernel
theorem dX9_find_50 : decode cX9_find 50 = .ok (.iaload, 1) := by decide +kernel
theorem dX9_find_51 : decode cX9_find 51 = .ok (.iload_n 3, 1) := by decide +kernel
theorem dX9_find_52 : decode cX9_find 52 = .ok (.if_icmp .ne 6, 3) := by decide +kernel
theorem dX9_find_55 : decode cX9_find 55 = .ok (.iload 4, 2) := by decide +kernel
theorem dX9_find_57 : decode cX9_find 57 = .ok (.ireturn, 1) := by decide +kernel
theorem dX9_find_58 : decode cX9_find 58 = .ok (.iinc 4 1, 3) := by decide +kernel
theorem dX9_find_61 : decode cX9_find 61 = .ok (.goto (-58), 3) := by decide +kernel
theorem dX9_find_64 : decode cX9_find 64 = .ok (.iconst (-1), 1) := by decide +kernel
theorem dX9_find_65 : decode cX9_find 65 = .ok (.ireturn, 1) := by decide +kernel
theorem dX9_insert_0 : decode cX9_insert 0 = .ok (.iload_n 1, 1) := by decide +kernel
theorem dX9_insert_1 : decode cX9_insert 1 = .ok (.invokestatic 54, 3) := by decide +kernel
theorem dX9_insert_4 : decode cX9_insert 4 = .ok (.ifCond .eq 17, 3) := by decide +kernel
theorem dX9_insert_7 : decode cX9_insert 7 = .ok (.iload_n 2, 1) := by decide +kernel
theorem dX9_insert_8 : decode cX9_insert 8 = .ok (.invokestatic 54, 3) := by decide +kernel
theorem dX9_insert_11 : decode cX9_insert 11 = .ok (.ifCond .eq 10, 3) := by decide +kernel
theorem dX9_insert_14 : decode cX9_insert 14 = .ok (.iload_n 3, 1) := by decide +kernel
theorem dX9_insert_15 : decode cX9_insert 15 = .ok (.invokestatic 54, 3) := by decide +kernel
theorem dX9_insert_18 : decode cX9_insert 18 = .ok (.ifCond .ne 5, 3) := by decide +kernel
theorem dX9_insert_21 : decode cX9_insert 21 = .ok (.iconst (-1), 1) := by decide +kernel
theorem dX9_insert_22 : decode cX9_insert 22 = .ok (.ireturn, 1) := by decide +kernel
theorem dX9_insert_23 : decode cX9_insert 23 = .ok (.aload_n 0, 1) := by decide +kernel
theorem dX9_insert_24 : decode cX9_insert 24 = .ok (.iload_n 1, 1) := by decide +kernel
theorem dX9_insert_25 : decode cX9_insert 25 = .ok (.iload_n 2, 1) := by decide +kernel
theorem dX9_insert_26 : decode cX9_insert 26 = .ok (.iload_n 3, 1) := by decide +kernel
theorem dX9_insert_27 : decode cX9_insert 27 = .ok (.invokevirtual 58, 3) := by decide +kernel
theorem dX9_insert_30 : decode cX9_insert 30 = .ok (.ifCond .lt 5, 3) := by decide +kernel
theorem dX9_insert_33 : decode cX9_insert 33 = .ok (.iconst 0, 1) := by decide +kernel
theorem dX9_insert_34 : decode cX9_insert 34 = .ok (.ireturn, 1) := by decide +kernel
theorem dX9_insert_35 : decode cX9_insert 35 = .ok (.aload_n 0, 1) := by decide +kernel
theorem dX9_insert_36 : decode cX9_insert 36 = .ok (.getfield 51, 3) := by decide +kernel
theorem dX9_insert_39 : decode cX9_insert 39 = .ok (.sipush 640, 3) := by decide +kernel
theorem dX9_insert_42 : decode cX9_insert 42 = .ok (.if_icmp .ne 6, 3) := by decide +kernel
theorem dX9_insert_45 : decode cX9_insert 45 = .ok (.bipush (-3), 2) := by decide +kernel
theorem dX9_insert_47 : decode cX9_insert 47 = .ok (.ireturn, 1) := by decide +kernel
theorem dX9_insert_48 : decode cX9_insert 48 = .ok (.aload_n 0, 1) := by decide +kernel
theorem dX9_insert_49 : decode cX9_insert 49 = .ok (.getfield 7, 3) := by decide +kernel
theorem dX9_insert_52 : decode cX9_insert 52 = .ok (.iconst 3, 1) := by decide +kernel
theorem dX9_insert_53 : decode cX9_insert 53 = .ok (.aload_n 0, 1) := by decide +kernel
theorem dX9_insert_54 : decode cX9_insert 54 = .ok (.getfield 51, 3) := by decide +kernel
theorem dX9_insert_57 : decode cX9_insert 57 = .ok (.imul, 1) := by decide +kernel
theorem dX9_insert_58 : decode cX9_insert 58 = .ok (.iload_n 1, 1) := by decide +kernel
theorem dX9_insert_59 : decode cX9_insert 59 = .ok (.iastore, 1) := by decide +kernel
theorem dX9_insert_60 : decode cX9_insert 60 = .ok (.aload_n 0, 1) := by decide +kernel
theorem dX9_insert_61 : decode cX9_insert 61 = .ok (.getfield 7, 3) := by decide +kernel
theorem dX9_insert_64 : decode cX9_insert 64 = .ok (.iconst 3, 1) := by decide +kernel
theorem dX9_insert_65 : decode cX9_insert 65 = .ok (.aload_n 0, 1) := by decide +kernel
theorem dX9_insert_66 : decode cX9_insert 66 = .ok (.getfield 51, 3) := by decide +kernel
theorem dX9_insert_69 : decode cX9_insert 69 = .ok (.imul, 1) := by decide +kernel
theorem dX9_insert_70 : decode cX9_insert 70 = .ok (.iconst 1, 1) := by decide +kernel
theorem dX9_insert_71 : decode cX9_insert 71 = .ok (.iadd, 1) := by decide +kernel
theorem dX9_insert_72 : decode cX9_insert 72 = .ok (.iload_n 2, 1) := by decide +kernel
theorem dX9_insert_73 : decode cX9_insert 73 = .ok (.iastore, 1) := by decide +kernel
theorem dX9_insert_74 : decode cX9_insert 74 = .ok (.aload_n 0, 1) := by decide +kernel
theorem dX9_insert_75 : decode cX9_insert 75 = .ok (.getfield 7, 3) := by decide +kernel
theorem dX9_insert_78 : decode cX9_insert 78 = .ok (.iconst 3, 1) := by decide +kernel
theorem dX9_insert_79 : decode cX9_insert 79 = .ok (.aload_n 0, 1) := by decide +kernel
theorem dX9_insert_80 : decode cX9_insert 80 = .ok (.getfield 51, 3) := by decide +kernel
theorem dX9_insert_83 : decode cX9_insert 83 = .ok (.imul, 1) := by decide +kernel
theorem dX9_insert_84 : decode cX9_insert 84 = .ok (.iconst 2, 1) := by decide +kernel
theorem dX9_insert_85 : decode cX9_insert 85 = .ok (.iadd, 1) := by decide +kernel
theorem dX9_insert_86 : decode cX9_insert 86 = .ok (.iload_n 3, 1) := by decide +kernel
theorem dX9_insert_87 : decode cX9_insert 87 = .ok (.iastore, 1) := by decide +kernel
