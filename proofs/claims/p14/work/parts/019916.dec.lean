theorem dX8_keep_30 : decode cX8_keep 30 = .ok (.getfield 9, 3) := by decide +kernel
theorem dX8_keep_33 : decode cX8_keep 33 = .ok (.arraylength, 1) := by decide +kernel
theorem dX8_keep_34 : decode cX8_keep 34 = .ok (.imul, 1) := by decide +kernel
theorem dX8_keep_35 : decode cX8_keep 35 = .ok (.sipush 20000, 3) := by decide +kernel
theorem dX8_keep_38 : decode cX8_keep 38 = .ok (.invokestatic 22, 3) := by decide +kernel
theorem dX8_keep_41 : decode cX8_keep 41 = .ok (.invokestatic 28, 3) := by decide +kernel
theorem dX8_keep_44 : decode cX8_keep 44 = .ok (.putfield 9, 3) := by decide +kernel
theorem dX8_keep_47 : decode cX8_keep 47 = .ok (.aload_n 0, 1) := by decide +kernel
theorem dX8_keep_48 : decode cX8_keep 48 = .ok (.getfield 9, 3) := by decide +kernel
theorem dX8_keep_51 : decode cX8_keep 51 = .ok (.aload_n 0, 1) := by decide +kernel
theorem dX8_keep_52 : decode cX8_keep 52 = .ok (.getfield 18, 3) := by decide +kernel
theorem dX8_keep_55 : decode cX8_keep 55 = .ok (.lload_n 1, 1) := by decide +kernel
theorem dX8_keep_56 : decode cX8_keep 56 = .ok (.lastore, 1) := by decide +kernel
theorem dX8_keep_57 : decode cX8_keep 57 = .ok (.aload_n 0, 1) := by decide +kernel
theorem dX8_keep_58 : decode cX8_keep 58 = .ok (.dup, 1) := by decide +kernel
theorem dX8_keep_59 : decode cX8_keep 59 = .ok (.getfield 18, 3) := by decide +kernel
theorem dX8_keep_62 : decode cX8_keep 62 = .ok (.iconst 1, 1) := by decide +kernel
theorem dX8_keep_63 : decode cX8_keep 63 = .ok (.iadd, 1) := by decide +kernel
theorem dX8_keep_64 : decode cX8_keep 64 = .ok (.putfield 18, 3) := by decide +kernel
theorem dX8_keep_67 : decode cX8_keep 67 = .ok (.return_, 1) := by decide +kernel
theorem dX8_sort_0 : decode cX8_sort 0 = .ok (.aload_n 0, 1) := by decide +kernel
theorem dX8_sort_1 : decode cX8_sort 1 = .ok (.getfield 15, 3) := by decide +kernel
theorem dX8_sort_4 : decode cX8_sort 4 = .ok (.arraylength, 1) := by decide +kernel
theorem dX8_sort_5 : decode cX8_sort 5 = .ok (.aload_n 0, 1) := by decide +kernel
theorem dX8_sort_6 : decode cX8_sort 6 = .ok (.getfield 9, 3) := by decide +kernel
theorem dX8_sort_9 : decode cX8_sort 9 = .ok (.arraylength, 1) := by decide +kernel
theorem dX8_sort_10 : decode cX8_sort 10 = .ok (.if_icmp .ge 14, 3) := by decide +kernel
theorem dX8_sort_13 : decode cX8_sort 13 = .ok (.aload_n 0, 1) := by decide +kernel
theorem dX8_sort_14 : decode cX8_sort 14 = .ok (.aload_n 0, 1) := by decide +kernel
theorem dX8_sort_15 : decode cX8_sort 15 = .ok (.getfield 9, 3) := by decide +kernel
theorem dX8_sort_18 : decode cX8_sort 18 = .ok (.arraylength, 1) := by decide +kernel
theorem dX8_sort_19 : decode cX8_sort 19 = .ok (.newarray .long, 2) := by decide +kernel
theorem dX8_sort_21 : decode cX8_sort 21 = .ok (.putfield 15, 3) := by decide +kernel
theorem dX8_sort_24 : decode cX8_sort 24 = .ok (.iconst 1, 1) := by decide +kernel
theorem dX8_sort_25 : decode cX8_sort 25 = .ok (.istore_n 1, 1) := by decide +kernel
theorem dX8_sort_26 : decode cX8_sort 26 = .ok (.iload_n 1, 1) := by decide +kernel
theorem dX8_sort_27 : decode cX8_sort 27 = .ok (.aload_n 0, 1) := by decide +kernel
theorem dX8_sort_28 : decode cX8_sort 28 = .ok (.getfield 18, 3) := by decide +kernel
theorem dX8_sort_31 : decode cX8_sort 31 = .ok (.if_icmp .ge 74, 3) := by decide +kernel
theorem dX8_sort_34 : decode cX8_sort 34 = .ok (.iconst 0, 1) := by decide +kernel
theorem dX8_sort_35 : decode cX8_sort 35 = .ok (.istore_n 2, 1) := by decide +kernel
theorem dX8_sort_36 : decode cX8_sort 36 = .ok (.iload_n 2, 1) := by decide +kernel
theorem dX8_sort_37 : decode cX8_sort 37 = .ok (.aload_n 0, 1) := by decide +kernel
theorem dX8_sort_38 : decode cX8_sort 38 = .ok (.getfield 18, 3) := by decide +kernel
theorem dX8_sort_41 : decode cX8_sort 41 = .ok (.if_icmp .ge 39, 3) := by decide +kernel
theorem dX8_sort_44 : decode cX8_sort 44 = .ok (.aload_n 0, 1) := by decide +kernel
theorem dX8_sort_45 : decode cX8_sort 45 = .ok (.iload_n 2, 1) := by decide +kernel
theorem dX8_sort_46 : decode cX8_sort 46 = .ok (.iload_n 2, 1) := by decide +kernel
theorem dX8_sort_47 : decode cX8_sort 47 = .ok (.iload_n 1, 1) := by decide +kernel
theorem dX8_sort_48 : decode cX8_sort 48 = .ok (.iadd, 1) := by decide +kernel
theorem dX8_sort_49 : decode cX8_sort 49 = .ok (.aload_n 0, 1) := by decide +kernel
theorem dX8_sort_50 : decode cX8_sort 50 = .ok (.getfield 18, 3) := by decide +kernel
theorem dX8_sort_53 : decode cX8_sort 53 = .ok (.invokestatic 22, 3) := by decide +kernel
theorem dX8_sort_56 : decode cX8_sort 56 = .ok (.iload_n 2, 1) := by decide +kernel
theorem dX8_sort_57 : decode cX8_sort 57 = .ok (.iconst 2, 1) := by decide +kernel
theorem dX8_sort_58 : decode cX8_sort 58 = .ok (.iload_n 1, 1) := by decide +kernel
theorem dX8_sort_59 : decode cX8_sort 59 = .ok (.imul, 1) := by decide +kernel
theorem dX8_sort_60 : decode cX8_sort 60 = .ok (.iadd, 1) := by decide +kernel
theorem dX8_sort_61 : decode cX8_sort 61 = .ok (.aload_n 0, 1) := by decide +kernel
theorem dX8_sort_62 : decode cX8_sort 62 = .ok (.getfield 18, 3) := by decide +kernel
theorem dX8_sort_65 : decode cX8_sort 65 = .ok (.invokestatic 22, 3) := by decide +kernel
theorem dX8_sort_68 : decode cX8_sort 68 = .ok (.invokevirtual 34, 3) := by decide +kernel
theorem dX8_sort_71 : decode cX8_sort 71 = .ok (.iload_n 2, 1) := by decide +kernel
theorem dX8_sort_72 : decode cX8_sort 72 = .ok (.iconst 2, 1) := by decide +kernel
theorem dX8_sort_73 : decode cX8_sort 73 = .ok (.iload_n 1, 1) := by decide +kernel
theorem dX8_sort_74 : decode cX8_sort 74 = .ok (.imul, 1) := by decide +kernel
theorem dX8_sort_75 : decode cX8_sort 75 = .ok (.iadd, 1) := by decide +kernel
theorem dX8_sort_76 : decode cX8_sort 76 = .ok (.istore_n 2, 1) := by decide +kernel
theorem dX8_sort_77 : decode cX8_sort 77 = .ok (.goto (-41), 3) := by decide +kernel
theorem dX8_sort_80 : decode cX8_sort 80 = .ok (.aload_n 0, 1) := by decide +kernel
theorem dX8_sort_81 : decode cX8_sort 81 = .ok (.getfield 15, 3) := by decide +kernel
theorem dX8_sort_84 : decode cX8_sort 84 = .ok (.astore_n 2, 1) := by decide +kernel
theorem dX8_sort_85 : decode cX8_sort 85 = .ok (.aload_n 0, 1) := by decide +kernel
theorem dX8_sort_86 : decode cX8_sort 86 = .ok (.aload_n 0, 1) := by decide +kernel
theorem dX8_sort_87 : decode cX8_sort 87 = .ok (.getfield 9, 3) := by decide +kernel
theorem dX8_sort_90 : decode cX8_sort 90 = .ok (.putfield 15, 3) := by decide +kernel
theorem dX8_sort_93 : decode cX8_sort 93 = .ok (.aload_n 0, 1) := by decide +kernel
theorem dX8_sort_94 : decode cX8_sort 94 = .ok (.aload_n 2, 1) := by decide +kernel
theorem dX8_sort_95 : decode cX8_sort 95 = .ok (.putfield 9, 3) := by decide +kernel
theorem dX8_sort_98 : decode cX8_sort 98 = .ok (.iload_n 1, 1) := by decide +kernel
theorem dX8_sort_99 : decode cX8_sort 99 = .ok (.iconst 2, 1) := by decide +kernel
theorem dX8_sort_100 : decode cX8_sort 100 = .ok (.imul, 1) := by decide +kernel
theorem dX8_sort_101 : decode cX8_sort 101 = .ok (.istore_n 1, 1) := by decide +kernel
theorem dX8_sort_102 : decode cX8_sort 102 = .ok (.goto (-76), 3) := by decide +kernel
theorem dX8_sort_105 : decode cX8_sort 105 = .ok (.return_, 1) := by decide +kernel
theorem dX8_merge_0 : decode cX8_merge 0 = .ok (.iload_n 1, 1) := by decide +kernel
theorem dX8_merge_1 : decode cX8_merge 1 = .ok (.istore 4, 2) := by decide +kernel
theorem dX8_merge_3 : decode cX8_merge 3 = .ok (.iload_n 2, 1) := by decide +kernel
theorem dX8_merge_4 : decode cX8_merge 4 = .ok (.istore 5, 2) := by decide +kernel
theorem dX8_merge_6 : decode cX8_merge 6 = .ok (.iload_n 1, 1) := by decide +kernel
theorem dX8_merge_7 : decode cX8_merge 7 = .ok (.istore 6, 2) := by decide +kernel
theorem dX8_merge_9 : decode cX8_merge 9 = .ok (.iload 6, 2) := by decide +kernel
theorem dX8_merge_11 : decode cX8_merge 11 = .ok (.iload_n 3, 1) := by decide +kernel
theorem dX8_merge_12 : decode cX8_merge 12 = .ok (.if_icmp .ge 76, 3) := by decide +kernel
theorem dX8_merge_15 : decode cX8_merge 15 = .ok (.iload 4, 2) := by decide +kernel
theorem dX8_merge_17 : decode cX8_merge 17 = .ok (.iload_n 2, 1) := by decide +kernel
theorem dX8_merge_18 : decode cX8_merge 18 = .ok (.if_icmp .ge 47, 3) := by decide +kernel
theorem dX8_merge_21 : decode cX8_merge 21 = .ok (.iload 5, 2) := by decide +kernel
theorem dX8_merge_23 : decode cX8_merge 23 = .ok (.iload_n 3, 1) := by decide +kernel
theorem dX8_merge_24 : decode cX8_merge 24 = .ok (.if_icmp .ge 21, 3) := by decide +kernel
theorem dX8_merge_27 : decode cX8_merge 27 = .ok (.aload_n 0, 1) := by decide +kernel
theorem dX8_merge_28 : decode cX8_merge 28 = .ok (.getfield 9, 3) := by decide +kernel
theorem dX8_merge_31 : decode cX8_merge 31 = .ok (.iload 4, 2) := by decide +kernel
theorem dX8_merge_33 : decode cX8_merge 33 = .ok (.laload, 1) := by decide +kernel
theorem dX8_merge_34 : decode cX8_merge 34 = .ok (.aload_n 0, 1) := by decide +kernel
theorem dX8_merge_35 : decode cX8_merge 35 = .ok (.getfield 9, 3) := by decide +kernel
theorem dX8_merge_38 : decode cX8_merge 38 = .ok (.iload 5, 2) := by decide +kernel
theorem dX8_merge_40 : decode cX8_merge 40 = .ok (.laload, 1) := by decide +kernel
theorem dX8_merge_41 : decode cX8_merge 41 = .ok (.lcmp, 1) := by decide +kernel
theorem dX8_merge_42 : decode cX8_merge 42 = .ok (.ifCond .gt 23, 3) := by decide +kernel
theorem dX8_merge_45 : decode cX8_merge 45 = .ok (.aload_n 0, 1) := by decide +kernel
theorem dX8_merge_46 : decode cX8_merge 46 = .ok (.getfield 15, 3) := by decide +kernel
theorem dX8_merge_49 : decode cX8_merge 49 = .ok (.iload 6, 2) := by decide +kernel
theorem dX8_merge_51 : decode cX8_merge 51 = .ok (.aload_n 0, 1) := by decide +kernel
theorem dX8_merge_52 : decode cX8_merge 52 = .ok (.getfield 9, 3) := by decide +kernel
theorem dX8_merge_55 : decode cX8_merge 55 = .ok (.iload 4, 2) := by decide +kernel
theorem dX8_merge_57 : decode cX8_merge 57 = .ok (.laload, 1) := by decide +kernel
theorem dX8_merge_58 : decode cX8_merge 58 = .ok (.lastore, 1) := by decide +kernel
theorem dX8_merge_59 : decode cX8_merge 59 = .ok (.iinc 4 1, 3) := by decide +kernel
theorem dX8_merge_62 : decode cX8_merge 62 = .ok (.goto 20, 3) := by decide +kernel
theorem dX8_merge_65 : decode cX8_merge 65 = .ok (.aload_n 0, 1) := by decide +kernel
theorem dX8_merge_66 : decode cX8_merge 66 = .ok (.getfield 15, 3) := by decide +kernel
theorem dX8_merge_69 : decode cX8_merge 69 = .ok (.iload 6, 2) := by decide +kernel
theorem dX8_merge_71 : decode cX8_merge 71 = .ok (.aload_n 0, 1) := by decide +kernel
theorem dX8_merge_72 : decode cX8_merge 72 = .ok (.getfield 9, 3) := by decide +kernel
theorem dX8_merge_75 : decode cX8_merge 75 = .ok (.iload 5, 2) := by decide +kernel
theorem dX8_merge_77 : decode cX8_merge 77 = .ok (.laload, 1) := by decide +kernel
theorem dX8_merge_78 : decode cX8_merge 78 = .ok (.lastore, 1) := by decide +kernel
theorem dX8_merge_79 : decode cX8_merge 79 = .ok (.iinc 5 1, 3) := by decide +kernel
theorem dX8_merge_82 : decode cX8_merge 82 = .ok (.iinc 6 1, 3) := by decide +kernel
theorem dX8_merge_85 : decode cX8_merge 85 = .ok (.goto (-76), 3) := by decide +kernel
theorem dX8_merge_88 : decode cX8_merge 88 = .ok (.return_, 1) := by decide +kernel
theorem dX6_init_0 : decode cX6_init 0 = .ok (.aload_n 0, 1) := by decide +kernel
theorem dX6_init_1 : decode cX6_init 1 = .ok (.invokespecial 3, 3) := by decide +kernel
theorem dX6_init_4 : decode cX6_init 4 = .ok (.aload_n 0, 1) := by decide +kernel
theorem dX6_init_5 : decode cX6_init 5 = .ok (.sipush 640, 3) := by decide +kernel
theorem dX6_init_8 : decode cX6_init 8 = .ok (.newarray .int, 2) := by decide +kernel
theorem dX6_init_10 : decode cX6_init 10 = .ok (.putfield 9, 3) := by decide +kernel
theorem dX6_init_13 : decode cX6_init 13 = .ok (.aload_n 0, 1) := by decide +kernel
theorem dX6_init_14 : decode cX6_init 14 = .ok (.iconst 3, 1) := by decide +kernel
theorem dX6_init_15 : decode cX6_init 15 = .ok (.newarray .int, 2) := by decide +kernel
theorem dX6_init_17 : decode cX6_init 17 = .ok (.putfield 15, 3) := by decide +kernel
theorem dX6_init_20 : decode cX6_init 20 = .ok (.aload_n 0, 1) := by decide +kernel
theorem dX6_init_21 : decode cX6_init 21 = .ok (.iconst 3, 1) := by decide +kernel
theorem dX6_init_22 : decode cX6_init 22 = .ok (.newarray .int, 2) := by decide +kernel
theorem dX6_init_24 : decode cX6_init 24 = .ok (.putfield 18, 3) := by decide +kernel
theorem dX6_init_27 : decode cX6_init 27 = .ok (.return_, 1) := by decide +kernel
theorem dX6_prepare_0 : decode cX6_prepare 0 = .ok (.aload_n 0, 1) := by decide +kernel
theorem dX6_prepare_1 : decode cX6_prepare 1 = .ok (.aload_n 1, 1) := by decide +kernel
theorem dX6_prepare_2 : decode cX6_prepare 2 = .ok (.iload_n 2, 1) := by decide +kernel
theorem dX6_prepare_3 : decode cX6_prepare 3 = .ok (.invokevirtual 21, 3) := by decide +kernel
theorem dX6_prepare_6 : decode cX6_prepare 6 = .ok (.putfield 27, 3) := by decide +kernel
theorem dX6_prepare_9 : decode cX6_prepare 9 = .ok (.aload_n 0, 1) := by decide +kernel
theorem dX6_prepare_10 : decode cX6_prepare 10 = .ok (.aload_n 0, 1) := by decide +kernel
theorem dX6_prepare_11 : decode cX6_prepare 11 = .ok (.getfield 27, 3) := by decide +kernel
theorem dX6_prepare_14 : decode cX6_prepare 14 = .ok (.invokestatic 30, 3) := by decide +kernel
theorem dX6_prepare_17 : decode cX6_prepare 17 = .ok (.putfield 33, 3) := by decide +kernel
theorem dX6_prepare_20 : decode cX6_prepare 20 = .ok (.getstatic 35, 3) := by decide +kernel
theorem dX6_prepare_23 : decode cX6_prepare 23 = .ok (.aload_n 0, 1) := by decide +kernel
theorem dX6_prepare_24 : decode cX6_prepare 24 = .ok (.getfield 27, 3) := by decide +kernel
