theorem dX6_extended_31 : decode cX6_extended 31 = .ok (.getfield 18, 3) := by decide +kernel
theorem dX6_extended_34 : decode cX6_extended 34 = .ok (.iload 6, 2) := by decide +kernel
theorem dX6_extended_36 : decode cX6_extended 36 = .ok (.iaload, 1) := by decide +kernel
theorem dX6_extended_37 : decode cX6_extended 37 = .ok (.invokestatic 58, 3) := by decide +kernel
theorem dX6_extended_40 : decode cX6_extended 40 = .ok (.i2l, 1) := by decide +kernel
theorem dX6_extended_41 : decode cX6_extended 41 = .ok (.aload_n 0, 1) := by decide +kernel
theorem dX6_extended_42 : decode cX6_extended 42 = .ok (.getfield 15, 3) := by decide +kernel
theorem dX6_extended_45 : decode cX6_extended 45 = .ok (.iload 6, 2) := by decide +kernel
theorem dX6_extended_47 : decode cX6_extended 47 = .ok (.iaload, 1) := by decide +kernel
theorem dX6_extended_48 : decode cX6_extended 48 = .ok (.invokestatic 73, 3) := by decide +kernel
theorem dX6_extended_51 : decode cX6_extended 51 = .ok (.lshl, 1) := by decide +kernel
theorem dX6_extended_52 : decode cX6_extended 52 = .ok (.lor, 1) := by decide +kernel
theorem dX6_extended_53 : decode cX6_extended 53 = .ok (.lstore 4, 2) := by decide +kernel
theorem dX6_extended_55 : decode cX6_extended 55 = .ok (.iinc 6 1, 3) := by decide +kernel
theorem dX6_extended_58 : decode cX6_extended 58 = .ok (.goto (-52), 3) := by decide +kernel
theorem dX6_extended_61 : decode cX6_extended 61 = .ok (.lload 4, 2) := by decide +kernel
theorem dX6_extended_63 : decode cX6_extended 63 = .ok (.lreturn, 1) := by decide +kernel
theorem dX1_init_0 : decode cX1_init 0 = .ok (.aload_n 0, 1) := by decide +kernel
theorem dX1_init_1 : decode cX1_init 1 = .ok (.invokespecial 3, 3) := by decide +kernel
theorem dX1_init_4 : decode cX1_init 4 = .ok (.aload_n 0, 1) := by decide +kernel
theorem dX1_init_5 : decode cX1_init 5 = .ok (.iconst 3, 1) := by decide +kernel
theorem dX1_init_6 : decode cX1_init 6 = .ok (.sipush 640, 3) := by decide +kernel
theorem dX1_init_9 : decode cX1_init 9 = .ok (.multianewarray 9 2, 4) := by decide +kernel
theorem dX1_init_13 : decode cX1_init 13 = .ok (.putfield 11, 3) := by decide +kernel
theorem dX1_init_16 : decode cX1_init 16 = .ok (.return_, 1) := by decide +kernel
theorem dX1_has_0 : decode cX1_has 0 = .ok (.iconst 0, 1) := by decide +kernel
theorem dX1_has_1 : decode cX1_has 1 = .ok (.iload_n 1, 1) := by decide +kernel
theorem dX1_has_2 : decode cX1_has 2 = .ok (.iload_n 2, 1) := by decide +kernel
theorem dX1_has_3 : decode cX1_has 3 = .ok (.iload_n 3, 1) := by decide +kernel
theorem dX1_has_4 : decode cX1_has 4 = .ok (.invokestatic 16, 3) := by decide +kernel
theorem dX1_has_7 : decode cX1_has 7 = .ok (.istore 4, 2) := by decide +kernel
theorem dX1_has_9 : decode cX1_has 9 = .ok (.aload_n 0, 1) := by decide +kernel
theorem dX1_has_10 : decode cX1_has 10 = .ok (.iconst 0, 1) := by decide +kernel
theorem dX1_has_11 : decode cX1_has 11 = .ok (.iload 4, 2) := by decide +kernel
theorem dX1_has_13 : decode cX1_has 13 = .ok (.invokevirtual 20, 3) := by decide +kernel
theorem dX1_has_16 : decode cX1_has 16 = .ok (.istore 5, 2) := by decide +kernel
theorem dX1_has_18 : decode cX1_has 18 = .ok (.iload 5, 2) := by decide +kernel
theorem dX1_has_20 : decode cX1_has 20 = .ok (.aload_n 0, 1) := by decide +kernel
theorem dX1_has_21 : decode cX1_has 21 = .ok (.getfield 24, 3) := by decide +kernel
theorem dX1_has_24 : decode cX1_has 24 = .ok (.if_icmp .ge 21, 3) := by decide +kernel
theorem dX1_has_27 : decode cX1_has 27 = .ok (.aload_n 0, 1) := by decide +kernel
theorem dX1_has_28 : decode cX1_has 28 = .ok (.getfield 11, 3) := by decide +kernel
theorem dX1_has_31 : decode cX1_has 31 = .ok (.iconst 0, 1) := by decide +kernel
theorem dX1_has_32 : decode cX1_has 32 = .ok (.aaload, 1) := by decide +kernel
theorem dX1_has_33 : decode cX1_has 33 = .ok (.iload 5, 2) := by decide +kernel
theorem dX1_has_35 : decode cX1_has 35 = .ok (.iaload, 1) := by decide +kernel
theorem dX1_has_36 : decode cX1_has 36 = .ok (.iload 4, 2) := by decide +kernel
theorem dX1_has_38 : decode cX1_has 38 = .ok (.if_icmp .ne 7, 3) := by decide +kernel
theorem dX1_has_41 : decode cX1_has 41 = .ok (.iconst 1, 1) := by decide +kernel
theorem dX1_has_42 : decode cX1_has 42 = .ok (.goto 4, 3) := by decide +kernel
theorem dX1_has_45 : decode cX1_has 45 = .ok (.iconst 0, 1) := by decide +kernel
theorem dX1_has_46 : decode cX1_has 46 = .ok (.ireturn, 1) := by decide +kernel
theorem dX1_put_0 : decode cX1_put 0 = .ok (.aload_n 0, 1) := by decide +kernel
theorem dX1_put_1 : decode cX1_put 1 = .ok (.getfield 24, 3) := by decide +kernel
theorem dX1_put_4 : decode cX1_put 4 = .ok (.sipush 640, 3) := by decide +kernel
theorem dX1_put_7 : decode cX1_put 7 = .ok (.if_icmp .lt 4, 3) := by decide +kernel
theorem dX1_put_10 : decode cX1_put 10 = .ok (.return_, 1) := by decide +kernel
theorem dX1_put_11 : decode cX1_put 11 = .ok (.iconst 0, 1) := by decide +kernel
theorem dX1_put_12 : decode cX1_put 12 = .ok (.istore 4, 2) := by decide +kernel
theorem dX1_put_14 : decode cX1_put 14 = .ok (.iload 4, 2) := by decide +kernel
theorem dX1_put_16 : decode cX1_put 16 = .ok (.iconst 3, 1) := by decide +kernel
theorem dX1_put_17 : decode cX1_put 17 = .ok (.if_icmp .ge 65, 3) := by decide +kernel
theorem dX1_put_20 : decode cX1_put 20 = .ok (.aload_n 0, 1) := by decide +kernel
theorem dX1_put_21 : decode cX1_put 21 = .ok (.getfield 11, 3) := by decide +kernel
theorem dX1_put_24 : decode cX1_put 24 = .ok (.iload 4, 2) := by decide +kernel
theorem dX1_put_26 : decode cX1_put 26 = .ok (.aaload, 1) := by decide +kernel
theorem dX1_put_27 : decode cX1_put 27 = .ok (.astore 5, 2) := by decide +kernel
theorem dX1_put_29 : decode cX1_put 29 = .ok (.iload 4, 2) := by decide +kernel
theorem dX1_put_31 : decode cX1_put 31 = .ok (.iload_n 1, 1) := by decide +kernel
theorem dX1_put_32 : decode cX1_put 32 = .ok (.iload_n 2, 1) := by decide +kernel
theorem dX1_put_33 : decode cX1_put 33 = .ok (.iload_n 3, 1) := by decide +kernel
theorem dX1_put_34 : decode cX1_put 34 = .ok (.invokestatic 16, 3) := by decide +kernel
theorem dX1_put_37 : decode cX1_put 37 = .ok (.istore 6, 2) := by decide +kernel
theorem dX1_put_39 : decode cX1_put 39 = .ok (.aload_n 0, 1) := by decide +kernel
theorem dX1_put_40 : decode cX1_put 40 = .ok (.iload 4, 2) := by decide +kernel
theorem dX1_put_42 : decode cX1_put 42 = .ok (.iload 6, 2) := by decide +kernel
theorem dX1_put_44 : decode cX1_put 44 = .ok (.invokevirtual 20, 3) := by decide +kernel
theorem dX1_put_47 : decode cX1_put 47 = .ok (.istore 7, 2) := by decide +kernel
theorem dX1_put_49 : decode cX1_put 49 = .ok (.aload 5, 2) := by decide +kernel
theorem dX1_put_51 : decode cX1_put 51 = .ok (.iload 7, 2) := by decide +kernel
theorem dX1_put_53 : decode cX1_put 53 = .ok (.aload 5, 2) := by decide +kernel
theorem dX1_put_55 : decode cX1_put 55 = .ok (.iload 7, 2) := by decide +kernel
theorem dX1_put_57 : decode cX1_put 57 = .ok (.iconst 1, 1) := by decide +kernel
theorem dX1_put_58 : decode cX1_put 58 = .ok (.iadd, 1) := by decide +kernel
theorem dX1_put_59 : decode cX1_put 59 = .ok (.aload_n 0, 1) := by decide +kernel
theorem dX1_put_60 : decode cX1_put 60 = .ok (.getfield 24, 3) := by decide +kernel
theorem dX1_put_63 : decode cX1_put 63 = .ok (.iload 7, 2) := by decide +kernel
theorem dX1_put_65 : decode cX1_put 65 = .ok (.isub, 1) := by decide +kernel
theorem dX1_put_66 : decode cX1_put 66 = .ok (.invokestatic 28, 3) := by decide +kernel
theorem dX1_put_69 : decode cX1_put 69 = .ok (.aload 5, 2) := by decide +kernel
theorem dX1_put_71 : decode cX1_put 71 = .ok (.iload 7, 2) := by decide +kernel
theorem dX1_put_73 : decode cX1_put 73 = .ok (.iload 6, 2) := by decide +kernel
theorem dX1_put_75 : decode cX1_put 75 = .ok (.iastore, 1) := by decide +kernel
theorem dX1_put_76 : decode cX1_put 76 = .ok (.iinc 4 1, 3) := by decide +kernel
theorem dX1_put_79 : decode cX1_put 79 = .ok (.goto (-65), 3) := by decide +kernel
theorem dX1_put_82 : decode cX1_put 82 = .ok (.aload_n 0, 1) := by decide +kernel
theorem dX1_put_83 : decode cX1_put 83 = .ok (.dup, 1) := by decide +kernel
theorem dX1_put_84 : decode cX1_put 84 = .ok (.getfield 24, 3) := by decide +kernel
theorem dX1_put_87 : decode cX1_put 87 = .ok (.iconst 1, 1) := by decide +kernel
theorem dX1_put_88 : decode cX1_put 88 = .ok (.iadd, 1) := by decide +kernel
theorem dX1_put_89 : decode cX1_put 89 = .ok (.putfield 24, 3) := by decide +kernel
theorem dX1_put_92 : decode cX1_put 92 = .ok (.return_, 1) := by decide +kernel
theorem dX1_take_0 : decode cX1_take 0 = .ok (.aload_n 0, 1) := by decide +kernel
theorem dX1_take_1 : decode cX1_take 1 = .ok (.iload_n 1, 1) := by decide +kernel
theorem dX1_take_2 : decode cX1_take 2 = .ok (.iload_n 2, 1) := by decide +kernel
theorem dX1_take_3 : decode cX1_take 3 = .ok (.iload_n 3, 1) := by decide +kernel
theorem dX1_take_4 : decode cX1_take 4 = .ok (.invokevirtual 34, 3) := by decide +kernel
theorem dX1_take_7 : decode cX1_take 7 = .ok (.ifCond .ne 4, 3) := by decide +kernel
theorem dX1_take_10 : decode cX1_take 10 = .ok (.return_, 1) := by decide +kernel
theorem dX1_take_11 : decode cX1_take 11 = .ok (.iconst 0, 1) := by decide +kernel
theorem dX1_take_12 : decode cX1_take 12 = .ok (.istore 4, 2) := by decide +kernel
theorem dX1_take_14 : decode cX1_take 14 = .ok (.iload 4, 2) := by decide +kernel
theorem dX1_take_16 : decode cX1_take 16 = .ok (.iconst 3, 1) := by decide +kernel
theorem dX1_take_17 : decode cX1_take 17 = .ok (.if_icmp .ge 56, 3) := by decide +kernel
theorem dX1_take_20 : decode cX1_take 20 = .ok (.aload_n 0, 1) := by decide +kernel
theorem dX1_take_21 : decode cX1_take 21 = .ok (.getfield 11, 3) := by decide +kernel
theorem dX1_take_24 : decode cX1_take 24 = .ok (.iload 4, 2) := by decide +kernel
theorem dX1_take_26 : decode cX1_take 26 = .ok (.aaload, 1) := by decide +kernel
theorem dX1_take_27 : decode cX1_take 27 = .ok (.astore 5, 2) := by decide +kernel
theorem dX1_take_29 : decode cX1_take 29 = .ok (.aload_n 0, 1) := by decide +kernel
theorem dX1_take_30 : decode cX1_take 30 = .ok (.iload 4, 2) := by decide +kernel
theorem dX1_take_32 : decode cX1_take 32 = .ok (.iload 4, 2) := by decide +kernel
theorem dX1_take_34 : decode cX1_take 34 = .ok (.iload_n 1, 1) := by decide +kernel
theorem dX1_take_35 : decode cX1_take 35 = .ok (.iload_n 2, 1) := by decide +kernel
theorem dX1_take_36 : decode cX1_take 36 = .ok (.iload_n 3, 1) := by decide +kernel
theorem dX1_take_37 : decode cX1_take 37 = .ok (.invokestatic 16, 3) := by decide +kernel
theorem dX1_take_40 : decode cX1_take 40 = .ok (.invokevirtual 20, 3) := by decide +kernel
theorem dX1_take_43 : decode cX1_take 43 = .ok (.istore 6, 2) := by decide +kernel
theorem dX1_take_45 : decode cX1_take 45 = .ok (.aload 5, 2) := by decide +kernel
theorem dX1_take_47 : decode cX1_take 47 = .ok (.iload 6, 2) := by decide +kernel
theorem dX1_take_49 : decode cX1_take 49 = .ok (.iconst 1, 1) := by decide +kernel
theorem dX1_take_50 : decode cX1_take 50 = .ok (.iadd, 1) := by decide +kernel
theorem dX1_take_51 : decode cX1_take 51 = .ok (.aload 5, 2) := by decide +kernel
theorem dX1_take_53 : decode cX1_take 53 = .ok (.iload 6, 2) := by decide +kernel
theorem dX1_take_55 : decode cX1_take 55 = .ok (.aload_n 0, 1) := by decide +kernel
theorem dX1_take_56 : decode cX1_take 56 = .ok (.getfield 24, 3) := by decide +kernel
theorem dX1_take_59 : decode cX1_take 59 = .ok (.iload 6, 2) := by decide +kernel
theorem dX1_take_61 : decode cX1_take 61 = .ok (.isub, 1) := by decide +kernel
theorem dX1_take_62 : decode cX1_take 62 = .ok (.iconst 1, 1) := by decide +kernel
theorem dX1_take_63 : decode cX1_take 63 = .ok (.isub, 1) := by decide +kernel
theorem dX1_take_64 : decode cX1_take 64 = .ok (.invokestatic 28, 3) := by decide +kernel
theorem dX1_take_67 : decode cX1_take 67 = .ok (.iinc 4 1, 3) := by decide +kernel
theorem dX1_take_70 : decode cX1_take 70 = .ok (.goto (-56), 3) := by decide +kernel
theorem dX1_take_73 : decode cX1_take 73 = .ok (.aload_n 0, 1) := by decide +kernel
theorem dX1_take_74 : decode cX1_take 74 = .ok (.dup, 1) := by decide +kernel
theorem dX1_take_75 : decode cX1_take 75 = .ok (.getfield 24, 3) := by decide +kernel
theorem dX1_take_78 : decode cX1_take 78 = .ok (.iconst 1, 1) := by decide +kernel
theorem dX1_take_79 : decode cX1_take 79 = .ok (.isub, 1) := by decide +kernel
theorem dX1_take_80 : decode cX1_take 80 = .ok (.putfield 24, 3) := by decide +kernel
theorem dX1_take_83 : decode cX1_take 83 = .ok (.return_, 1) := by decide +kernel
theorem dX1_firstIn_0 : decode cX1_firstIn 0 = .ok (.aload_n 0, 1) := by decide +kernel
theorem dX1_firstIn_1 : decode cX1_firstIn 1 = .ok (.getfield 11, 3) := by decide +kernel
theorem dX1_firstIn_4 : decode cX1_firstIn 4 = .ok (.iload_n 1, 1) := by decide +kernel
theorem dX1_firstIn_5 : decode cX1_firstIn 5 = .ok (.aaload, 1) := by decide +kernel
theorem dX1_firstIn_6 : decode cX1_firstIn 6 = .ok (.aload_n 0, 1) := by decide +kernel
theorem dX1_firstIn_7 : decode cX1_firstIn 7 = .ok (.getfield 24, 3) := by decide +kernel
theorem dX1_firstIn_10 : decode cX1_firstIn 10 = .ok (.iload_n 2, 1) := by decide +kernel
theorem dX1_firstIn_11 : decode cX1_firstIn 11 = .ok (.invokestatic 38, 3) := by decide +kernel
theorem dX1_firstIn_14 : decode cX1_firstIn 14 = .ok (.ireturn, 1) := by decide +kernel
theorem dX1_countDifferent_0 : decode cX1_countDifferent 0 = .ok (.iload_n 1, 1) := by decide +kernel
