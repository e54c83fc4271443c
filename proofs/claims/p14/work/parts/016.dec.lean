theorem dX9_hasNumbers_5 : decode cX9_hasNumbers 5 = .ok (.iload 4, 2) := by decide +kernel
theorem dX9_hasNumbers_7 : decode cX9_hasNumbers 7 = .ok (.iconst 3, 1) := by decide +kernel
theorem dX9_hasNumbers_8 : decode cX9_hasNumbers 8 = .ok (.if_icmp .ge 58, 3) := by decide +kernel
theorem dX9_hasNumbers_11 : decode cX9_hasNumbers 11 = .ok (.iload_n 3, 1) := by decide +kernel
theorem dX9_hasNumbers_12 : decode cX9_hasNumbers 12 = .ok (.ifCond .eq 46, 3) := by decide +kernel
theorem dX9_hasNumbers_15 : decode cX9_hasNumbers 15 = .ok (.aload_n 0, 1) := by decide +kernel
theorem dX9_hasNumbers_16 : decode cX9_hasNumbers 16 = .ok (.getfield 13, 3) := by decide +kernel
theorem dX9_hasNumbers_19 : decode cX9_hasNumbers 19 = .ok (.iconst 3, 1) := by decide +kernel
theorem dX9_hasNumbers_20 : decode cX9_hasNumbers 20 = .ok (.iload_n 2, 1) := by decide +kernel
theorem dX9_hasNumbers_21 : decode cX9_hasNumbers 21 = .ok (.imul, 1) := by decide +kernel
theorem dX9_hasNumbers_22 : decode cX9_hasNumbers 22 = .ok (.iload 4, 2) := by decide +kernel
theorem dX9_hasNumbers_24 : decode cX9_hasNumbers 24 = .ok (.iadd, 1) := by decide +kernel
theorem dX9_hasNumbers_25 : decode cX9_hasNumbers 25 = .ok (.iaload, 1) := by decide +kernel
theorem dX9_hasNumbers_26 : decode cX9_hasNumbers 26 = .ok (.ifCond .lt 28, 3) := by decide +kernel
theorem dX9_hasNumbers_29 : decode cX9_hasNumbers 29 = .ok (.aload_n 0, 1) := by decide +kernel
theorem dX9_hasNumbers_30 : decode cX9_hasNumbers 30 = .ok (.getfield 13, 3) := by decide +kernel
theorem dX9_hasNumbers_33 : decode cX9_hasNumbers 33 = .ok (.iconst 3, 1) := by decide +kernel
theorem dX9_hasNumbers_34 : decode cX9_hasNumbers 34 = .ok (.iload_n 2, 1) := by decide +kernel
theorem dX9_hasNumbers_35 : decode cX9_hasNumbers 35 = .ok (.imul, 1) := by decide +kernel
theorem dX9_hasNumbers_36 : decode cX9_hasNumbers 36 = .ok (.iload 4, 2) := by decide +kernel
theorem dX9_hasNumbers_38 : decode cX9_hasNumbers 38 = .ok (.iadd, 1) := by decide +kernel
theorem dX9_hasNumbers_39 : decode cX9_hasNumbers 39 = .ok (.iaload, 1) := by decide +kernel
theorem dX9_hasNumbers_40 : decode cX9_hasNumbers 40 = .ok (.aload_n 0, 1) := by decide +kernel
theorem dX9_hasNumbers_41 : decode cX9_hasNumbers 41 = .ok (.getfield 7, 3) := by decide +kernel
theorem dX9_hasNumbers_44 : decode cX9_hasNumbers 44 = .ok (.iconst 3, 1) := by decide +kernel
theorem dX9_hasNumbers_45 : decode cX9_hasNumbers 45 = .ok (.iload_n 1, 1) := by decide +kernel
theorem dX9_hasNumbers_46 : decode cX9_hasNumbers 46 = .ok (.imul, 1) := by decide +kernel
theorem dX9_hasNumbers_47 : decode cX9_hasNumbers 47 = .ok (.iload 4, 2) := by decide +kernel
theorem dX9_hasNumbers_49 : decode cX9_hasNumbers 49 = .ok (.iadd, 1) := by decide +kernel
theorem dX9_hasNumbers_50 : decode cX9_hasNumbers 50 = .ok (.iaload, 1) := by decide +kernel
theorem dX9_hasNumbers_51 : decode cX9_hasNumbers 51 = .ok (.if_icmp .ne 7, 3) := by decide +kernel
theorem dX9_hasNumbers_54 : decode cX9_hasNumbers 54 = .ok (.iconst 1, 1) := by decide +kernel
theorem dX9_hasNumbers_55 : decode cX9_hasNumbers 55 = .ok (.goto 4, 3) := by decide +kernel
theorem dX9_hasNumbers_58 : decode cX9_hasNumbers 58 = .ok (.iconst 0, 1) := by decide +kernel
theorem dX9_hasNumbers_59 : decode cX9_hasNumbers 59 = .ok (.istore_n 3, 1) := by decide +kernel
theorem dX9_hasNumbers_60 : decode cX9_hasNumbers 60 = .ok (.iinc 4 1, 3) := by decide +kernel
theorem dX9_hasNumbers_63 : decode cX9_hasNumbers 63 = .ok (.goto (-58), 3) := by decide +kernel
theorem dX9_hasNumbers_66 : decode cX9_hasNumbers 66 = .ok (.iload_n 3, 1) := by decide +kernel
theorem dX9_hasNumbers_67 : decode cX9_hasNumbers 67 = .ok (.ireturn, 1) := by decide +kernel
theorem dX9_bit_0 : decode cX9_bit 0 = .ok (.iconst 1, 1) := by decide +kernel
theorem dX9_bit_1 : decode cX9_bit 1 = .ok (.iconst (-1), 1) := by decide +kernel
theorem dX9_bit_2 : decode cX9_bit 2 = .ok (.iload_n 0, 1) := by decide +kernel
theorem dX9_bit_3 : decode cX9_bit 3 = .ok (.isub, 1) := by decide +kernel
theorem dX9_bit_4 : decode cX9_bit 4 = .ok (.ishl, 1) := by decide +kernel
theorem dX9_bit_5 : decode cX9_bit 5 = .ok (.ireturn, 1) := by decide +kernel
theorem dX9_many_0 : decode cX9_many 0 = .ok (.iconst 0, 1) := by decide +kernel
theorem dX9_many_1 : decode cX9_many 1 = .ok (.istore_n 3, 1) := by decide +kernel
theorem dX9_many_2 : decode cX9_many 2 = .ok (.iconst 0, 1) := by decide +kernel
theorem dX9_many_3 : decode cX9_many 3 = .ok (.istore 4, 2) := by decide +kernel
theorem dX9_many_5 : decode cX9_many 5 = .ok (.iload 4, 2) := by decide +kernel
theorem dX9_many_7 : decode cX9_many 7 = .ok (.aload_n 0, 1) := by decide +kernel
theorem dX9_many_8 : decode cX9_many 8 = .ok (.getfield 51, 3) := by decide +kernel
theorem dX9_many_11 : decode cX9_many 11 = .ok (.if_icmp .ge 105, 3) := by decide +kernel
theorem dX9_many_14 : decode cX9_many 14 = .ok (.aload_n 0, 1) := by decide +kernel
theorem dX9_many_15 : decode cX9_many 15 = .ok (.iload 4, 2) := by decide +kernel
theorem dX9_many_17 : decode cX9_many 17 = .ok (.iload_n 1, 1) := by decide +kernel
theorem dX9_many_18 : decode cX9_many 18 = .ok (.invokevirtual 71, 3) := by decide +kernel
theorem dX9_many_21 : decode cX9_many 21 = .ok (.ifCond .ne 6, 3) := by decide +kernel
theorem dX9_many_24 : decode cX9_many 24 = .ok (.goto 86, 3) := by decide +kernel
theorem dX9_many_27 : decode cX9_many 27 = .ok (.iconst 1, 1) := by decide +kernel
theorem dX9_many_28 : decode cX9_many 28 = .ok (.istore 5, 2) := by decide +kernel
theorem dX9_many_30 : decode cX9_many 30 = .ok (.iconst 0, 1) := by decide +kernel
theorem dX9_many_31 : decode cX9_many 31 = .ok (.istore 6, 2) := by decide +kernel
theorem dX9_many_33 : decode cX9_many 33 = .ok (.iload 6, 2) := by decide +kernel
theorem dX9_many_35 : decode cX9_many 35 = .ok (.iload 4, 2) := by decide +kernel
theorem dX9_many_37 : decode cX9_many 37 = .ok (.if_icmp .ge 60, 3) := by decide +kernel
theorem dX9_many_40 : decode cX9_many 40 = .ok (.iload 5, 2) := by decide +kernel
theorem dX9_many_42 : decode cX9_many 42 = .ok (.ifCond .eq 55, 3) := by decide +kernel
theorem dX9_many_45 : decode cX9_many 45 = .ok (.iload_n 2, 1) := by decide +kernel
theorem dX9_many_46 : decode cX9_many 46 = .ok (.ifCond .lt 51, 3) := by decide +kernel
theorem dX9_many_49 : decode cX9_many 49 = .ok (.aload_n 0, 1) := by decide +kernel
theorem dX9_many_50 : decode cX9_many 50 = .ok (.iload 6, 2) := by decide +kernel
theorem dX9_many_52 : decode cX9_many 52 = .ok (.iload_n 1, 1) := by decide +kernel
theorem dX9_many_53 : decode cX9_many 53 = .ok (.invokevirtual 71, 3) := by decide +kernel
theorem dX9_many_56 : decode cX9_many 56 = .ok (.ifCond .eq 28, 3) := by decide +kernel
theorem dX9_many_59 : decode cX9_many 59 = .ok (.aload_n 0, 1) := by decide +kernel
theorem dX9_many_60 : decode cX9_many 60 = .ok (.getfield 7, 3) := by decide +kernel
theorem dX9_many_63 : decode cX9_many 63 = .ok (.iconst 3, 1) := by decide +kernel
theorem dX9_many_64 : decode cX9_many 64 = .ok (.iload 6, 2) := by decide +kernel
theorem dX9_many_66 : decode cX9_many 66 = .ok (.imul, 1) := by decide +kernel
theorem dX9_many_67 : decode cX9_many 67 = .ok (.iload_n 2, 1) := by decide +kernel
theorem dX9_many_68 : decode cX9_many 68 = .ok (.iadd, 1) := by decide +kernel
theorem dX9_many_69 : decode cX9_many 69 = .ok (.iaload, 1) := by decide +kernel
theorem dX9_many_70 : decode cX9_many 70 = .ok (.aload_n 0, 1) := by decide +kernel
theorem dX9_many_71 : decode cX9_many 71 = .ok (.getfield 7, 3) := by decide +kernel
theorem dX9_many_74 : decode cX9_many 74 = .ok (.iconst 3, 1) := by decide +kernel
theorem dX9_many_75 : decode cX9_many 75 = .ok (.iload 4, 2) := by decide +kernel
theorem dX9_many_77 : decode cX9_many 77 = .ok (.imul, 1) := by decide +kernel
theorem dX9_many_78 : decode cX9_many 78 = .ok (.iload_n 2, 1) := by decide +kernel
theorem dX9_many_79 : decode cX9_many 79 = .ok (.iadd, 1) := by decide +kernel
theorem dX9_many_80 : decode cX9_many 80 = .ok (.iaload, 1) := by decide +kernel
theorem dX9_many_81 : decode cX9_many 81 = .ok (.if_icmp .eq 7, 3) := by decide +kernel
theorem dX9_many_84 : decode cX9_many 84 = .ok (.iconst 1, 1) := by decide +kernel
theorem dX9_many_85 : decode cX9_many 85 = .ok (.goto 4, 3) := by decide +kernel
theorem dX9_many_88 : decode cX9_many 88 = .ok (.iconst 0, 1) := by decide +kernel
theorem dX9_many_89 : decode cX9_many 89 = .ok (.istore 5, 2) := by decide +kernel
theorem dX9_many_91 : decode cX9_many 91 = .ok (.iinc 6 1, 3) := by decide +kernel
theorem dX9_many_94 : decode cX9_many 94 = .ok (.goto (-61), 3) := by decide +kernel
theorem dX9_many_97 : decode cX9_many 97 = .ok (.iload_n 3, 1) := by decide +kernel
theorem dX9_many_98 : decode cX9_many 98 = .ok (.iload 5, 2) := by decide +kernel
theorem dX9_many_100 : decode cX9_many 100 = .ok (.ifCond .eq 7, 3) := by decide +kernel
theorem dX9_many_103 : decode cX9_many 103 = .ok (.iconst 1, 1) := by decide +kernel
theorem dX9_many_104 : decode cX9_many 104 = .ok (.goto 4, 3) := by decide +kernel
theorem dX9_many_107 : decode cX9_many 107 = .ok (.iconst 0, 1) := by decide +kernel
theorem dX9_many_108 : decode cX9_many 108 = .ok (.iadd, 1) := by decide +kernel
theorem dX9_many_109 : decode cX9_many 109 = .ok (.istore_n 3, 1) := by decide +kernel
theorem dX9_many_110 : decode cX9_many 110 = .ok (.iinc 4 1, 3) := by decide +kernel
theorem dX9_many_113 : decode cX9_many 113 = .ok (.goto (-108), 3) := by decide +kernel
theorem dX9_many_116 : decode cX9_many 116 = .ok (.iload_n 3, 1) := by decide +kernel
theorem dX9_many_117 : decode cX9_many 117 = .ok (.ireturn, 1) := by decide +kernel
theorem dX9_estimate_0 : decode cX9_estimate 0 = .ok (.aload_n 0, 1) := by decide +kernel
theorem dX9_estimate_1 : decode cX9_estimate 1 = .ok (.iload_n 1, 1) := by decide +kernel
theorem dX9_estimate_2 : decode cX9_estimate 2 = .ok (.invokevirtual 75, 3) := by decide +kernel
theorem dX9_estimate_5 : decode cX9_estimate 5 = .ok (.ifCond .ne 5, 3) := by decide +kernel
theorem dX9_estimate_8 : decode cX9_estimate 8 = .ok (.iconst (-1), 1) := by decide +kernel
theorem dX9_estimate_9 : decode cX9_estimate 9 = .ok (.ireturn, 1) := by decide +kernel
theorem dX9_estimate_10 : decode cX9_estimate 10 = .ok (.aload_n 0, 1) := by decide +kernel
theorem dX9_estimate_11 : decode cX9_estimate 11 = .ok (.iload_n 1, 1) := by decide +kernel
theorem dX9_estimate_12 : decode cX9_estimate 12 = .ok (.iconst (-1), 1) := by decide +kernel
theorem dX9_estimate_13 : decode cX9_estimate 13 = .ok (.invokevirtual 78, 3) := by decide +kernel
theorem dX9_estimate_16 : decode cX9_estimate 16 = .ok (.istore_n 3, 1) := by decide +kernel
theorem dX9_estimate_17 : decode cX9_estimate 17 = .ok (.iconst 1, 1) := by decide +kernel
theorem dX9_estimate_18 : decode cX9_estimate 18 = .ok (.istore 4, 2) := by decide +kernel
theorem dX9_estimate_20 : decode cX9_estimate 20 = .ok (.iconst 0, 1) := by decide +kernel
theorem dX9_estimate_21 : decode cX9_estimate 21 = .ok (.istore 5, 2) := by decide +kernel
theorem dX9_estimate_23 : decode cX9_estimate 23 = .ok (.iload 5, 2) := by decide +kernel
theorem dX9_estimate_25 : decode cX9_estimate 25 = .ok (.iconst 3, 1) := by decide +kernel
theorem dX9_estimate_26 : decode cX9_estimate 26 = .ok (.if_icmp .ge 53, 3) := by decide +kernel
theorem dX9_estimate_29 : decode cX9_estimate 29 = .ok (.iload_n 3, 1) := by decide +kernel
theorem dX9_estimate_30 : decode cX9_estimate 30 = .ok (.ifCond .le 49, 3) := by decide +kernel
theorem dX9_estimate_33 : decode cX9_estimate 33 = .ok (.aload_n 0, 1) := by decide +kernel
theorem dX9_estimate_34 : decode cX9_estimate 34 = .ok (.getfield 13, 3) := by decide +kernel
theorem dX9_estimate_37 : decode cX9_estimate 37 = .ok (.iconst 3, 1) := by decide +kernel
theorem dX9_estimate_38 : decode cX9_estimate 38 = .ok (.iload_n 1, 1) := by decide +kernel
theorem dX9_estimate_39 : decode cX9_estimate 39 = .ok (.imul, 1) := by decide +kernel
theorem dX9_estimate_40 : decode cX9_estimate 40 = .ok (.iload 5, 2) := by decide +kernel
theorem dX9_estimate_42 : decode cX9_estimate 42 = .ok (.iadd, 1) := by decide +kernel
theorem dX9_estimate_43 : decode cX9_estimate 43 = .ok (.iaload, 1) := by decide +kernel
theorem dX9_estimate_44 : decode cX9_estimate 44 = .ok (.istore 6, 2) := by decide +kernel
theorem dX9_estimate_46 : decode cX9_estimate 46 = .ok (.iload 6, 2) := by decide +kernel
theorem dX9_estimate_48 : decode cX9_estimate 48 = .ok (.ifCond .ge 25, 3) := by decide +kernel
theorem dX9_estimate_51 : decode cX9_estimate 51 = .ok (.iload_n 2, 1) := by decide +kernel
theorem dX9_estimate_52 : decode cX9_estimate 52 = .ok (.iload 6, 2) := by decide +kernel
theorem dX9_estimate_54 : decode cX9_estimate 54 = .ok (.invokestatic 82, 3) := by decide +kernel
theorem dX9_estimate_57 : decode cX9_estimate 57 = .ok (.iand, 1) := by decide +kernel
theorem dX9_estimate_58 : decode cX9_estimate 58 = .ok (.ifCond .eq 15, 3) := by decide +kernel
theorem dX9_estimate_61 : decode cX9_estimate 61 = .ok (.iload 4, 2) := by decide +kernel
theorem dX9_estimate_63 : decode cX9_estimate 63 = .ok (.aload_n 0, 1) := by decide +kernel
theorem dX9_estimate_64 : decode cX9_estimate 64 = .ok (.iload_n 1, 1) := by decide +kernel
theorem dX9_estimate_65 : decode cX9_estimate 65 = .ok (.iload 5, 2) := by decide +kernel
theorem dX9_estimate_67 : decode cX9_estimate 67 = .ok (.invokevirtual 78, 3) := by decide +kernel
theorem dX9_estimate_70 : decode cX9_estimate 70 = .ok (.imul, 1) := by decide +kernel
theorem dX9_estimate_71 : decode cX9_estimate 71 = .ok (.istore 4, 2) := by decide +kernel
theorem dX9_estimate_73 : decode cX9_estimate 73 = .ok (.iinc 5 1, 3) := by decide +kernel
theorem dX9_estimate_76 : decode cX9_estimate 76 = .ok (.goto (-53), 3) := by decide +kernel
theorem dX9_estimate_79 : decode cX9_estimate 79 = .ok (.iload_n 3, 1) := by decide +kernel
theorem dX9_estimate_80 : decode cX9_estimate 80 = .ok (.iload 4, 2) := by decide +kernel
theorem dX9_estimate_82 : decode cX9_estimate 82 = .ok (.idiv, 1) := by decide +kernel
theorem dX9_estimate_83 : decode cX9_estimate 83 = .ok (.iload_n 3, 1) := by decide +kernel
theorem dX9_estimate_84 : decode cX9_estimate 84 = .ok (.iload 4, 2) := by decide +kernel
