theorem dX2_variables_25 : decode cX2_variables 25 = .ok (.invokestatic 18, 3) := by decide +kernel
theorem dX2_variables_28 : decode cX2_variables 28 = .ok (.ior, 1) := by decide +kernel
theorem dX2_variables_29 : decode cX2_variables 29 = .ok (.istore_n 1, 1) := by decide +kernel
theorem dX2_variables_30 : decode cX2_variables 30 = .ok (.iinc 2 1, 3) := by decide +kernel
theorem dX2_variables_33 : decode cX2_variables 33 = .ok (.goto (-29), 3) := by decide +kernel
theorem dX2_variables_36 : decode cX2_variables 36 = .ok (.iload_n 1, 1) := by decide +kernel
theorem dX2_variables_37 : decode cX2_variables 37 = .ok (.ireturn, 1) := by decide +kernel
theorem dX2_isKnown_0 : decode cX2_isKnown 0 = .ok (.aload_n 0, 1) := by decide +kernel
theorem dX2_isKnown_1 : decode cX2_isKnown 1 = .ok (.getfield 9, 3) := by decide +kernel
theorem dX2_isKnown_4 : decode cX2_isKnown 4 = .ok (.iload_n 1, 1) := by decide +kernel
theorem dX2_isKnown_5 : decode cX2_isKnown 5 = .ok (.iaload, 1) := by decide +kernel
theorem dX2_isKnown_6 : decode cX2_isKnown 6 = .ok (.ifCond .ge 21, 3) := by decide +kernel
theorem dX2_isKnown_9 : decode cX2_isKnown 9 = .ok (.iload_n 2, 1) := by decide +kernel
theorem dX2_isKnown_10 : decode cX2_isKnown 10 = .ok (.aload_n 0, 1) := by decide +kernel
theorem dX2_isKnown_11 : decode cX2_isKnown 11 = .ok (.getfield 9, 3) := by decide +kernel
theorem dX2_isKnown_14 : decode cX2_isKnown 14 = .ok (.iload_n 1, 1) := by decide +kernel
theorem dX2_isKnown_15 : decode cX2_isKnown 15 = .ok (.iaload, 1) := by decide +kernel
theorem dX2_isKnown_16 : decode cX2_isKnown 16 = .ok (.invokestatic 18, 3) := by decide +kernel
theorem dX2_isKnown_19 : decode cX2_isKnown 19 = .ok (.iand, 1) := by decide +kernel
theorem dX2_isKnown_20 : decode cX2_isKnown 20 = .ok (.ifCond .eq 7, 3) := by decide +kernel
theorem dX2_isKnown_23 : decode cX2_isKnown 23 = .ok (.iconst 1, 1) := by decide +kernel
theorem dX2_isKnown_24 : decode cX2_isKnown 24 = .ok (.goto 4, 3) := by decide +kernel
theorem dX2_isKnown_27 : decode cX2_isKnown 27 = .ok (.iconst 0, 1) := by decide +kernel
theorem dX2_isKnown_28 : decode cX2_isKnown 28 = .ok (.ireturn, 1) := by decide +kernel
theorem dX2_fixedPlaces_0 : decode cX2_fixedPlaces 0 = .ok (.iconst 0, 1) := by decide +kernel
theorem dX2_fixedPlaces_1 : decode cX2_fixedPlaces 1 = .ok (.istore_n 2, 1) := by decide +kernel
theorem dX2_fixedPlaces_2 : decode cX2_fixedPlaces 2 = .ok (.iconst 0, 1) := by decide +kernel
theorem dX2_fixedPlaces_3 : decode cX2_fixedPlaces 3 = .ok (.istore_n 3, 1) := by decide +kernel
theorem dX2_fixedPlaces_4 : decode cX2_fixedPlaces 4 = .ok (.iload_n 3, 1) := by decide +kernel
theorem dX2_fixedPlaces_5 : decode cX2_fixedPlaces 5 = .ok (.iconst 3, 1) := by decide +kernel
theorem dX2_fixedPlaces_6 : decode cX2_fixedPlaces 6 = .ok (.if_icmp .ge 33, 3) := by decide +kernel
theorem dX2_fixedPlaces_9 : decode cX2_fixedPlaces 9 = .ok (.aload_n 0, 1) := by decide +kernel
theorem dX2_fixedPlaces_10 : decode cX2_fixedPlaces 10 = .ok (.getfield 9, 3) := by decide +kernel
theorem dX2_fixedPlaces_13 : decode cX2_fixedPlaces 13 = .ok (.iload_n 3, 1) := by decide +kernel
theorem dX2_fixedPlaces_14 : decode cX2_fixedPlaces 14 = .ok (.iaload, 1) := by decide +kernel
theorem dX2_fixedPlaces_15 : decode cX2_fixedPlaces 15 = .ok (.ifCond .ge 12, 3) := by decide +kernel
theorem dX2_fixedPlaces_18 : decode cX2_fixedPlaces 18 = .ok (.aload_n 0, 1) := by decide +kernel
theorem dX2_fixedPlaces_19 : decode cX2_fixedPlaces 19 = .ok (.iload_n 3, 1) := by decide +kernel
theorem dX2_fixedPlaces_20 : decode cX2_fixedPlaces 20 = .ok (.iload_n 1, 1) := by decide +kernel
theorem dX2_fixedPlaces_21 : decode cX2_fixedPlaces 21 = .ok (.invokevirtual 22, 3) := by decide +kernel
theorem dX2_fixedPlaces_24 : decode cX2_fixedPlaces 24 = .ok (.ifCond .eq 9, 3) := by decide +kernel
theorem dX2_fixedPlaces_27 : decode cX2_fixedPlaces 27 = .ok (.iload_n 2, 1) := by decide +kernel
theorem dX2_fixedPlaces_28 : decode cX2_fixedPlaces 28 = .ok (.iconst 1, 1) := by decide +kernel
theorem dX2_fixedPlaces_29 : decode cX2_fixedPlaces 29 = .ok (.iload_n 3, 1) := by decide +kernel
theorem dX2_fixedPlaces_30 : decode cX2_fixedPlaces 30 = .ok (.ishl, 1) := by decide +kernel
theorem dX2_fixedPlaces_31 : decode cX2_fixedPlaces 31 = .ok (.ior, 1) := by decide +kernel
theorem dX2_fixedPlaces_32 : decode cX2_fixedPlaces 32 = .ok (.istore_n 2, 1) := by decide +kernel
theorem dX2_fixedPlaces_33 : decode cX2_fixedPlaces 33 = .ok (.iinc 3 1, 3) := by decide +kernel
theorem dX2_fixedPlaces_36 : decode cX2_fixedPlaces 36 = .ok (.goto (-32), 3) := by decide +kernel
theorem dX2_fixedPlaces_39 : decode cX2_fixedPlaces 39 = .ok (.iload_n 2, 1) := by decide +kernel
theorem dX2_fixedPlaces_40 : decode cX2_fixedPlaces 40 = .ok (.ireturn, 1) := by decide +kernel
theorem dX2_numberKey_0 : decode cX2_numberKey 0 = .ok (.iconst 0, 1) := by decide +kernel
theorem dX2_numberKey_1 : decode cX2_numberKey 1 = .ok (.istore_n 2, 1) := by decide +kernel
theorem dX2_numberKey_2 : decode cX2_numberKey 2 = .ok (.iconst 0, 1) := by decide +kernel
theorem dX2_numberKey_3 : decode cX2_numberKey 3 = .ok (.istore_n 3, 1) := by decide +kernel
theorem dX2_numberKey_4 : decode cX2_numberKey 4 = .ok (.iload_n 3, 1) := by decide +kernel
theorem dX2_numberKey_5 : decode cX2_numberKey 5 = .ok (.iconst 3, 1) := by decide +kernel
theorem dX2_numberKey_6 : decode cX2_numberKey 6 = .ok (.if_icmp .ge 33, 3) := by decide +kernel
theorem dX2_numberKey_9 : decode cX2_numberKey 9 = .ok (.aload_n 0, 1) := by decide +kernel
theorem dX2_numberKey_10 : decode cX2_numberKey 10 = .ok (.getfield 9, 3) := by decide +kernel
theorem dX2_numberKey_13 : decode cX2_numberKey 13 = .ok (.iload_n 3, 1) := by decide +kernel
theorem dX2_numberKey_14 : decode cX2_numberKey 14 = .ok (.iaload, 1) := by decide +kernel
theorem dX2_numberKey_15 : decode cX2_numberKey 15 = .ok (.ifCond .lt 18, 3) := by decide +kernel
theorem dX2_numberKey_18 : decode cX2_numberKey 18 = .ok (.iload_n 2, 1) := by decide +kernel
theorem dX2_numberKey_19 : decode cX2_numberKey 19 = .ok (.aload_n 0, 1) := by decide +kernel
theorem dX2_numberKey_20 : decode cX2_numberKey 20 = .ok (.getfield 9, 3) := by decide +kernel
theorem dX2_numberKey_23 : decode cX2_numberKey 23 = .ok (.iload_n 3, 1) := by decide +kernel
theorem dX2_numberKey_24 : decode cX2_numberKey 24 = .ok (.iaload, 1) := by decide +kernel
theorem dX2_numberKey_25 : decode cX2_numberKey 25 = .ok (.iload_n 1, 1) := by decide +kernel
theorem dX2_numberKey_26 : decode cX2_numberKey 26 = .ok (.iload_n 3, 1) := by decide +kernel
theorem dX2_numberKey_27 : decode cX2_numberKey 27 = .ok (.invokestatic 26, 3) := by decide +kernel
theorem dX2_numberKey_30 : decode cX2_numberKey 30 = .ok (.ishl, 1) := by decide +kernel
theorem dX2_numberKey_31 : decode cX2_numberKey 31 = .ok (.ior, 1) := by decide +kernel
theorem dX2_numberKey_32 : decode cX2_numberKey 32 = .ok (.istore_n 2, 1) := by decide +kernel
theorem dX2_numberKey_33 : decode cX2_numberKey 33 = .ok (.iinc 3 1, 3) := by decide +kernel
theorem dX2_numberKey_36 : decode cX2_numberKey 36 = .ok (.goto (-32), 3) := by decide +kernel
theorem dX2_numberKey_39 : decode cX2_numberKey 39 = .ok (.iload_n 2, 1) := by decide +kernel
theorem dX2_numberKey_40 : decode cX2_numberKey 40 = .ok (.ireturn, 1) := by decide +kernel
theorem dX2_measure_0 : decode cX2_measure 0 = .ok (.aload_n 0, 1) := by decide +kernel
theorem dX2_measure_1 : decode cX2_measure 1 = .ok (.iconst 0, 1) := by decide +kernel
theorem dX2_measure_2 : decode cX2_measure 2 = .ok (.invokevirtual 30, 3) := by decide +kernel
theorem dX2_measure_5 : decode cX2_measure 5 = .ok (.istore_n 2, 1) := by decide +kernel
theorem dX2_measure_6 : decode cX2_measure 6 = .ok (.getstatic 33, 3) := by decide +kernel
theorem dX2_measure_9 : decode cX2_measure 9 = .ok (.iload_n 2, 1) := by decide +kernel
theorem dX2_measure_10 : decode cX2_measure 10 = .ok (.iaload, 1) := by decide +kernel
theorem dX2_measure_11 : decode cX2_measure 11 = .ok (.istore_n 3, 1) := by decide +kernel
theorem dX2_measure_12 : decode cX2_measure 12 = .ok (.aload_n 0, 1) := by decide +kernel
theorem dX2_measure_13 : decode cX2_measure 13 = .ok (.iload_n 3, 1) := by decide +kernel
theorem dX2_measure_14 : decode cX2_measure 14 = .ok (.invokevirtual 36, 3) := by decide +kernel
theorem dX2_measure_17 : decode cX2_measure 17 = .ok (.istore 4, 2) := by decide +kernel
theorem dX2_measure_19 : decode cX2_measure 19 = .ok (.aload_n 1, 1) := by decide +kernel
theorem dX2_measure_20 : decode cX2_measure 20 = .ok (.iload_n 3, 1) := by decide +kernel
theorem dX2_measure_21 : decode cX2_measure 21 = .ok (.iload 4, 2) := by decide +kernel
theorem dX2_measure_23 : decode cX2_measure 23 = .ok (.invokevirtual 39, 3) := by decide +kernel
theorem dX2_measure_26 : decode cX2_measure 26 = .ok (.istore 5, 2) := by decide +kernel
theorem dX2_measure_28 : decode cX2_measure 28 = .ok (.aload_n 1, 1) := by decide +kernel
theorem dX2_measure_29 : decode cX2_measure 29 = .ok (.iload_n 3, 1) := by decide +kernel
theorem dX2_measure_30 : decode cX2_measure 30 = .ok (.iload 4, 2) := by decide +kernel
theorem dX2_measure_32 : decode cX2_measure 32 = .ok (.iconst 1, 1) := by decide +kernel
theorem dX2_measure_33 : decode cX2_measure 33 = .ok (.iload_n 2, 1) := by decide +kernel
theorem dX2_measure_34 : decode cX2_measure 34 = .ok (.invokestatic 44, 3) := by decide +kernel
theorem dX2_measure_37 : decode cX2_measure 37 = .ok (.ishl, 1) := by decide +kernel
theorem dX2_measure_38 : decode cX2_measure 38 = .ok (.iadd, 1) := by decide +kernel
theorem dX2_measure_39 : decode cX2_measure 39 = .ok (.invokevirtual 39, 3) := by decide +kernel
theorem dX2_measure_42 : decode cX2_measure 42 = .ok (.istore 6, 2) := by decide +kernel
theorem dX2_measure_44 : decode cX2_measure 44 = .ok (.aload_n 0, 1) := by decide +kernel
theorem dX2_measure_45 : decode cX2_measure 45 = .ok (.iload 6, 2) := by decide +kernel
theorem dX2_measure_47 : decode cX2_measure 47 = .ok (.iload 5, 2) := by decide +kernel
theorem dX2_measure_49 : decode cX2_measure 49 = .ok (.isub, 1) := by decide +kernel
theorem dX2_measure_50 : decode cX2_measure 50 = .ok (.putfield 47, 3) := by decide +kernel
theorem dX2_measure_53 : decode cX2_measure 53 = .ok (.iconst 0, 1) := by decide +kernel
theorem dX2_measure_54 : decode cX2_measure 54 = .ok (.istore 7, 2) := by decide +kernel
theorem dX2_measure_56 : decode cX2_measure 56 = .ok (.iload 7, 2) := by decide +kernel
theorem dX2_measure_58 : decode cX2_measure 58 = .ok (.iconst 3, 1) := by decide +kernel
theorem dX2_measure_59 : decode cX2_measure 59 = .ok (.if_icmp .ge 27, 3) := by decide +kernel
theorem dX2_measure_62 : decode cX2_measure 62 = .ok (.aload_n 0, 1) := by decide +kernel
theorem dX2_measure_63 : decode cX2_measure 63 = .ok (.getfield 15, 3) := by decide +kernel
theorem dX2_measure_66 : decode cX2_measure 66 = .ok (.iload 7, 2) := by decide +kernel
theorem dX2_measure_68 : decode cX2_measure 68 = .ok (.aload_n 1, 1) := by decide +kernel
theorem dX2_measure_69 : decode cX2_measure 69 = .ok (.iload_n 3, 1) := by decide +kernel
theorem dX2_measure_70 : decode cX2_measure 70 = .ok (.iload 7, 2) := by decide +kernel
theorem dX2_measure_72 : decode cX2_measure 72 = .ok (.iload 5, 2) := by decide +kernel
theorem dX2_measure_74 : decode cX2_measure 74 = .ok (.iload 6, 2) := by decide +kernel
theorem dX2_measure_76 : decode cX2_measure 76 = .ok (.invokevirtual 51, 3) := by decide +kernel
theorem dX2_measure_79 : decode cX2_measure 79 = .ok (.iastore, 1) := by decide +kernel
theorem dX2_measure_80 : decode cX2_measure 80 = .ok (.iinc 7 1, 3) := by decide +kernel
theorem dX2_measure_83 : decode cX2_measure 83 = .ok (.goto (-27), 3) := by decide +kernel
theorem dX2_measure_86 : decode cX2_measure 86 = .ok (.return_, 1) := by decide +kernel
theorem dX2_estimated_0 : decode cX2_estimated 0 = .ok (.iconst 1, 1) := by decide +kernel
theorem dX2_estimated_1 : decode cX2_estimated 1 = .ok (.istore_n 2, 1) := by decide +kernel
theorem dX2_estimated_2 : decode cX2_estimated 2 = .ok (.iconst 0, 1) := by decide +kernel
theorem dX2_estimated_3 : decode cX2_estimated 3 = .ok (.istore_n 3, 1) := by decide +kernel
theorem dX2_estimated_4 : decode cX2_estimated 4 = .ok (.iload_n 3, 1) := by decide +kernel
theorem dX2_estimated_5 : decode cX2_estimated 5 = .ok (.iconst 3, 1) := by decide +kernel
theorem dX2_estimated_6 : decode cX2_estimated 6 = .ok (.if_icmp .ge 27, 3) := by decide +kernel
theorem dX2_estimated_9 : decode cX2_estimated 9 = .ok (.aload_n 0, 1) := by decide +kernel
theorem dX2_estimated_10 : decode cX2_estimated 10 = .ok (.iload_n 3, 1) := by decide +kernel
theorem dX2_estimated_11 : decode cX2_estimated 11 = .ok (.iload_n 1, 1) := by decide +kernel
theorem dX2_estimated_12 : decode cX2_estimated 12 = .ok (.invokevirtual 22, 3) := by decide +kernel
theorem dX2_estimated_15 : decode cX2_estimated 15 = .ok (.ifCond .eq 12, 3) := by decide +kernel
theorem dX2_estimated_18 : decode cX2_estimated 18 = .ok (.iload_n 2, 1) := by decide +kernel
theorem dX2_estimated_19 : decode cX2_estimated 19 = .ok (.aload_n 0, 1) := by decide +kernel
theorem dX2_estimated_20 : decode cX2_estimated 20 = .ok (.getfield 15, 3) := by decide +kernel
theorem dX2_estimated_23 : decode cX2_estimated 23 = .ok (.iload_n 3, 1) := by decide +kernel
theorem dX2_estimated_24 : decode cX2_estimated 24 = .ok (.iaload, 1) := by decide +kernel
theorem dX2_estimated_25 : decode cX2_estimated 25 = .ok (.imul, 1) := by decide +kernel
theorem dX2_estimated_26 : decode cX2_estimated 26 = .ok (.istore_n 2, 1) := by decide +kernel
theorem dX2_estimated_27 : decode cX2_estimated 27 = .ok (.iinc 3 1, 3) := by decide +kernel
theorem dX2_estimated_30 : decode cX2_estimated 30 = .ok (.goto (-26), 3) := by decide +kernel
theorem dX2_estimated_33 : decode cX2_estimated 33 = .ok (.aload_n 0, 1) := by decide +kernel
theorem dX2_estimated_34 : decode cX2_estimated 34 = .ok (.getfield 47, 3) := by decide +kernel
theorem dX2_estimated_37 : decode cX2_estimated 37 = .ok (.iconst 1, 1) := by decide +kernel
theorem dX2_estimated_38 : decode cX2_estimated 38 = .ok (.if_icmp .lt 8, 3) := by decide +kernel
theorem dX2_estimated_41 : decode cX2_estimated 41 = .ok (.iload_n 2, 1) := by decide +kernel
theorem dX2_estimated_42 : decode cX2_estimated 42 = .ok (.iconst 1, 1) := by decide +kernel
theorem dX2_estimated_43 : decode cX2_estimated 43 = .ok (.if_icmp .ge 5, 3) := by decide +kernel
theorem dX2_estimated_46 : decode cX2_estimated 46 = .ok (.iconst 0, 1) := by decide +kernel
theorem dX2_estimated_47 : decode cX2_estimated 47 = .ok (.ireturn, 1) := by decide +kernel
theorem dX2_estimated_48 : decode cX2_estimated 48 = .ok (.aload_n 0, 1) := by decide +kernel
theorem dX2_estimated_49 : decode cX2_estimated 49 = .ok (.getfield 47, 3) := by decide +kernel
