theorem dX0_value_53 : decode cX0_value 53 = .ok (.ireturn, 1) := by decide +kernel
theorem dX0_forget_0 : decode cX0_forget 0 = .ok (.aload_n 0, 1) := by decide +kernel
theorem dX0_forget_1 : decode cX0_forget 1 = .ok (.bipush (-4), 2) := by decide +kernel
theorem dX0_forget_3 : decode cX0_forget 3 = .ok (.putfield 44, 3) := by decide +kernel
theorem dX0_forget_6 : decode cX0_forget 6 = .ok (.aload_n 0, 1) := by decide +kernel
theorem dX0_forget_7 : decode cX0_forget 7 = .ok (.getfield 19, 3) := by decide +kernel
theorem dX0_forget_10 : decode cX0_forget 10 = .ok (.iconst 0, 1) := by decide +kernel
theorem dX0_forget_11 : decode cX0_forget 11 = .ok (.putfield 150, 3) := by decide +kernel
theorem dX0_forget_14 : decode cX0_forget 14 = .ok (.aload_n 0, 1) := by decide +kernel
theorem dX0_forget_15 : decode cX0_forget 15 = .ok (.getfield 33, 3) := by decide +kernel
theorem dX0_forget_18 : decode cX0_forget 18 = .ok (.iconst 0, 1) := by decide +kernel
theorem dX0_forget_19 : decode cX0_forget 19 = .ok (.putfield 154, 3) := by decide +kernel
theorem dX0_forget_22 : decode cX0_forget 22 = .ok (.return_, 1) := by decide +kernel
theorem dX0_bestOrder_0 : decode cX0_bestOrder 0 = .ok (.aload_n 0, 1) := by decide +kernel
theorem dX0_bestOrder_1 : decode cX0_bestOrder 1 = .ok (.getfield 19, 3) := by decide +kernel
theorem dX0_bestOrder_4 : decode cX0_bestOrder 4 = .ok (.aload_n 0, 1) := by decide +kernel
theorem dX0_bestOrder_5 : decode cX0_bestOrder 5 = .ok (.getfield 10, 3) := by decide +kernel
theorem dX0_bestOrder_8 : decode cX0_bestOrder 8 = .ok (.invokevirtual 82, 3) := by decide +kernel
theorem dX0_bestOrder_11 : decode cX0_bestOrder 11 = .ok (.aload_n 0, 1) := by decide +kernel
theorem dX0_bestOrder_12 : decode cX0_bestOrder 12 = .ok (.getfield 33, 3) := by decide +kernel
theorem dX0_bestOrder_15 : decode cX0_bestOrder 15 = .ok (.aload_n 0, 1) := by decide +kernel
theorem dX0_bestOrder_16 : decode cX0_bestOrder 16 = .ok (.getfield 19, 3) := by decide +kernel
theorem dX0_bestOrder_19 : decode cX0_bestOrder 19 = .ok (.invokevirtual 157, 3) := by decide +kernel
theorem dX0_bestOrder_22 : decode cX0_bestOrder 22 = .ok (.aload_n 0, 1) := by decide +kernel
theorem dX0_bestOrder_23 : decode cX0_bestOrder 23 = .ok (.getfield 33, 3) := by decide +kernel
theorem dX0_bestOrder_26 : decode cX0_bestOrder 26 = .ok (.getfield 161, 3) := by decide +kernel
theorem dX0_bestOrder_29 : decode cX0_bestOrder 29 = .ok (.areturn, 1) := by decide +kernel
theorem dX0_isNumber_0 : decode cX0_isNumber 0 = .ok (.iload_n 0, 1) := by decide +kernel
theorem dX0_isNumber_1 : decode cX0_isNumber 1 = .ok (.ifCond .lt 13, 3) := by decide +kernel
theorem dX0_isNumber_4 : decode cX0_isNumber 4 = .ok (.iload_n 0, 1) := by decide +kernel
theorem dX0_isNumber_5 : decode cX0_isNumber 5 = .ok (.bipush 64, 2) := by decide +kernel
theorem dX0_isNumber_7 : decode cX0_isNumber 7 = .ok (.if_icmp .ge 7, 3) := by decide +kernel
theorem dX0_isNumber_10 : decode cX0_isNumber 10 = .ok (.iconst 1, 1) := by decide +kernel
theorem dX0_isNumber_11 : decode cX0_isNumber 11 = .ok (.goto 4, 3) := by decide +kernel
theorem dX0_isNumber_14 : decode cX0_isNumber 14 = .ok (.iconst 0, 1) := by decide +kernel
theorem dX0_isNumber_15 : decode cX0_isNumber 15 = .ok (.ireturn, 1) := by decide +kernel
theorem dX0_isVariable_0 : decode cX0_isVariable 0 = .ok (.iload_n 0, 1) := by decide +kernel
theorem dX0_isVariable_1 : decode cX0_isVariable 1 = .ok (.ifCond .ge 13, 3) := by decide +kernel
theorem dX0_isVariable_4 : decode cX0_isVariable 4 = .ok (.iload_n 0, 1) := by decide +kernel
theorem dX0_isVariable_5 : decode cX0_isVariable 5 = .ok (.bipush (-8), 2) := by decide +kernel
theorem dX0_isVariable_7 : decode cX0_isVariable 7 = .ok (.if_icmp .lt 7, 3) := by decide +kernel
theorem dX0_isVariable_10 : decode cX0_isVariable 10 = .ok (.iconst 1, 1) := by decide +kernel
theorem dX0_isVariable_11 : decode cX0_isVariable 11 = .ok (.goto 4, 3) := by decide +kernel
theorem dX0_isVariable_14 : decode cX0_isVariable 14 = .ok (.iconst 0, 1) := by decide +kernel
theorem dX0_isVariable_15 : decode cX0_isVariable 15 = .ok (.ireturn, 1) := by decide +kernel
theorem dX0_isItem_0 : decode cX0_isItem 0 = .ok (.iload_n 0, 1) := by decide +kernel
theorem dX0_isItem_1 : decode cX0_isItem 1 = .ok (.invokestatic 51, 3) := by decide +kernel
theorem dX0_isItem_4 : decode cX0_isItem 4 = .ok (.ifCond .ne 10, 3) := by decide +kernel
theorem dX0_isItem_7 : decode cX0_isItem 7 = .ok (.iload_n 0, 1) := by decide +kernel
theorem dX0_isItem_8 : decode cX0_isItem 8 = .ok (.invokestatic 130, 3) := by decide +kernel
theorem dX0_isItem_11 : decode cX0_isItem 11 = .ok (.ifCond .eq 7, 3) := by decide +kernel
theorem dX0_isItem_14 : decode cX0_isItem 14 = .ok (.iconst 1, 1) := by decide +kernel
theorem dX0_isItem_15 : decode cX0_isItem 15 = .ok (.goto 4, 3) := by decide +kernel
theorem dX0_isItem_18 : decode cX0_isItem 18 = .ok (.iconst 0, 1) := by decide +kernel
theorem dX0_isItem_19 : decode cX0_isItem 19 = .ok (.ireturn, 1) := by decide +kernel
theorem dX0_bitOf_0 : decode cX0_bitOf 0 = .ok (.iconst 1, 1) := by decide +kernel
theorem dX0_bitOf_1 : decode cX0_bitOf 1 = .ok (.iconst (-1), 1) := by decide +kernel
theorem dX0_bitOf_2 : decode cX0_bitOf 2 = .ok (.iload_n 0, 1) := by decide +kernel
theorem dX0_bitOf_3 : decode cX0_bitOf 3 = .ok (.isub, 1) := by decide +kernel
theorem dX0_bitOf_4 : decode cX0_bitOf 4 = .ok (.ishl, 1) := by decide +kernel
theorem dX0_bitOf_5 : decode cX0_bitOf 5 = .ok (.ireturn, 1) := by decide +kernel
theorem dX0_grown_0 : decode cX0_grown 0 = .ok (.lload_n 0, 1) := by decide +kernel
theorem dX0_grown_1 : decode cX0_grown 1 = .ok (.iload_n 2, 1) := by decide +kernel
theorem dX0_grown_2 : decode cX0_grown 2 = .ok (.i2l, 1) := by decide +kernel
theorem dX0_grown_3 : decode cX0_grown 3 = .ok (.lmul, 1) := by decide +kernel
theorem dX0_grown_4 : decode cX0_grown 4 = .ok (.ldc2_w 164, 3) := by decide +kernel
theorem dX0_grown_7 : decode cX0_grown 7 = .ok (.invokestatic 166, 3) := by decide +kernel
theorem dX0_grown_10 : decode cX0_grown 10 = .ok (.lreturn, 1) := by decide +kernel
theorem dX0_rowShift_0 : decode cX0_rowShift 0 = .ok (.bipush 6, 2) := by decide +kernel
theorem dX0_rowShift_2 : decode cX0_rowShift 2 = .ok (.bipush 8, 2) := by decide +kernel
theorem dX0_rowShift_4 : decode cX0_rowShift 4 = .ok (.iload_n 0, 1) := by decide +kernel
theorem dX0_rowShift_5 : decode cX0_rowShift 5 = .ok (.iadd, 1) := by decide +kernel
theorem dX0_rowShift_6 : decode cX0_rowShift 6 = .ok (.imul, 1) := by decide +kernel
theorem dX0_rowShift_7 : decode cX0_rowShift 7 = .ok (.ireturn, 1) := by decide +kernel
theorem dX0_numberIn_0 : decode cX0_numberIn 0 = .ok (.lload_n 0, 1) := by decide +kernel
theorem dX0_numberIn_1 : decode cX0_numberIn 1 = .ok (.iload_n 2, 1) := by decide +kernel
theorem dX0_numberIn_2 : decode cX0_numberIn 2 = .ok (.invokestatic 172, 3) := by decide +kernel
theorem dX0_numberIn_5 : decode cX0_numberIn 5 = .ok (.lshr, 1) := by decide +kernel
theorem dX0_numberIn_6 : decode cX0_numberIn 6 = .ok (.l2i, 1) := by decide +kernel
theorem dX0_numberIn_7 : decode cX0_numberIn 7 = .ok (.bipush 63, 2) := by decide +kernel
theorem dX0_numberIn_9 : decode cX0_numberIn 9 = .ok (.iand, 1) := by decide +kernel
theorem dX0_numberIn_10 : decode cX0_numberIn 10 = .ok (.ireturn, 1) := by decide +kernel
theorem dX0_codeShift_0 : decode cX0_codeShift 0 = .ok (.bipush 6, 2) := by decide +kernel
theorem dX0_codeShift_2 : decode cX0_codeShift 2 = .ok (.iconst 2, 1) := by decide +kernel
theorem dX0_codeShift_3 : decode cX0_codeShift 3 = .ok (.iload_n 1, 1) := by decide +kernel
theorem dX0_codeShift_4 : decode cX0_codeShift 4 = .ok (.iload_n 0, 1) := by decide +kernel
theorem dX0_codeShift_5 : decode cX0_codeShift 5 = .ok (.isub, 1) := by decide +kernel
theorem dX0_codeShift_6 : decode cX0_codeShift 6 = .ok (.iconst 3, 1) := by decide +kernel
theorem dX0_codeShift_7 : decode cX0_codeShift 7 = .ok (.invokestatic 175, 3) := by decide +kernel
theorem dX0_codeShift_10 : decode cX0_codeShift 10 = .ok (.isub, 1) := by decide +kernel
theorem dX0_codeShift_11 : decode cX0_codeShift 11 = .ok (.imul, 1) := by decide +kernel
theorem dX0_codeShift_12 : decode cX0_codeShift 12 = .ok (.ireturn, 1) := by decide +kernel
theorem dX0_codeOf_0 : decode cX0_codeOf 0 = .ok (.iload_n 1, 1) := by decide +kernel
theorem dX0_codeOf_1 : decode cX0_codeOf 1 = .ok (.iload_n 0, 1) := by decide +kernel
theorem dX0_codeOf_2 : decode cX0_codeOf 2 = .ok (.iconst 0, 1) := by decide +kernel
theorem dX0_codeOf_3 : decode cX0_codeOf 3 = .ok (.invokestatic 179, 3) := by decide +kernel
theorem dX0_codeOf_6 : decode cX0_codeOf 6 = .ok (.ishl, 1) := by decide +kernel
theorem dX0_codeOf_7 : decode cX0_codeOf 7 = .ok (.iload_n 2, 1) := by decide +kernel
theorem dX0_codeOf_8 : decode cX0_codeOf 8 = .ok (.iload_n 0, 1) := by decide +kernel
theorem dX0_codeOf_9 : decode cX0_codeOf 9 = .ok (.iconst 1, 1) := by decide +kernel
theorem dX0_codeOf_10 : decode cX0_codeOf 10 = .ok (.invokestatic 179, 3) := by decide +kernel
theorem dX0_codeOf_13 : decode cX0_codeOf 13 = .ok (.ishl, 1) := by decide +kernel
theorem dX0_codeOf_14 : decode cX0_codeOf 14 = .ok (.ior, 1) := by decide +kernel
theorem dX0_codeOf_15 : decode cX0_codeOf 15 = .ok (.iload_n 3, 1) := by decide +kernel
theorem dX0_codeOf_16 : decode cX0_codeOf 16 = .ok (.iload_n 0, 1) := by decide +kernel
theorem dX0_codeOf_17 : decode cX0_codeOf 17 = .ok (.iconst 2, 1) := by decide +kernel
theorem dX0_codeOf_18 : decode cX0_codeOf 18 = .ok (.invokestatic 179, 3) := by decide +kernel
theorem dX0_codeOf_21 : decode cX0_codeOf 21 = .ok (.ishl, 1) := by decide +kernel
theorem dX0_codeOf_22 : decode cX0_codeOf 22 = .ok (.ior, 1) := by decide +kernel
theorem dX0_codeOf_23 : decode cX0_codeOf 23 = .ok (.ireturn, 1) := by decide +kernel
theorem dX0_numberAt_0 : decode cX0_numberAt 0 = .ok (.iload_n 0, 1) := by decide +kernel
theorem dX0_numberAt_1 : decode cX0_numberAt 1 = .ok (.iload_n 1, 1) := by decide +kernel
theorem dX0_numberAt_2 : decode cX0_numberAt 2 = .ok (.ishr, 1) := by decide +kernel
theorem dX0_numberAt_3 : decode cX0_numberAt 3 = .ok (.bipush 63, 2) := by decide +kernel
theorem dX0_numberAt_5 : decode cX0_numberAt 5 = .ok (.iand, 1) := by decide +kernel
theorem dX0_numberAt_6 : decode cX0_numberAt 6 = .ok (.ireturn, 1) := by decide +kernel
theorem dX0_openBits_0 : decode cX0_openBits 0 = .ok (.bipush 6, 2) := by decide +kernel
theorem dX0_openBits_2 : decode cX0_openBits 2 = .ok (.iconst 3, 1) := by decide +kernel
theorem dX0_openBits_3 : decode cX0_openBits 3 = .ok (.iload_n 0, 1) := by decide +kernel
theorem dX0_openBits_4 : decode cX0_openBits 4 = .ok (.invokestatic 182, 3) := by decide +kernel
theorem dX0_openBits_7 : decode cX0_openBits 7 = .ok (.isub, 1) := by decide +kernel
theorem dX0_openBits_8 : decode cX0_openBits 8 = .ok (.imul, 1) := by decide +kernel
theorem dX0_openBits_9 : decode cX0_openBits 9 = .ok (.ireturn, 1) := by decide +kernel
theorem dX0_firstFrom_0 : decode cX0_firstFrom 0 = .ok (.iconst 0, 1) := by decide +kernel
theorem dX0_firstFrom_1 : decode cX0_firstFrom 1 = .ok (.istore_n 3, 1) := by decide +kernel
theorem dX0_firstFrom_2 : decode cX0_firstFrom 2 = .ok (.sipush 512, 3) := by decide +kernel
theorem dX0_firstFrom_5 : decode cX0_firstFrom 5 = .ok (.istore 4, 2) := by decide +kernel
theorem dX0_firstFrom_7 : decode cX0_firstFrom 7 = .ok (.iload 4, 2) := by decide +kernel
theorem dX0_firstFrom_9 : decode cX0_firstFrom 9 = .ok (.ifCond .le 37, 3) := by decide +kernel
theorem dX0_firstFrom_12 : decode cX0_firstFrom 12 = .ok (.iload_n 3, 1) := by decide +kernel
theorem dX0_firstFrom_13 : decode cX0_firstFrom 13 = .ok (.iload 4, 2) := by decide +kernel
theorem dX0_firstFrom_15 : decode cX0_firstFrom 15 = .ok (.iadd, 1) := by decide +kernel
theorem dX0_firstFrom_16 : decode cX0_firstFrom 16 = .ok (.iload_n 1, 1) := by decide +kernel
theorem dX0_firstFrom_17 : decode cX0_firstFrom 17 = .ok (.if_icmp .gt 20, 3) := by decide +kernel
theorem dX0_firstFrom_20 : decode cX0_firstFrom 20 = .ok (.aload_n 0, 1) := by decide +kernel
theorem dX0_firstFrom_21 : decode cX0_firstFrom 21 = .ok (.iload_n 3, 1) := by decide +kernel
theorem dX0_firstFrom_22 : decode cX0_firstFrom 22 = .ok (.iload 4, 2) := by decide +kernel
theorem dX0_firstFrom_24 : decode cX0_firstFrom 24 = .ok (.iadd, 1) := by decide +kernel
theorem dX0_firstFrom_25 : decode cX0_firstFrom 25 = .ok (.iconst 1, 1) := by decide +kernel
theorem dX0_firstFrom_26 : decode cX0_firstFrom 26 = .ok (.isub, 1) := by decide +kernel
theorem dX0_firstFrom_27 : decode cX0_firstFrom 27 = .ok (.iaload, 1) := by decide +kernel
theorem dX0_firstFrom_28 : decode cX0_firstFrom 28 = .ok (.iload_n 2, 1) := by decide +kernel
theorem dX0_firstFrom_29 : decode cX0_firstFrom 29 = .ok (.if_icmp .ge 8, 3) := by decide +kernel
theorem dX0_firstFrom_32 : decode cX0_firstFrom 32 = .ok (.iload_n 3, 1) := by decide +kernel
theorem dX0_firstFrom_33 : decode cX0_firstFrom 33 = .ok (.iload 4, 2) := by decide +kernel
theorem dX0_firstFrom_35 : decode cX0_firstFrom 35 = .ok (.iadd, 1) := by decide +kernel
theorem dX0_firstFrom_36 : decode cX0_firstFrom 36 = .ok (.istore_n 3, 1) := by decide +kernel
theorem dX0_firstFrom_37 : decode cX0_firstFrom 37 = .ok (.iload 4, 2) := by decide +kernel
theorem dX0_firstFrom_39 : decode cX0_firstFrom 39 = .ok (.iconst 2, 1) := by decide +kernel
theorem dX0_firstFrom_40 : decode cX0_firstFrom 40 = .ok (.idiv, 1) := by decide +kernel
theorem dX0_firstFrom_41 : decode cX0_firstFrom 41 = .ok (.istore 4, 2) := by decide +kernel
theorem dX0_firstFrom_43 : decode cX0_firstFrom 43 = .ok (.goto (-36), 3) := by decide +kernel
theorem dX0_firstFrom_46 : decode cX0_firstFrom 46 = .ok (.iload_n 3, 1) := by decide +kernel
theorem dX0_firstFrom_47 : decode cX0_firstFrom 47 = .ok (.ireturn, 1) := by decide +kernel
theorem dX9_init_0 : decode cX9_init 0 = .ok (.aload_n 0, 1) := by decide +kernel
theorem dX9_init_1 : decode cX9_init 1 = .ok (.invokespecial 1, 3) := by decide +kernel
theorem dX9_init_4 : decode cX9_init 4 = .ok (.aload_n 0, 1) := by decide +kernel
theorem dX9_init_5 : decode cX9_init 5 = .ok (.sipush 1920, 3) := by decide +kernel
theorem dX9_init_8 : decode cX9_init 8 = .ok (.newarray .int, 2) := by decide +kernel
theorem dX9_init_10 : decode cX9_init 10 = .ok (.putfield 7, 3) := by decide +kernel
