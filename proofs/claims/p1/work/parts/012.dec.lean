theorem dX0_use_4 : decode cX0_use 4 = .ok (.iload_n 1, 1) := by decide +kernel
theorem dX0_use_5 : decode cX0_use 5 = .ok (.invokevirtual 80, 3) := by decide +kernel
theorem dX0_use_8 : decode cX0_use 8 = .ok (.ifCond .eq 14, 3) := by decide +kernel
theorem dX0_use_22 : decode cX0_use 22 = .ok (.iconst (-1), 1) := by decide +kernel
theorem dX0_use_23 : decode cX0_use 23 = .ok (.ireturn, 1) := by decide +kernel
theorem dX0_drop_0 : decode cX0_drop 0 = .ok (.aload_n 0, 1) := by decide +kernel
theorem dX0_drop_1 : decode cX0_drop 1 = .ok (.getfield 26, 3) := by decide +kernel
theorem dX0_drop_4 : decode cX0_drop 4 = .ok (.getfield 110, 3) := by decide +kernel
theorem dX0_drop_7 : decode cX0_drop 7 = .ok (.istore_n 1, 1) := by decide +kernel
theorem dX0_drop_8 : decode cX0_drop 8 = .ok (.aload_n 0, 1) := by decide +kernel
theorem dX0_drop_9 : decode cX0_drop 9 = .ok (.getfield 26, 3) := by decide +kernel
theorem dX0_drop_12 : decode cX0_drop 12 = .ok (.invokevirtual 76, 3) := by decide +kernel
theorem dX0_drop_15 : decode cX0_drop 15 = .ok (.iload_n 1, 1) := by decide +kernel
theorem dX0_drop_16 : decode cX0_drop 16 = .ok (.ireturn, 1) := by decide +kernel
theorem dX0_size_0 : decode cX0_size 0 = .ok (.iload_n 1, 1) := by decide +kernel
theorem dX0_size_1 : decode cX0_size 1 = .ok (.iconst 1, 1) := by decide +kernel
theorem dX0_size_2 : decode cX0_size 2 = .ok (.if_icmp .lt 14, 3) := by decide +kernel
theorem dX0_size_5 : decode cX0_size 5 = .ok (.iload_n 1, 1) := by decide +kernel
theorem dX0_size_6 : decode cX0_size 6 = .ok (.aload_n 0, 1) := by decide +kernel
theorem dX0_size_7 : decode cX0_size 7 = .ok (.getfield 26, 3) := by decide +kernel
theorem dX0_size_10 : decode cX0_size 10 = .ok (.getfield 110, 3) := by decide +kernel
theorem dX0_size_13 : decode cX0_size 13 = .ok (.if_icmp .le 7, 3) := by decide +kernel
theorem dX0_size_16 : decode cX0_size 16 = .ok (.ldc2_w 113, 3) := by decide +kernel
theorem dX0_size_19 : decode cX0_size 19 = .ok (.lreturn, 1) := by decide +kernel
theorem dX0_rows_0 : decode cX0_rows 0 = .ok (.aload_n 0, 1) := by decide +kernel
theorem dX0_rows_1 : decode cX0_rows 1 = .ok (.getfield 40, 3) := by decide +kernel
theorem dX0_rows_4 : decode cX0_rows 4 = .ok (.aload_n 0, 1) := by decide +kernel
theorem dX0_rows_5 : decode cX0_rows 5 = .ok (.getfield 26, 3) := by decide +kernel
theorem dX0_rows_8 : decode cX0_rows 8 = .ok (.aload_n 0, 1) := by decide +kernel
theorem dX0_rows_9 : decode cX0_rows 9 = .ok (.getfield 19, 3) := by decide +kernel
theorem dX0_rows_12 : decode cX0_rows 12 = .ok (.aload_n 0, 1) := by decide +kernel
theorem dX0_rows_13 : decode cX0_rows 13 = .ok (.getfield 10, 3) := by decide +kernel
theorem dX0_rows_16 : decode cX0_rows 16 = .ok (.invokevirtual 123, 3) := by decide +kernel
theorem dX0_rows_19 : decode cX0_rows 19 = .ok (.ireturn, 1) := by decide +kernel
theorem dX0_solutions_0 : decode cX0_solutions 0 = .ok (.aload_n 0, 1) := by decide +kernel
theorem dX0_solutions_1 : decode cX0_solutions 1 = .ok (.getfield 44, 3) := by decide +kernel
theorem dX0_solutions_4 : decode cX0_solutions 4 = .ok (.bipush (-4), 2) := by decide +kernel
theorem dX0_solutions_6 : decode cX0_solutions 6 = .ok (.if_icmp .ne 26, 3) := by decide +kernel
theorem dX0_solutions_9 : decode cX0_solutions 9 = .ok (.aload_n 0, 1) := by decide +kernel
theorem dX0_solutions_10 : decode cX0_solutions 10 = .ok (.aload_n 0, 1) := by decide +kernel
theorem dX0_solutions_11 : decode cX0_solutions 11 = .ok (.getfield 40, 3) := by decide +kernel
theorem dX0_solutions_14 : decode cX0_solutions 14 = .ok (.aload_n 0, 1) := by decide +kernel
theorem dX0_solutions_15 : decode cX0_solutions 15 = .ok (.invokevirtual 96, 3) := by decide +kernel
theorem dX0_solutions_18 : decode cX0_solutions 18 = .ok (.aload_n 0, 1) := by decide +kernel
theorem dX0_solutions_19 : decode cX0_solutions 19 = .ok (.getfield 19, 3) := by decide +kernel
theorem dX0_solutions_22 : decode cX0_solutions 22 = .ok (.aload_n 0, 1) := by decide +kernel
theorem dX0_solutions_23 : decode cX0_solutions 23 = .ok (.getfield 10, 3) := by decide +kernel
theorem dX0_solutions_26 : decode cX0_solutions 26 = .ok (.invokevirtual 127, 3) := by decide +kernel
theorem dX0_solutions_29 : decode cX0_solutions 29 = .ok (.putfield 44, 3) := by decide +kernel
theorem dX0_solutions_32 : decode cX0_solutions 32 = .ok (.aload_n 0, 1) := by decide +kernel
theorem dX0_solutions_33 : decode cX0_solutions 33 = .ok (.getfield 44, 3) := by decide +kernel
theorem dX0_solutions_36 : decode cX0_solutions 36 = .ok (.ireturn, 1) := by decide +kernel
theorem dX0_value_0 : decode cX0_value 0 = .ok (.iload_n 1, 1) := by decide +kernel
theorem dX0_value_1 : decode cX0_value 1 = .ok (.ifCond .lt 18, 3) := by decide +kernel
theorem dX0_value_4 : decode cX0_value 4 = .ok (.iload_n 1, 1) := by decide +kernel
theorem dX0_value_5 : decode cX0_value 5 = .ok (.aload_n 0, 1) := by decide +kernel
theorem dX0_value_6 : decode cX0_value 6 = .ok (.getfield 44, 3) := by decide +kernel
theorem dX0_value_9 : decode cX0_value 9 = .ok (.if_icmp .ge 10, 3) := by decide +kernel
theorem dX0_value_19 : decode cX0_value 19 = .ok (.iconst (-1), 1) := by decide +kernel
theorem dX0_value_20 : decode cX0_value 20 = .ok (.ireturn, 1) := by decide +kernel
theorem dX0_forget_0 : decode cX0_forget 0 = .ok (.aload_n 0, 1) := by decide +kernel
theorem dX0_forget_1 : decode cX0_forget 1 = .ok (.bipush (-4), 2) := by decide +kernel
theorem dX0_forget_3 : decode cX0_forget 3 = .ok (.putfield 44, 3) := by decide +kernel
theorem dX0_forget_6 : decode cX0_forget 6 = .ok (.aload_n 0, 1) := by decide +kernel
theorem dX0_forget_7 : decode cX0_forget 7 = .ok (.getfield 19, 3) := by decide +kernel
theorem dX0_forget_10 : decode cX0_forget 10 = .ok (.iconst 0, 1) := by decide +kernel
theorem dX0_forget_11 : decode cX0_forget 11 = .ok (.putfield 150, 3) := by decide +kernel
theorem dX0_forget_14 : decode cX0_forget 14 = .ok (.aload_n 0, 1) := by decide +kernel
theorem dX0_forget_15 : decode cX0_forget 15 = .ok (.getfield 33, 3) := by decide +kernel
theorem dX0_forget_18 : decode cX0_forget 18 = .ok (.iconst 0, 1) := by decide +kernel
theorem dX0_forget_19 : decode cX0_forget 19 = .ok (.putfield 154, 3) := by decide +kernel
theorem dX0_forget_22 : decode cX0_forget 22 = .ok (.return_, 1) := by decide +kernel
theorem dX0_bestOrder_0 : decode cX0_bestOrder 0 = .ok (.aload_n 0, 1) := by decide +kernel
theorem dX0_bestOrder_1 : decode cX0_bestOrder 1 = .ok (.getfield 19, 3) := by decide +kernel
theorem dX0_bestOrder_4 : decode cX0_bestOrder 4 = .ok (.aload_n 0, 1) := by decide +kernel
theorem dX0_bestOrder_5 : decode cX0_bestOrder 5 = .ok (.getfield 10, 3) := by decide +kernel
theorem dX0_bestOrder_8 : decode cX0_bestOrder 8 = .ok (.invokevirtual 82, 3) := by decide +kernel
theorem dX0_bestOrder_11 : decode cX0_bestOrder 11 = .ok (.aload_n 0, 1) := by decide +kernel
theorem dX0_bestOrder_12 : decode cX0_bestOrder 12 = .ok (.getfield 33, 3) := by decide +kernel
theorem dX0_bestOrder_15 : decode cX0_bestOrder 15 = .ok (.aload_n 0, 1) := by decide +kernel
theorem dX0_bestOrder_16 : decode cX0_bestOrder 16 = .ok (.getfield 19, 3) := by decide +kernel
theorem dX0_bestOrder_19 : decode cX0_bestOrder 19 = .ok (.invokevirtual 157, 3) := by decide +kernel
theorem dX0_bestOrder_22 : decode cX0_bestOrder 22 = .ok (.aload_n 0, 1) := by decide +kernel
theorem dX0_bestOrder_23 : decode cX0_bestOrder 23 = .ok (.getfield 33, 3) := by decide +kernel
theorem dX0_bestOrder_26 : decode cX0_bestOrder 26 = .ok (.getfield 161, 3) := by decide +kernel
theorem dX0_bestOrder_29 : decode cX0_bestOrder 29 = .ok (.areturn, 1) := by decide +kernel
theorem dX0_isNumber_0 : decode cX0_isNumber 0 = .ok (.iload_n 0, 1) := by decide +kernel
theorem dX0_isNumber_1 : decode cX0_isNumber 1 = .ok (.ifCond .lt 13, 3) := by decide +kernel
theorem dX0_isNumber_4 : decode cX0_isNumber 4 = .ok (.iload_n 0, 1) := by decide +kernel
theorem dX0_isNumber_5 : decode cX0_isNumber 5 = .ok (.bipush 64, 2) := by decide +kernel
theorem dX0_isNumber_7 : decode cX0_isNumber 7 = .ok (.if_icmp .ge 7, 3) := by decide +kernel
theorem dX0_isNumber_10 : decode cX0_isNumber 10 = .ok (.iconst 1, 1) := by decide +kernel
theorem dX0_isNumber_11 : decode cX0_isNumber 11 = .ok (.goto 4, 3) := by decide +kernel
theorem dX0_isNumber_14 : decode cX0_isNumber 14 = .ok (.iconst 0, 1) := by decide +kernel
theorem dX0_isNumber_15 : decode cX0_isNumber 15 = .ok (.ireturn, 1) := by decide +kernel
theorem dX0_isVariable_0 : decode cX0_isVariable 0 = .ok (.iload_n 0, 1) := by decide +kernel
theorem dX0_isVariable_1 : decode cX0_isVariable 1 = .ok (.ifCond .ge 13, 3) := by decide +kernel
theorem dX0_isVariable_4 : decode cX0_isVariable 4 = .ok (.iload_n 0, 1) := by decide +kernel
theorem dX0_isVariable_5 : decode cX0_isVariable 5 = .ok (.bipush (-8), 2) := by decide +kernel
theorem dX0_isVariable_7 : decode cX0_isVariable 7 = .ok (.if_icmp .lt 7, 3) := by decide +kernel
theorem dX0_isVariable_10 : decode cX0_isVariable 10 = .ok (.iconst 1, 1) := by decide +kernel
theorem dX0_isVariable_11 : decode cX0_isVariable 11 = .ok (.goto 4, 3) := by decide +kernel
theorem dX0_isVariable_14 : decode cX0_isVariable 14 = .ok (.iconst 0, 1) := by decide +kernel
theorem dX0_isVariable_15 : decode cX0_isVariable 15 = .ok (.ireturn, 1) := by decide +kernel
theorem dX0_isItem_0 : decode cX0_isItem 0 = .ok (.iload_n 0, 1) := by decide +kernel
theorem dX0_isItem_1 : decode cX0_isItem 1 = .ok (.invokestatic 51, 3) := by decide +kernel
theorem dX0_isItem_4 : decode cX0_isItem 4 = .ok (.ifCond .ne 10, 3) := by decide +kernel
theorem dX0_isItem_7 : decode cX0_isItem 7 = .ok (.iload_n 0, 1) := by decide +kernel
theorem dX0_isItem_8 : decode cX0_isItem 8 = .ok (.invokestatic 130, 3) := by decide +kernel
theorem dX0_isItem_11 : decode cX0_isItem 11 = .ok (.ifCond .eq 7, 3) := by decide +kernel
theorem dX0_isItem_14 : decode cX0_isItem 14 = .ok (.iconst 1, 1) := by decide +kernel
theorem dX0_isItem_15 : decode cX0_isItem 15 = .ok (.goto 4, 3) := by decide +kernel
theorem dX0_isItem_18 : decode cX0_isItem 18 = .ok (.iconst 0, 1) := by decide +kernel
theorem dX0_isItem_19 : decode cX0_isItem 19 = .ok (.ireturn, 1) := by decide +kernel
theorem dX0_codeShift_0 : decode cX0_codeShift 0 = .ok (.bipush 6, 2) := by decide +kernel
theorem dX0_codeShift_2 : decode cX0_codeShift 2 = .ok (.iconst 2, 1) := by decide +kernel
theorem dX0_codeShift_3 : decode cX0_codeShift 3 = .ok (.iload_n 1, 1) := by decide +kernel
theorem dX0_codeShift_4 : decode cX0_codeShift 4 = .ok (.iload_n 0, 1) := by decide +kernel
theorem dX0_codeShift_5 : decode cX0_codeShift 5 = .ok (.isub, 1) := by decide +kernel
theorem dX0_codeShift_6 : decode cX0_codeShift 6 = .ok (.iconst 3, 1) := by decide +kernel
theorem dX0_codeShift_7 : decode cX0_codeShift 7 = .ok (.invokestatic 175, 3) := by decide +kernel
theorem dX0_codeShift_10 : decode cX0_codeShift 10 = .ok (.isub, 1) := by decide +kernel
theorem dX0_codeShift_11 : decode cX0_codeShift 11 = .ok (.imul, 1) := by decide +kernel
theorem dX0_codeShift_12 : decode cX0_codeShift 12 = .ok (.ireturn, 1) := by decide +kernel
theorem dX0_codeOf_0 : decode cX0_codeOf 0 = .ok (.iload_n 1, 1) := by decide +kernel
theorem dX0_codeOf_1 : decode cX0_codeOf 1 = .ok (.iload_n 0, 1) := by decide +kernel
theorem dX0_codeOf_2 : decode cX0_codeOf 2 = .ok (.iconst 0, 1) := by decide +kernel
theorem dX0_codeOf_3 : decode cX0_codeOf 3 = .ok (.invokestatic 179, 3) := by decide +kernel
theorem dX0_codeOf_6 : decode cX0_codeOf 6 = .ok (.ishl, 1) := by decide +kernel
theorem dX0_codeOf_7 : decode cX0_codeOf 7 = .ok (.iload_n 2, 1) := by decide +kernel
theorem dX0_codeOf_8 : decode cX0_codeOf 8 = .ok (.iload_n 0, 1) := by decide +kernel
theorem dX0_codeOf_9 : decode cX0_codeOf 9 = .ok (.iconst 1, 1) := by decide +kernel
theorem dX0_codeOf_10 : decode cX0_codeOf 10 = .ok (.invokestatic 179, 3) := by decide +kernel
theorem dX0_codeOf_13 : decode cX0_codeOf 13 = .ok (.ishl, 1) := by decide +kernel
theorem dX0_codeOf_14 : decode cX0_codeOf 14 = .ok (.ior, 1) := by decide +kernel
theorem dX0_codeOf_15 : decode cX0_codeOf 15 = .ok (.iload_n 3, 1) := by decide +kernel
theorem dX0_codeOf_16 : decode cX0_codeOf 16 = .ok (.iload_n 0, 1) := by decide +kernel
theorem dX0_codeOf_17 : decode cX0_codeOf 17 = .ok (.iconst 2, 1) := by decide +kernel
theorem dX0_codeOf_18 : decode cX0_codeOf 18 = .ok (.invokestatic 179, 3) := by decide +kernel
theorem dX0_codeOf_21 : decode cX0_codeOf 21 = .ok (.ishl, 1) := by decide +kernel
theorem dX0_codeOf_22 : decode cX0_codeOf 22 = .ok (.ior, 1) := by decide +kernel
theorem dX0_codeOf_23 : decode cX0_codeOf 23 = .ok (.ireturn, 1) := by decide +kernel
theorem dX0_firstFrom_0 : decode cX0_firstFrom 0 = .ok (.iconst 0, 1) := by decide +kernel
theorem dX0_firstFrom_1 : decode cX0_firstFrom 1 = .ok (.istore_n 3, 1) := by decide +kernel
theorem dX0_firstFrom_2 : decode cX0_firstFrom 2 = .ok (.sipush 512, 3) := by decide +kernel
theorem dX0_firstFrom_5 : decode cX0_firstFrom 5 = .ok (.istore 4, 2) := by decide +kernel
theorem dX0_firstFrom_7 : decode cX0_firstFrom 7 = .ok (.iload 4, 2) := by decide +kernel
theorem dX0_firstFrom_9 : decode cX0_firstFrom 9 = .ok (.ifCond .le 37, 3) := by decide +kernel
theorem dX0_firstFrom_12 : decode cX0_firstFrom 12 = .ok (.iload_n 3, 1) := by decide +kernel
theorem dX0_firstFrom_13 : decode cX0_firstFrom 13 = .ok (.iload 4, 2) := by decide +kernel
theorem dX0_firstFrom_15 : decode cX0_firstFrom 15 = .ok (.iadd, 1) := by decide +kernel
theorem dX0_firstFrom_16 : decode cX0_firstFrom 16 = .ok (.iload_n 1, 1) := by decide +kernel
theorem dX0_firstFrom_17 : decode cX0_firstFrom 17 = .ok (.if_icmp .gt 20, 3) := by decide +kernel
theorem dX0_firstFrom_20 : decode cX0_firstFrom 20 = .ok (.aload_n 0, 1) := by decide +kernel
theorem dX0_firstFrom_21 : decode cX0_firstFrom 21 = .ok (.iload_n 3, 1) := by decide +kernel
theorem dX0_firstFrom_22 : decode cX0_firstFrom 22 = .ok (.iload 4, 2) := by decide +kernel
theorem dX0_firstFrom_24 : decode cX0_firstFrom 24 = .ok (.iadd, 1) := by decide +kernel
theorem dX0_firstFrom_25 : decode cX0_firstFrom 25 = .ok (.iconst 1, 1) := by decide +kernel
theorem dX0_firstFrom_26 : decode cX0_firstFrom 26 = .ok (.isub, 1) := by decide +kernel
theorem dX0_firstFrom_27 : decode cX0_firstFrom 27 = .ok (.iaload, 1) := by decide +kernel
