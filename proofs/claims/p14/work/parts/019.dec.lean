theorem dX9_use_14 : decode cX9_use 14 = .ok (.getfield 68, 3) := by decide +kernel
theorem dX9_use_17 : decode cX9_use 17 = .ok (.if_icmp .ge 21, 3) := by decide +kernel
theorem dX9_use_20 : decode cX9_use 20 = .ok (.aload_n 0, 1) := by decide +kernel
theorem dX9_use_21 : decode cX9_use 21 = .ok (.getfield 16, 3) := by decide +kernel
theorem dX9_use_24 : decode cX9_use 24 = .ok (.iload_n 2, 1) := by decide +kernel
theorem dX9_use_25 : decode cX9_use 25 = .ok (.iaload, 1) := by decide +kernel
theorem dX9_use_26 : decode cX9_use 26 = .ok (.iload_n 1, 1) := by decide +kernel
theorem dX9_use_27 : decode cX9_use 27 = .ok (.if_icmp .ne 5, 3) := by decide +kernel
theorem dX9_use_30 : decode cX9_use 30 = .ok (.iconst (-1), 1) := by decide +kernel
theorem dX9_use_31 : decode cX9_use 31 = .ok (.ireturn, 1) := by decide +kernel
theorem dX9_use_32 : decode cX9_use 32 = .ok (.iinc 2 1, 3) := by decide +kernel
theorem dX9_use_35 : decode cX9_use 35 = .ok (.goto (-23), 3) := by decide +kernel
theorem dX9_use_38 : decode cX9_use 38 = .ok (.aload_n 0, 1) := by decide +kernel
theorem dX9_use_39 : decode cX9_use 39 = .ok (.getfield 16, 3) := by decide +kernel
theorem dX9_use_42 : decode cX9_use 42 = .ok (.aload_n 0, 1) := by decide +kernel
theorem dX9_use_43 : decode cX9_use 43 = .ok (.getfield 68, 3) := by decide +kernel
theorem dX9_use_46 : decode cX9_use 46 = .ok (.iload_n 1, 1) := by decide +kernel
theorem dX9_use_47 : decode cX9_use 47 = .ok (.iastore, 1) := by decide +kernel
theorem dX9_use_48 : decode cX9_use 48 = .ok (.aload_n 0, 1) := by decide +kernel
theorem dX9_use_49 : decode cX9_use 49 = .ok (.dup, 1) := by decide +kernel
theorem dX9_use_50 : decode cX9_use 50 = .ok (.getfield 68, 3) := by decide +kernel
theorem dX9_use_53 : decode cX9_use 53 = .ok (.iconst 1, 1) := by decide +kernel
theorem dX9_use_54 : decode cX9_use 54 = .ok (.iadd, 1) := by decide +kernel
theorem dX9_use_55 : decode cX9_use 55 = .ok (.putfield 68, 3) := by decide +kernel
theorem dX9_use_58 : decode cX9_use 58 = .ok (.aload_n 0, 1) := by decide +kernel
theorem dX9_use_59 : decode cX9_use 59 = .ok (.getfield 68, 3) := by decide +kernel
theorem dX9_use_62 : decode cX9_use 62 = .ok (.ireturn, 1) := by decide +kernel
theorem dX9_drop_0 : decode cX9_drop 0 = .ok (.aload_n 0, 1) := by decide +kernel
theorem dX9_drop_1 : decode cX9_drop 1 = .ok (.getfield 68, 3) := by decide +kernel
theorem dX9_drop_4 : decode cX9_drop 4 = .ok (.istore_n 1, 1) := by decide +kernel
theorem dX9_drop_5 : decode cX9_drop 5 = .ok (.aload_n 0, 1) := by decide +kernel
theorem dX9_drop_6 : decode cX9_drop 6 = .ok (.iconst 0, 1) := by decide +kernel
theorem dX9_drop_7 : decode cX9_drop 7 = .ok (.putfield 68, 3) := by decide +kernel
theorem dX9_drop_10 : decode cX9_drop 10 = .ok (.iload_n 1, 1) := by decide +kernel
theorem dX9_drop_11 : decode cX9_drop 11 = .ok (.ireturn, 1) := by decide +kernel
theorem dX9_size_0 : decode cX9_size 0 = .ok (.iload_n 1, 1) := by decide +kernel
theorem dX9_size_1 : decode cX9_size 1 = .ok (.iconst 1, 1) := by decide +kernel
theorem dX9_size_2 : decode cX9_size 2 = .ok (.if_icmp .lt 11, 3) := by decide +kernel
theorem dX9_size_5 : decode cX9_size 5 = .ok (.iload_n 1, 1) := by decide +kernel
theorem dX9_size_6 : decode cX9_size 6 = .ok (.aload_n 0, 1) := by decide +kernel
theorem dX9_size_7 : decode cX9_size 7 = .ok (.getfield 68, 3) := by decide +kernel
theorem dX9_size_10 : decode cX9_size 10 = .ok (.if_icmp .le 7, 3) := by decide +kernel
theorem dX9_size_13 : decode cX9_size 13 = .ok (.ldc2_w 105, 3) := by decide +kernel
theorem dX9_size_16 : decode cX9_size 16 = .ok (.lreturn, 1) := by decide +kernel
theorem dX9_size_17 : decode cX9_size 17 = .ok (.lconst 1, 1) := by decide +kernel
theorem dX9_size_18 : decode cX9_size 18 = .ok (.lstore_n 2, 1) := by decide +kernel
theorem dX9_size_19 : decode cX9_size 19 = .ok (.iconst 0, 1) := by decide +kernel
theorem dX9_size_20 : decode cX9_size 20 = .ok (.istore 4, 2) := by decide +kernel
theorem dX9_size_22 : decode cX9_size 22 = .ok (.iconst 0, 1) := by decide +kernel
theorem dX9_size_23 : decode cX9_size 23 = .ok (.istore 5, 2) := by decide +kernel
theorem dX9_size_25 : decode cX9_size 25 = .ok (.iload 5, 2) := by decide +kernel
theorem dX9_size_27 : decode cX9_size 27 = .ok (.iload_n 1, 1) := by decide +kernel
theorem dX9_size_28 : decode cX9_size 28 = .ok (.if_icmp .ge 44, 3) := by decide +kernel
theorem dX9_size_31 : decode cX9_size 31 = .ok (.lload_n 2, 1) := by decide +kernel
theorem dX9_size_32 : decode cX9_size 32 = .ok (.aload_n 0, 1) := by decide +kernel
theorem dX9_size_33 : decode cX9_size 33 = .ok (.aload_n 0, 1) := by decide +kernel
theorem dX9_size_34 : decode cX9_size 34 = .ok (.getfield 16, 3) := by decide +kernel
theorem dX9_size_37 : decode cX9_size 37 = .ok (.iload 5, 2) := by decide +kernel
theorem dX9_size_39 : decode cX9_size 39 = .ok (.iaload, 1) := by decide +kernel
theorem dX9_size_40 : decode cX9_size 40 = .ok (.iload 4, 2) := by decide +kernel
theorem dX9_size_42 : decode cX9_size 42 = .ok (.invokevirtual 91, 3) := by decide +kernel
theorem dX9_size_45 : decode cX9_size 45 = .ok (.i2l, 1) := by decide +kernel
theorem dX9_size_46 : decode cX9_size 46 = .ok (.invokestatic 97, 3) := by decide +kernel
theorem dX9_size_49 : decode cX9_size 49 = .ok (.lstore_n 2, 1) := by decide +kernel
theorem dX9_size_50 : decode cX9_size 50 = .ok (.iload 4, 2) := by decide +kernel
theorem dX9_size_52 : decode cX9_size 52 = .ok (.aload_n 0, 1) := by decide +kernel
theorem dX9_size_53 : decode cX9_size 53 = .ok (.aload_n 0, 1) := by decide +kernel
theorem dX9_size_54 : decode cX9_size 54 = .ok (.getfield 16, 3) := by decide +kernel
theorem dX9_size_57 : decode cX9_size 57 = .ok (.iload 5, 2) := by decide +kernel
theorem dX9_size_59 : decode cX9_size 59 = .ok (.iaload, 1) := by decide +kernel
theorem dX9_size_60 : decode cX9_size 60 = .ok (.invokevirtual 88, 3) := by decide +kernel
theorem dX9_size_63 : decode cX9_size 63 = .ok (.ior, 1) := by decide +kernel
theorem dX9_size_64 : decode cX9_size 64 = .ok (.istore 4, 2) := by decide +kernel
theorem dX9_size_66 : decode cX9_size 66 = .ok (.iinc 5 1, 3) := by decide +kernel
theorem dX9_size_69 : decode cX9_size 69 = .ok (.goto (-44), 3) := by decide +kernel
theorem dX9_size_72 : decode cX9_size 72 = .ok (.lload_n 2, 1) := by decide +kernel
theorem dX9_size_73 : decode cX9_size 73 = .ok (.lreturn, 1) := by decide +kernel
theorem dX9_loosen_0 : decode cX9_loosen 0 = .ok (.iconst 0, 1) := by decide +kernel
theorem dX9_loosen_1 : decode cX9_loosen 1 = .ok (.istore_n 3, 1) := by decide +kernel
theorem dX9_loosen_2 : decode cX9_loosen 2 = .ok (.iload_n 3, 1) := by decide +kernel
theorem dX9_loosen_3 : decode cX9_loosen 3 = .ok (.iload_n 2, 1) := by decide +kernel
theorem dX9_loosen_4 : decode cX9_loosen 4 = .ok (.if_icmp .ge 42, 3) := by decide +kernel
theorem dX9_loosen_7 : decode cX9_loosen 7 = .ok (.aload_n 0, 1) := by decide +kernel
theorem dX9_loosen_8 : decode cX9_loosen 8 = .ok (.getfield 13, 3) := by decide +kernel
theorem dX9_loosen_11 : decode cX9_loosen 11 = .ok (.iconst 3, 1) := by decide +kernel
theorem dX9_loosen_12 : decode cX9_loosen 12 = .ok (.iload_n 1, 1) := by decide +kernel
theorem dX9_loosen_13 : decode cX9_loosen 13 = .ok (.imul, 1) := by decide +kernel
theorem dX9_loosen_14 : decode cX9_loosen 14 = .ok (.iload_n 3, 1) := by decide +kernel
theorem dX9_loosen_15 : decode cX9_loosen 15 = .ok (.iadd, 1) := by decide +kernel
theorem dX9_loosen_16 : decode cX9_loosen 16 = .ok (.iaload, 1) := by decide +kernel
theorem dX9_loosen_17 : decode cX9_loosen 17 = .ok (.ifCond .ge 23, 3) := by decide +kernel
theorem dX9_loosen_20 : decode cX9_loosen 20 = .ok (.aload_n 0, 1) := by decide +kernel
theorem dX9_loosen_21 : decode cX9_loosen 21 = .ok (.getfield 31, 3) := by decide +kernel
theorem dX9_loosen_24 : decode cX9_loosen 24 = .ok (.aload_n 0, 1) := by decide +kernel
theorem dX9_loosen_25 : decode cX9_loosen 25 = .ok (.getfield 13, 3) := by decide +kernel
theorem dX9_loosen_28 : decode cX9_loosen 28 = .ok (.iconst 3, 1) := by decide +kernel
theorem dX9_loosen_29 : decode cX9_loosen 29 = .ok (.iload_n 1, 1) := by decide +kernel
theorem dX9_loosen_30 : decode cX9_loosen 30 = .ok (.imul, 1) := by decide +kernel
theorem dX9_loosen_31 : decode cX9_loosen 31 = .ok (.iload_n 3, 1) := by decide +kernel
theorem dX9_loosen_32 : decode cX9_loosen 32 = .ok (.iadd, 1) := by decide +kernel
theorem dX9_loosen_33 : decode cX9_loosen 33 = .ok (.iaload, 1) := by decide +kernel
theorem dX9_loosen_34 : decode cX9_loosen 34 = .ok (.ineg, 1) := by decide +kernel
theorem dX9_loosen_35 : decode cX9_loosen 35 = .ok (.dup2, 1) := by decide +kernel
theorem dX9_loosen_36 : decode cX9_loosen 36 = .ok (.iaload, 1) := by decide +kernel
theorem dX9_loosen_37 : decode cX9_loosen 37 = .ok (.iconst 1, 1) := by decide +kernel
theorem dX9_loosen_38 : decode cX9_loosen 38 = .ok (.isub, 1) := by decide +kernel
theorem dX9_loosen_39 : decode cX9_loosen 39 = .ok (.iastore, 1) := by decide +kernel
theorem dX9_loosen_40 : decode cX9_loosen 40 = .ok (.iinc 3 1, 3) := by decide +kernel
theorem dX9_loosen_43 : decode cX9_loosen 43 = .ok (.goto (-41), 3) := by decide +kernel
theorem dX9_loosen_46 : decode cX9_loosen 46 = .ok (.return_, 1) := by decide +kernel
theorem dX9_bind_0 : decode cX9_bind 0 = .ok (.iconst 0, 1) := by decide +kernel
theorem dX9_bind_1 : decode cX9_bind 1 = .ok (.istore_n 3, 1) := by decide +kernel
theorem dX9_bind_2 : decode cX9_bind 2 = .ok (.iload_n 3, 1) := by decide +kernel
theorem dX9_bind_3 : decode cX9_bind 3 = .ok (.iconst 3, 1) := by decide +kernel
theorem dX9_bind_4 : decode cX9_bind 4 = .ok (.if_icmp .ge 107, 3) := by decide +kernel
theorem dX9_bind_7 : decode cX9_bind 7 = .ok (.aload_n 0, 1) := by decide +kernel
theorem dX9_bind_8 : decode cX9_bind 8 = .ok (.getfield 13, 3) := by decide +kernel
theorem dX9_bind_11 : decode cX9_bind 11 = .ok (.iconst 3, 1) := by decide +kernel
theorem dX9_bind_12 : decode cX9_bind 12 = .ok (.iload_n 1, 1) := by decide +kernel
theorem dX9_bind_13 : decode cX9_bind 13 = .ok (.imul, 1) := by decide +kernel
theorem dX9_bind_14 : decode cX9_bind 14 = .ok (.iload_n 3, 1) := by decide +kernel
theorem dX9_bind_15 : decode cX9_bind 15 = .ok (.iadd, 1) := by decide +kernel
theorem dX9_bind_16 : decode cX9_bind 16 = .ok (.iaload, 1) := by decide +kernel
theorem dX9_bind_17 : decode cX9_bind 17 = .ok (.istore 4, 2) := by decide +kernel
theorem dX9_bind_19 : decode cX9_bind 19 = .ok (.aload_n 0, 1) := by decide +kernel
theorem dX9_bind_20 : decode cX9_bind 20 = .ok (.getfield 7, 3) := by decide +kernel
theorem dX9_bind_23 : decode cX9_bind 23 = .ok (.iconst 3, 1) := by decide +kernel
theorem dX9_bind_24 : decode cX9_bind 24 = .ok (.iload_n 2, 1) := by decide +kernel
theorem dX9_bind_25 : decode cX9_bind 25 = .ok (.imul, 1) := by decide +kernel
theorem dX9_bind_26 : decode cX9_bind 26 = .ok (.iload_n 3, 1) := by decide +kernel
theorem dX9_bind_27 : decode cX9_bind 27 = .ok (.iadd, 1) := by decide +kernel
theorem dX9_bind_28 : decode cX9_bind 28 = .ok (.iaload, 1) := by decide +kernel
theorem dX9_bind_29 : decode cX9_bind 29 = .ok (.istore 5, 2) := by decide +kernel
theorem dX9_bind_31 : decode cX9_bind 31 = .ok (.iload 4, 2) := by decide +kernel
theorem dX9_bind_33 : decode cX9_bind 33 = .ok (.ifCond .lt 13, 3) := by decide +kernel
theorem dX9_bind_36 : decode cX9_bind 36 = .ok (.iload 4, 2) := by decide +kernel
theorem dX9_bind_38 : decode cX9_bind 38 = .ok (.iload 5, 2) := by decide +kernel
theorem dX9_bind_40 : decode cX9_bind 40 = .ok (.if_icmp .eq 38, 3) := by decide +kernel
theorem dX9_bind_43 : decode cX9_bind 43 = .ok (.goto 27, 3) := by decide +kernel
theorem dX9_bind_46 : decode cX9_bind 46 = .ok (.aload_n 0, 1) := by decide +kernel
theorem dX9_bind_47 : decode cX9_bind 47 = .ok (.getfield 31, 3) := by decide +kernel
theorem dX9_bind_50 : decode cX9_bind 50 = .ok (.iload 4, 2) := by decide +kernel
theorem dX9_bind_52 : decode cX9_bind 52 = .ok (.ineg, 1) := by decide +kernel
theorem dX9_bind_53 : decode cX9_bind 53 = .ok (.iaload, 1) := by decide +kernel
theorem dX9_bind_54 : decode cX9_bind 54 = .ok (.ifCond .le 24, 3) := by decide +kernel
theorem dX9_bind_57 : decode cX9_bind 57 = .ok (.aload_n 0, 1) := by decide +kernel
theorem dX9_bind_58 : decode cX9_bind 58 = .ok (.getfield 28, 3) := by decide +kernel
theorem dX9_bind_61 : decode cX9_bind 61 = .ok (.iload 4, 2) := by decide +kernel
theorem dX9_bind_63 : decode cX9_bind 63 = .ok (.ineg, 1) := by decide +kernel
theorem dX9_bind_64 : decode cX9_bind 64 = .ok (.iaload, 1) := by decide +kernel
theorem dX9_bind_65 : decode cX9_bind 65 = .ok (.iload 5, 2) := by decide +kernel
theorem dX9_bind_67 : decode cX9_bind 67 = .ok (.if_icmp .eq 11, 3) := by decide +kernel
theorem dX9_bind_70 : decode cX9_bind 70 = .ok (.aload_n 0, 1) := by decide +kernel
theorem dX9_bind_71 : decode cX9_bind 71 = .ok (.iload_n 1, 1) := by decide +kernel
theorem dX9_bind_72 : decode cX9_bind 72 = .ok (.iload_n 3, 1) := by decide +kernel
theorem dX9_bind_73 : decode cX9_bind 73 = .ok (.invokevirtual 122, 3) := by decide +kernel
theorem dX9_bind_76 : decode cX9_bind 76 = .ok (.iconst 0, 1) := by decide +kernel
theorem dX9_bind_77 : decode cX9_bind 77 = .ok (.ireturn, 1) := by decide +kernel
theorem dX9_bind_78 : decode cX9_bind 78 = .ok (.iload 4, 2) := by decide +kernel
theorem dX9_bind_80 : decode cX9_bind 80 = .ok (.ifCond .ge 25, 3) := by decide +kernel
