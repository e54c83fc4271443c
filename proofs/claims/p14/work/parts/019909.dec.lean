theorem dX9_bind_83 : decode cX9_bind 83 = .ok (.aload_n 0, 1) := by decide +kernel
theorem dX9_bind_84 : decode cX9_bind 84 = .ok (.getfield 28, 3) := by decide +kernel
theorem dX9_bind_87 : decode cX9_bind 87 = .ok (.iload 4, 2) := by decide +kernel
theorem dX9_bind_89 : decode cX9_bind 89 = .ok (.ineg, 1) := by decide +kernel
theorem dX9_bind_90 : decode cX9_bind 90 = .ok (.iload 5, 2) := by decide +kernel
theorem dX9_bind_92 : decode cX9_bind 92 = .ok (.iastore, 1) := by decide +kernel
theorem dX9_bind_93 : decode cX9_bind 93 = .ok (.aload_n 0, 1) := by decide +kernel
theorem dX9_bind_94 : decode cX9_bind 94 = .ok (.getfield 31, 3) := by decide +kernel
theorem dX9_bind_97 : decode cX9_bind 97 = .ok (.iload 4, 2) := by decide +kernel
theorem dX9_bind_99 : decode cX9_bind 99 = .ok (.ineg, 1) := by decide +kernel
theorem dX9_bind_100 : decode cX9_bind 100 = .ok (.dup2, 1) := by decide +kernel
theorem dX9_bind_101 : decode cX9_bind 101 = .ok (.iaload, 1) := by decide +kernel
theorem dX9_bind_102 : decode cX9_bind 102 = .ok (.iconst 1, 1) := by decide +kernel
theorem dX9_bind_103 : decode cX9_bind 103 = .ok (.iadd, 1) := by decide +kernel
theorem dX9_bind_104 : decode cX9_bind 104 = .ok (.iastore, 1) := by decide +kernel
theorem dX9_bind_105 : decode cX9_bind 105 = .ok (.iinc 3 1, 3) := by decide +kernel
theorem dX9_bind_108 : decode cX9_bind 108 = .ok (.goto (-106), 3) := by decide +kernel
theorem dX9_bind_111 : decode cX9_bind 111 = .ok (.iconst 1, 1) := by decide +kernel
theorem dX9_bind_112 : decode cX9_bind 112 = .ok (.ireturn, 1) := by decide +kernel
theorem dX9_keep_0 : decode cX9_keep 0 = .ok (.iconst 1, 1) := by decide +kernel
theorem dX9_keep_1 : decode cX9_keep 1 = .ok (.istore_n 1, 1) := by decide +kernel
theorem dX9_keep_2 : decode cX9_keep 2 = .ok (.iload_n 1, 1) := by decide +kernel
theorem dX9_keep_3 : decode cX9_keep 3 = .ok (.bipush 8, 2) := by decide +kernel
theorem dX9_keep_5 : decode cX9_keep 5 = .ok (.if_icmp .gt 44, 3) := by decide +kernel
theorem dX9_keep_8 : decode cX9_keep 8 = .ok (.aload_n 0, 1) := by decide +kernel
theorem dX9_keep_9 : decode cX9_keep 9 = .ok (.getfield 38, 3) := by decide +kernel
theorem dX9_keep_12 : decode cX9_keep 12 = .ok (.bipush 8, 2) := by decide +kernel
theorem dX9_keep_14 : decode cX9_keep 14 = .ok (.aload_n 0, 1) := by decide +kernel
theorem dX9_keep_15 : decode cX9_keep 15 = .ok (.getfield 125, 3) := by decide +kernel
theorem dX9_keep_18 : decode cX9_keep 18 = .ok (.imul, 1) := by decide +kernel
theorem dX9_keep_19 : decode cX9_keep 19 = .ok (.iload_n 1, 1) := by decide +kernel
theorem dX9_keep_20 : decode cX9_keep 20 = .ok (.iadd, 1) := by decide +kernel
theorem dX9_keep_21 : decode cX9_keep 21 = .ok (.iconst 1, 1) := by decide +kernel
theorem dX9_keep_22 : decode cX9_keep 22 = .ok (.isub, 1) := by decide +kernel
theorem dX9_keep_23 : decode cX9_keep 23 = .ok (.aload_n 0, 1) := by decide +kernel
theorem dX9_keep_24 : decode cX9_keep 24 = .ok (.getfield 31, 3) := by decide +kernel
theorem dX9_keep_27 : decode cX9_keep 27 = .ok (.iload_n 1, 1) := by decide +kernel
theorem dX9_keep_28 : decode cX9_keep 28 = .ok (.iaload, 1) := by decide +kernel
theorem dX9_keep_29 : decode cX9_keep 29 = .ok (.ifCond .le 12, 3) := by decide +kernel
theorem dX9_keep_32 : decode cX9_keep 32 = .ok (.aload_n 0, 1) := by decide +kernel
theorem dX9_keep_33 : decode cX9_keep 33 = .ok (.getfield 28, 3) := by decide +kernel
theorem dX9_keep_36 : decode cX9_keep 36 = .ok (.iload_n 1, 1) := by decide +kernel
theorem dX9_keep_37 : decode cX9_keep 37 = .ok (.iaload, 1) := by decide +kernel
theorem dX9_keep_38 : decode cX9_keep 38 = .ok (.goto 4, 3) := by decide +kernel
theorem dX9_keep_41 : decode cX9_keep 41 = .ok (.iconst 0, 1) := by decide +kernel
theorem dX9_keep_42 : decode cX9_keep 42 = .ok (.iastore, 1) := by decide +kernel
theorem dX9_keep_43 : decode cX9_keep 43 = .ok (.iinc 1 1, 3) := by decide +kernel
theorem dX9_keep_46 : decode cX9_keep 46 = .ok (.goto (-44), 3) := by decide +kernel
theorem dX9_keep_49 : decode cX9_keep 49 = .ok (.aload_n 0, 1) := by decide +kernel
theorem dX9_keep_50 : decode cX9_keep 50 = .ok (.dup, 1) := by decide +kernel
theorem dX9_keep_51 : decode cX9_keep 51 = .ok (.getfield 125, 3) := by decide +kernel
theorem dX9_keep_54 : decode cX9_keep 54 = .ok (.iconst 1, 1) := by decide +kernel
theorem dX9_keep_55 : decode cX9_keep 55 = .ok (.iadd, 1) := by decide +kernel
theorem dX9_keep_56 : decode cX9_keep 56 = .ok (.putfield 125, 3) := by decide +kernel
theorem dX9_keep_59 : decode cX9_keep 59 = .ok (.return_, 1) := by decide +kernel
theorem dX9_join_0 : decode cX9_join 0 = .ok (.iconst 0, 1) := by decide +kernel
theorem dX9_join_1 : decode cX9_join 1 = .ok (.istore 4, 2) := by decide +kernel
theorem dX9_join_3 : decode cX9_join 3 = .ok (.aload_n 0, 1) := by decide +kernel
theorem dX9_join_4 : decode cX9_join 4 = .ok (.iconst 0, 1) := by decide +kernel
theorem dX9_join_5 : decode cX9_join 5 = .ok (.putfield 125, 3) := by decide +kernel
theorem dX9_join_8 : decode cX9_join 8 = .ok (.iconst 0, 1) := by decide +kernel
theorem dX9_join_9 : decode cX9_join 9 = .ok (.istore 5, 2) := by decide +kernel
theorem dX9_join_11 : decode cX9_join 11 = .ok (.iload 5, 2) := by decide +kernel
theorem dX9_join_13 : decode cX9_join 13 = .ok (.bipush 9, 2) := by decide +kernel
theorem dX9_join_15 : decode cX9_join 15 = .ok (.if_icmp .ge 17, 3) := by decide +kernel
theorem dX9_join_18 : decode cX9_join 18 = .ok (.aload_n 0, 1) := by decide +kernel
theorem dX9_join_19 : decode cX9_join 19 = .ok (.getfield 31, 3) := by decide +kernel
theorem dX9_join_22 : decode cX9_join 22 = .ok (.iload 5, 2) := by decide +kernel
theorem dX9_join_24 : decode cX9_join 24 = .ok (.iconst 0, 1) := by decide +kernel
theorem dX9_join_25 : decode cX9_join 25 = .ok (.iastore, 1) := by decide +kernel
theorem dX9_join_26 : decode cX9_join 26 = .ok (.iinc 5 1, 3) := by decide +kernel
theorem dX9_join_29 : decode cX9_join 29 = .ok (.goto (-18), 3) := by decide +kernel
theorem dX9_join_32 : decode cX9_join 32 = .ok (.iload_n 2, 1) := by decide +kernel
theorem dX9_join_33 : decode cX9_join 33 = .ok (.ifCond .ne 11, 3) := by decide +kernel
theorem dX9_join_36 : decode cX9_join 36 = .ok (.iload_n 3, 1) := by decide +kernel
theorem dX9_join_37 : decode cX9_join 37 = .ok (.ifCond .eq 7, 3) := by decide +kernel
theorem dX9_join_40 : decode cX9_join 40 = .ok (.aload_n 0, 1) := by decide +kernel
theorem dX9_join_41 : decode cX9_join 41 = .ok (.invokevirtual 128, 3) := by decide +kernel
theorem dX9_join_44 : decode cX9_join 44 = .ok (.iload_n 2, 1) := by decide +kernel
theorem dX9_join_45 : decode cX9_join 45 = .ok (.ifCond .ne 7, 3) := by decide +kernel
theorem dX9_join_48 : decode cX9_join 48 = .ok (.iconst (-1), 1) := by decide +kernel
theorem dX9_join_49 : decode cX9_join 49 = .ok (.goto 4, 3) := by decide +kernel
theorem dX9_join_52 : decode cX9_join 52 = .ok (.iconst 0, 1) := by decide +kernel
theorem dX9_join_53 : decode cX9_join 53 = .ok (.istore 5, 2) := by decide +kernel
theorem dX9_join_55 : decode cX9_join 55 = .ok (.aload_n 0, 1) := by decide +kernel
theorem dX9_join_56 : decode cX9_join 56 = .ok (.getfield 34, 3) := by decide +kernel
theorem dX9_join_59 : decode cX9_join 59 = .ok (.iconst 0, 1) := by decide +kernel
theorem dX9_join_60 : decode cX9_join 60 = .ok (.iconst (-1), 1) := by decide +kernel
theorem dX9_join_61 : decode cX9_join 61 = .ok (.iastore, 1) := by decide +kernel
theorem dX9_join_62 : decode cX9_join 62 = .ok (.iload 5, 2) := by decide +kernel
theorem dX9_join_64 : decode cX9_join 64 = .ok (.ifCond .lt 145, 3) := by decide +kernel
theorem dX9_join_67 : decode cX9_join 67 = .ok (.aload_n 0, 1) := by decide +kernel
theorem dX9_join_68 : decode cX9_join 68 = .ok (.getfield 34, 3) := by decide +kernel
theorem dX9_join_71 : decode cX9_join 71 = .ok (.iload 5, 2) := by decide +kernel
theorem dX9_join_73 : decode cX9_join 73 = .ok (.iaload, 1) := by decide +kernel
theorem dX9_join_74 : decode cX9_join 74 = .ok (.ifCond .lt 12, 3) := by decide +kernel
theorem dX9_join_77 : decode cX9_join 77 = .ok (.aload_n 0, 1) := by decide +kernel
theorem dX9_join_78 : decode cX9_join 78 = .ok (.aload_n 1, 1) := by decide +kernel
theorem dX9_join_79 : decode cX9_join 79 = .ok (.iload 5, 2) := by decide +kernel
theorem dX9_join_81 : decode cX9_join 81 = .ok (.iaload, 1) := by decide +kernel
theorem dX9_join_82 : decode cX9_join 82 = .ok (.iconst 3, 1) := by decide +kernel
theorem dX9_join_83 : decode cX9_join 83 = .ok (.invokevirtual 122, 3) := by decide +kernel
theorem dX9_join_86 : decode cX9_join 86 = .ok (.aload_n 0, 1) := by decide +kernel
theorem dX9_join_87 : decode cX9_join 87 = .ok (.getfield 34, 3) := by decide +kernel
theorem dX9_join_90 : decode cX9_join 90 = .ok (.iload 5, 2) := by decide +kernel
theorem dX9_join_92 : decode cX9_join 92 = .ok (.dup2, 1) := by decide +kernel
theorem dX9_join_93 : decode cX9_join 93 = .ok (.iaload, 1) := by decide +kernel
theorem dX9_join_94 : decode cX9_join 94 = .ok (.iconst 1, 1) := by decide +kernel
theorem dX9_join_95 : decode cX9_join 95 = .ok (.iadd, 1) := by decide +kernel
theorem dX9_join_96 : decode cX9_join 96 = .ok (.iastore, 1) := by decide +kernel
theorem dX9_join_97 : decode cX9_join 97 = .ok (.aload_n 0, 1) := by decide +kernel
theorem dX9_join_98 : decode cX9_join 98 = .ok (.getfield 34, 3) := by decide +kernel
theorem dX9_join_101 : decode cX9_join 101 = .ok (.iload 5, 2) := by decide +kernel
theorem dX9_join_103 : decode cX9_join 103 = .ok (.iaload, 1) := by decide +kernel
theorem dX9_join_104 : decode cX9_join 104 = .ok (.aload_n 0, 1) := by decide +kernel
theorem dX9_join_105 : decode cX9_join 105 = .ok (.getfield 51, 3) := by decide +kernel
theorem dX9_join_108 : decode cX9_join 108 = .ok (.if_icmp .ge 35, 3) := by decide +kernel
theorem dX9_join_111 : decode cX9_join 111 = .ok (.aload_n 0, 1) := by decide +kernel
theorem dX9_join_112 : decode cX9_join 112 = .ok (.aload_n 1, 1) := by decide +kernel
theorem dX9_join_113 : decode cX9_join 113 = .ok (.iload 5, 2) := by decide +kernel
theorem dX9_join_115 : decode cX9_join 115 = .ok (.iaload, 1) := by decide +kernel
theorem dX9_join_116 : decode cX9_join 116 = .ok (.aload_n 0, 1) := by decide +kernel
theorem dX9_join_117 : decode cX9_join 117 = .ok (.getfield 34, 3) := by decide +kernel
theorem dX9_join_120 : decode cX9_join 120 = .ok (.iload 5, 2) := by decide +kernel
theorem dX9_join_122 : decode cX9_join 122 = .ok (.iaload, 1) := by decide +kernel
theorem dX9_join_123 : decode cX9_join 123 = .ok (.invokevirtual 131, 3) := by decide +kernel
theorem dX9_join_126 : decode cX9_join 126 = .ok (.ifCond .ne 17, 3) := by decide +kernel
theorem dX9_join_129 : decode cX9_join 129 = .ok (.aload_n 0, 1) := by decide +kernel
theorem dX9_join_130 : decode cX9_join 130 = .ok (.getfield 34, 3) := by decide +kernel
theorem dX9_join_133 : decode cX9_join 133 = .ok (.iload 5, 2) := by decide +kernel
theorem dX9_join_135 : decode cX9_join 135 = .ok (.dup2, 1) := by decide +kernel
theorem dX9_join_136 : decode cX9_join 136 = .ok (.iaload, 1) := by decide +kernel
theorem dX9_join_137 : decode cX9_join 137 = .ok (.iconst 1, 1) := by decide +kernel
theorem dX9_join_138 : decode cX9_join 138 = .ok (.iadd, 1) := by decide +kernel
theorem dX9_join_139 : decode cX9_join 139 = .ok (.iastore, 1) := by decide +kernel
theorem dX9_join_140 : decode cX9_join 140 = .ok (.goto (-43), 3) := by decide +kernel
theorem dX9_join_143 : decode cX9_join 143 = .ok (.aload_n 0, 1) := by decide +kernel
theorem dX9_join_144 : decode cX9_join 144 = .ok (.getfield 34, 3) := by decide +kernel
theorem dX9_join_147 : decode cX9_join 147 = .ok (.iload 5, 2) := by decide +kernel
theorem dX9_join_149 : decode cX9_join 149 = .ok (.iaload, 1) := by decide +kernel
theorem dX9_join_150 : decode cX9_join 150 = .ok (.aload_n 0, 1) := by decide +kernel
theorem dX9_join_151 : decode cX9_join 151 = .ok (.getfield 51, 3) := by decide +kernel
theorem dX9_join_154 : decode cX9_join 154 = .ok (.if_icmp .ne 9, 3) := by decide +kernel
theorem dX9_join_157 : decode cX9_join 157 = .ok (.iinc 5 (-1), 3) := by decide +kernel
theorem dX9_join_160 : decode cX9_join 160 = .ok (.goto (-98), 3) := by decide +kernel
theorem dX9_join_163 : decode cX9_join 163 = .ok (.iinc 4 1, 3) := by decide +kernel
theorem dX9_join_166 : decode cX9_join 166 = .ok (.iload 4, 2) := by decide +kernel
theorem dX9_join_168 : decode cX9_join 168 = .ok (.sipush 20000, 3) := by decide +kernel
theorem dX9_join_171 : decode cX9_join 171 = .ok (.if_icmp .le 5, 3) := by decide +kernel
theorem dX9_join_174 : decode cX9_join 174 = .ok (.iconst (-1), 1) := by decide +kernel
theorem dX9_join_175 : decode cX9_join 175 = .ok (.ireturn, 1) := by decide +kernel
theorem dX9_join_176 : decode cX9_join 176 = .ok (.iload 5, 2) := by decide +kernel
theorem dX9_join_178 : decode cX9_join 178 = .ok (.iconst 1, 1) := by decide +kernel
theorem dX9_join_179 : decode cX9_join 179 = .ok (.iadd, 1) := by decide +kernel
theorem dX9_join_180 : decode cX9_join 180 = .ok (.iload_n 2, 1) := by decide +kernel
theorem dX9_join_181 : decode cX9_join 181 = .ok (.if_icmp .ge 17, 3) := by decide +kernel
theorem dX9_join_184 : decode cX9_join 184 = .ok (.iinc 5 1, 3) := by decide +kernel
theorem dX9_join_187 : decode cX9_join 187 = .ok (.aload_n 0, 1) := by decide +kernel
theorem dX9_join_188 : decode cX9_join 188 = .ok (.getfield 34, 3) := by decide +kernel
theorem dX9_join_191 : decode cX9_join 191 = .ok (.iload 5, 2) := by decide +kernel
