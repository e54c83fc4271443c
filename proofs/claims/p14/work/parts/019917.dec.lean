theorem dX6_prepare_27 : decode cX6_prepare 27 = .ok (.iaload, 1) := by decide +kernel
theorem dX6_prepare_28 : decode cX6_prepare 28 = .ok (.istore 4, 2) := by decide +kernel
theorem dX6_prepare_30 : decode cX6_prepare 30 = .ok (.aload_n 0, 1) := by decide +kernel
theorem dX6_prepare_31 : decode cX6_prepare 31 = .ok (.aload_n 1, 1) := by decide +kernel
theorem dX6_prepare_32 : decode cX6_prepare 32 = .ok (.iload 4, 2) := by decide +kernel
theorem dX6_prepare_34 : decode cX6_prepare 34 = .ok (.invokevirtual 38, 3) := by decide +kernel
theorem dX6_prepare_37 : decode cX6_prepare 37 = .ok (.putfield 41, 3) := by decide +kernel
theorem dX6_prepare_40 : decode cX6_prepare 40 = .ok (.iconst 0, 1) := by decide +kernel
theorem dX6_prepare_41 : decode cX6_prepare 41 = .ok (.istore 5, 2) := by decide +kernel
theorem dX6_prepare_43 : decode cX6_prepare 43 = .ok (.iload 5, 2) := by decide +kernel
theorem dX6_prepare_45 : decode cX6_prepare 45 = .ok (.iconst 3, 1) := by decide +kernel
theorem dX6_prepare_46 : decode cX6_prepare 46 = .ok (.if_icmp .ge 37, 3) := by decide +kernel
theorem dX6_prepare_49 : decode cX6_prepare 49 = .ok (.aload_n 0, 1) := by decide +kernel
theorem dX6_prepare_50 : decode cX6_prepare 50 = .ok (.getfield 15, 3) := by decide +kernel
theorem dX6_prepare_53 : decode cX6_prepare 53 = .ok (.iload 5, 2) := by decide +kernel
theorem dX6_prepare_55 : decode cX6_prepare 55 = .ok (.aload_n 1, 1) := by decide +kernel
theorem dX6_prepare_56 : decode cX6_prepare 56 = .ok (.getfield 43, 3) := by decide +kernel
theorem dX6_prepare_59 : decode cX6_prepare 59 = .ok (.iload 5, 2) := by decide +kernel
theorem dX6_prepare_61 : decode cX6_prepare 61 = .ok (.iaload, 1) := by decide +kernel
theorem dX6_prepare_62 : decode cX6_prepare 62 = .ok (.iastore, 1) := by decide +kernel
theorem dX6_prepare_63 : decode cX6_prepare 63 = .ok (.aload_n 0, 1) := by decide +kernel
theorem dX6_prepare_64 : decode cX6_prepare 64 = .ok (.getfield 18, 3) := by decide +kernel
theorem dX6_prepare_67 : decode cX6_prepare 67 = .ok (.iload 5, 2) := by decide +kernel
theorem dX6_prepare_69 : decode cX6_prepare 69 = .ok (.iload 4, 2) := by decide +kernel
theorem dX6_prepare_71 : decode cX6_prepare 71 = .ok (.iload 5, 2) := by decide +kernel
theorem dX6_prepare_73 : decode cX6_prepare 73 = .ok (.invokestatic 44, 3) := by decide +kernel
theorem dX6_prepare_76 : decode cX6_prepare 76 = .ok (.iastore, 1) := by decide +kernel
theorem dX6_prepare_77 : decode cX6_prepare 77 = .ok (.iinc 5 1, 3) := by decide +kernel
theorem dX6_prepare_80 : decode cX6_prepare 80 = .ok (.goto (-37), 3) := by decide +kernel
theorem dX6_prepare_83 : decode cX6_prepare 83 = .ok (.aload_n 0, 1) := by decide +kernel
theorem dX6_prepare_84 : decode cX6_prepare 84 = .ok (.iconst 0, 1) := by decide +kernel
theorem dX6_prepare_85 : decode cX6_prepare 85 = .ok (.putfield 48, 3) := by decide +kernel
theorem dX6_prepare_88 : decode cX6_prepare 88 = .ok (.iconst 0, 1) := by decide +kernel
theorem dX6_prepare_89 : decode cX6_prepare 89 = .ok (.istore 5, 2) := by decide +kernel
theorem dX6_prepare_91 : decode cX6_prepare 91 = .ok (.iload 5, 2) := by decide +kernel
theorem dX6_prepare_93 : decode cX6_prepare 93 = .ok (.aload_n 3, 1) := by decide +kernel
theorem dX6_prepare_94 : decode cX6_prepare 94 = .ok (.getfield 51, 3) := by decide +kernel
theorem dX6_prepare_97 : decode cX6_prepare 97 = .ok (.if_icmp .ge 82, 3) := by decide +kernel
theorem dX6_prepare_100 : decode cX6_prepare 100 = .ok (.aload_n 3, 1) := by decide +kernel
theorem dX6_prepare_101 : decode cX6_prepare 101 = .ok (.getfield 54, 3) := by decide +kernel
theorem dX6_prepare_104 : decode cX6_prepare 104 = .ok (.iload 4, 2) := by decide +kernel
theorem dX6_prepare_106 : decode cX6_prepare 106 = .ok (.aaload, 1) := by decide +kernel
theorem dX6_prepare_107 : decode cX6_prepare 107 = .ok (.iload 5, 2) := by decide +kernel
theorem dX6_prepare_109 : decode cX6_prepare 109 = .ok (.iaload, 1) := by decide +kernel
theorem dX6_prepare_110 : decode cX6_prepare 110 = .ok (.istore 6, 2) := by decide +kernel
theorem dX6_prepare_112 : decode cX6_prepare 112 = .ok (.aload_n 1, 1) := by decide +kernel
theorem dX6_prepare_113 : decode cX6_prepare 113 = .ok (.iload 6, 2) := by decide +kernel
theorem dX6_prepare_115 : decode cX6_prepare 115 = .ok (.aload_n 0, 1) := by decide +kernel
theorem dX6_prepare_116 : decode cX6_prepare 116 = .ok (.getfield 18, 3) := by decide +kernel
theorem dX6_prepare_119 : decode cX6_prepare 119 = .ok (.iconst 0, 1) := by decide +kernel
theorem dX6_prepare_120 : decode cX6_prepare 120 = .ok (.iaload, 1) := by decide +kernel
theorem dX6_prepare_121 : decode cX6_prepare 121 = .ok (.invokestatic 58, 3) := by decide +kernel
theorem dX6_prepare_124 : decode cX6_prepare 124 = .ok (.iload 6, 2) := by decide +kernel
theorem dX6_prepare_126 : decode cX6_prepare 126 = .ok (.aload_n 0, 1) := by decide +kernel
theorem dX6_prepare_127 : decode cX6_prepare 127 = .ok (.getfield 18, 3) := by decide +kernel
theorem dX6_prepare_130 : decode cX6_prepare 130 = .ok (.iconst 1, 1) := by decide +kernel
theorem dX6_prepare_131 : decode cX6_prepare 131 = .ok (.iaload, 1) := by decide +kernel
theorem dX6_prepare_132 : decode cX6_prepare 132 = .ok (.invokestatic 58, 3) := by decide +kernel
theorem dX6_prepare_135 : decode cX6_prepare 135 = .ok (.iload 6, 2) := by decide +kernel
theorem dX6_prepare_137 : decode cX6_prepare 137 = .ok (.aload_n 0, 1) := by decide +kernel
theorem dX6_prepare_138 : decode cX6_prepare 138 = .ok (.getfield 18, 3) := by decide +kernel
theorem dX6_prepare_141 : decode cX6_prepare 141 = .ok (.iconst 2, 1) := by decide +kernel
theorem dX6_prepare_142 : decode cX6_prepare 142 = .ok (.iaload, 1) := by decide +kernel
theorem dX6_prepare_143 : decode cX6_prepare 143 = .ok (.invokestatic 58, 3) := by decide +kernel
theorem dX6_prepare_146 : decode cX6_prepare 146 = .ok (.invokevirtual 61, 3) := by decide +kernel
theorem dX6_prepare_149 : decode cX6_prepare 149 = .ok (.ifCond .eq 24, 3) := by decide +kernel
theorem dX6_prepare_152 : decode cX6_prepare 152 = .ok (.aload_n 0, 1) := by decide +kernel
theorem dX6_prepare_153 : decode cX6_prepare 153 = .ok (.getfield 9, 3) := by decide +kernel
theorem dX6_prepare_156 : decode cX6_prepare 156 = .ok (.aload_n 0, 1) := by decide +kernel
theorem dX6_prepare_157 : decode cX6_prepare 157 = .ok (.getfield 48, 3) := by decide +kernel
theorem dX6_prepare_160 : decode cX6_prepare 160 = .ok (.iload 6, 2) := by decide +kernel
theorem dX6_prepare_162 : decode cX6_prepare 162 = .ok (.iastore, 1) := by decide +kernel
theorem dX6_prepare_163 : decode cX6_prepare 163 = .ok (.aload_n 0, 1) := by decide +kernel
theorem dX6_prepare_164 : decode cX6_prepare 164 = .ok (.dup, 1) := by decide +kernel
theorem dX6_prepare_165 : decode cX6_prepare 165 = .ok (.getfield 48, 3) := by decide +kernel
theorem dX6_prepare_168 : decode cX6_prepare 168 = .ok (.iconst 1, 1) := by decide +kernel
theorem dX6_prepare_169 : decode cX6_prepare 169 = .ok (.iadd, 1) := by decide +kernel
theorem dX6_prepare_170 : decode cX6_prepare 170 = .ok (.putfield 48, 3) := by decide +kernel
theorem dX6_prepare_173 : decode cX6_prepare 173 = .ok (.iinc 5 1, 3) := by decide +kernel
theorem dX6_prepare_176 : decode cX6_prepare 176 = .ok (.goto (-85), 3) := by decide +kernel
theorem dX6_prepare_179 : decode cX6_prepare 179 = .ok (.return_, 1) := by decide +kernel
theorem dX6_keyFor_0 : decode cX6_keyFor 0 = .ok (.aload_n 0, 1) := by decide +kernel
theorem dX6_keyFor_1 : decode cX6_keyFor 1 = .ok (.getfield 41, 3) := by decide +kernel
theorem dX6_keyFor_4 : decode cX6_keyFor 4 = .ok (.istore_n 3, 1) := by decide +kernel
theorem dX6_keyFor_5 : decode cX6_keyFor 5 = .ok (.iconst 0, 1) := by decide +kernel
theorem dX6_keyFor_6 : decode cX6_keyFor 6 = .ok (.istore 4, 2) := by decide +kernel
theorem dX6_keyFor_8 : decode cX6_keyFor 8 = .ok (.iload 4, 2) := by decide +kernel
theorem dX6_keyFor_10 : decode cX6_keyFor 10 = .ok (.iconst 3, 1) := by decide +kernel
theorem dX6_keyFor_11 : decode cX6_keyFor 11 = .ok (.if_icmp .ge 53, 3) := by decide +kernel
theorem dX6_keyFor_14 : decode cX6_keyFor 14 = .ok (.aload_n 0, 1) := by decide +kernel
theorem dX6_keyFor_15 : decode cX6_keyFor 15 = .ok (.getfield 15, 3) := by decide +kernel
theorem dX6_keyFor_18 : decode cX6_keyFor 18 = .ok (.iload 4, 2) := by decide +kernel
theorem dX6_keyFor_20 : decode cX6_keyFor 20 = .ok (.iaload, 1) := by decide +kernel
theorem dX6_keyFor_21 : decode cX6_keyFor 21 = .ok (.ifCond .ge 37, 3) := by decide +kernel
theorem dX6_keyFor_24 : decode cX6_keyFor 24 = .ok (.aload_n 0, 1) := by decide +kernel
theorem dX6_keyFor_25 : decode cX6_keyFor 25 = .ok (.getfield 27, 3) := by decide +kernel
theorem dX6_keyFor_28 : decode cX6_keyFor 28 = .ok (.iconst 1, 1) := by decide +kernel
theorem dX6_keyFor_29 : decode cX6_keyFor 29 = .ok (.iload 4, 2) := by decide +kernel
theorem dX6_keyFor_31 : decode cX6_keyFor 31 = .ok (.ishl, 1) := by decide +kernel
theorem dX6_keyFor_32 : decode cX6_keyFor 32 = .ok (.iand, 1) := by decide +kernel
theorem dX6_keyFor_33 : decode cX6_keyFor 33 = .ok (.ifCond .eq 25, 3) := by decide +kernel
theorem dX6_keyFor_36 : decode cX6_keyFor 36 = .ok (.iload_n 3, 1) := by decide +kernel
theorem dX6_keyFor_37 : decode cX6_keyFor 37 = .ok (.lload_n 1, 1) := by decide +kernel
theorem dX6_keyFor_38 : decode cX6_keyFor 38 = .ok (.aload_n 0, 1) := by decide +kernel
theorem dX6_keyFor_39 : decode cX6_keyFor 39 = .ok (.getfield 15, 3) := by decide +kernel
theorem dX6_keyFor_42 : decode cX6_keyFor 42 = .ok (.iload 4, 2) := by decide +kernel
theorem dX6_keyFor_44 : decode cX6_keyFor 44 = .ok (.iaload, 1) := by decide +kernel
theorem dX6_keyFor_45 : decode cX6_keyFor 45 = .ok (.invokestatic 65, 3) := by decide +kernel
theorem dX6_keyFor_48 : decode cX6_keyFor 48 = .ok (.aload_n 0, 1) := by decide +kernel
theorem dX6_keyFor_49 : decode cX6_keyFor 49 = .ok (.getfield 18, 3) := by decide +kernel
theorem dX6_keyFor_52 : decode cX6_keyFor 52 = .ok (.iload 4, 2) := by decide +kernel
theorem dX6_keyFor_54 : decode cX6_keyFor 54 = .ok (.iaload, 1) := by decide +kernel
theorem dX6_keyFor_55 : decode cX6_keyFor 55 = .ok (.ishl, 1) := by decide +kernel
theorem dX6_keyFor_56 : decode cX6_keyFor 56 = .ok (.ior, 1) := by decide +kernel
theorem dX6_keyFor_57 : decode cX6_keyFor 57 = .ok (.istore_n 3, 1) := by decide +kernel
theorem dX6_keyFor_58 : decode cX6_keyFor 58 = .ok (.iinc 4 1, 3) := by decide +kernel
theorem dX6_keyFor_61 : decode cX6_keyFor 61 = .ok (.goto (-53), 3) := by decide +kernel
theorem dX6_keyFor_64 : decode cX6_keyFor 64 = .ok (.iload_n 3, 1) := by decide +kernel
theorem dX6_keyFor_65 : decode cX6_keyFor 65 = .ok (.ireturn, 1) := by decide +kernel
theorem dX6_firstFor_0 : decode cX6_firstFor 0 = .ok (.aload_n 0, 1) := by decide +kernel
theorem dX6_firstFor_1 : decode cX6_firstFor 1 = .ok (.getfield 9, 3) := by decide +kernel
theorem dX6_firstFor_4 : decode cX6_firstFor 4 = .ok (.aload_n 0, 1) := by decide +kernel
theorem dX6_firstFor_5 : decode cX6_firstFor 5 = .ok (.getfield 48, 3) := by decide +kernel
theorem dX6_firstFor_8 : decode cX6_firstFor 8 = .ok (.iload_n 1, 1) := by decide +kernel
theorem dX6_firstFor_9 : decode cX6_firstFor 9 = .ok (.invokestatic 69, 3) := by decide +kernel
theorem dX6_firstFor_12 : decode cX6_firstFor 12 = .ok (.ireturn, 1) := by decide +kernel
theorem dX6_agrees_0 : decode cX6_agrees 0 = .ok (.aload_n 0, 1) := by decide +kernel
theorem dX6_agrees_1 : decode cX6_agrees 1 = .ok (.getfield 9, 3) := by decide +kernel
theorem dX6_agrees_4 : decode cX6_agrees 4 = .ok (.iload_n 1, 1) := by decide +kernel
theorem dX6_agrees_5 : decode cX6_agrees 5 = .ok (.iaload, 1) := by decide +kernel
theorem dX6_agrees_6 : decode cX6_agrees 6 = .ok (.aload_n 0, 1) := by decide +kernel
theorem dX6_agrees_7 : decode cX6_agrees 7 = .ok (.getfield 33, 3) := by decide +kernel
theorem dX6_agrees_10 : decode cX6_agrees 10 = .ok (.ishr, 1) := by decide +kernel
theorem dX6_agrees_11 : decode cX6_agrees 11 = .ok (.iload_n 2, 1) := by decide +kernel
theorem dX6_agrees_12 : decode cX6_agrees 12 = .ok (.aload_n 0, 1) := by decide +kernel
theorem dX6_agrees_13 : decode cX6_agrees 13 = .ok (.getfield 33, 3) := by decide +kernel
theorem dX6_agrees_16 : decode cX6_agrees 16 = .ok (.ishr, 1) := by decide +kernel
theorem dX6_agrees_17 : decode cX6_agrees 17 = .ok (.if_icmp .ne 7, 3) := by decide +kernel
theorem dX6_agrees_20 : decode cX6_agrees 20 = .ok (.iconst 1, 1) := by decide +kernel
theorem dX6_agrees_21 : decode cX6_agrees 21 = .ok (.goto 4, 3) := by decide +kernel
theorem dX6_agrees_24 : decode cX6_agrees 24 = .ok (.iconst 0, 1) := by decide +kernel
theorem dX6_agrees_25 : decode cX6_agrees 25 = .ok (.ireturn, 1) := by decide +kernel
theorem dX6_extended_0 : decode cX6_extended 0 = .ok (.lload_n 1, 1) := by decide +kernel
theorem dX6_extended_1 : decode cX6_extended 1 = .ok (.lstore 4, 2) := by decide +kernel
theorem dX6_extended_3 : decode cX6_extended 3 = .ok (.iconst 0, 1) := by decide +kernel
theorem dX6_extended_4 : decode cX6_extended 4 = .ok (.istore 6, 2) := by decide +kernel
theorem dX6_extended_6 : decode cX6_extended 6 = .ok (.iload 6, 2) := by decide +kernel
theorem dX6_extended_8 : decode cX6_extended 8 = .ok (.iconst 3, 1) := by decide +kernel
theorem dX6_extended_9 : decode cX6_extended 9 = .ok (.if_icmp .ge 52, 3) := by decide +kernel
theorem dX6_extended_12 : decode cX6_extended 12 = .ok (.aload_n 0, 1) := by decide +kernel
theorem dX6_extended_13 : decode cX6_extended 13 = .ok (.getfield 15, 3) := by decide +kernel
theorem dX6_extended_16 : decode cX6_extended 16 = .ok (.iload 6, 2) := by decide +kernel
theorem dX6_extended_18 : decode cX6_extended 18 = .ok (.iaload, 1) := by decide +kernel
theorem dX6_extended_19 : decode cX6_extended 19 = .ok (.ifCond .ge 36, 3) := by decide +kernel
theorem dX6_extended_22 : decode cX6_extended 22 = .ok (.lload 4, 2) := by decide +kernel
theorem dX6_extended_24 : decode cX6_extended 24 = .ok (.aload_n 0, 1) := by decide +kernel
theorem dX6_extended_25 : decode cX6_extended 25 = .ok (.getfield 9, 3) := by decide +kernel
theorem dX6_extended_28 : decode cX6_extended 28 = .ok (.iload_n 3, 1) := by decide +kernel
theorem dX6_extended_29 : decode cX6_extended 29 = .ok (.iaload, 1) := by decide +kernel
theorem dX6_extended_30 : decode cX6_extended 30 = .ok (.aload_n 0, 1) := by decide +kernel
