theorem dX7_isTooGreat_67 : decode cX7_isTooGreat 67 = .ok (.iload 5, 2) := by decide +kernel
theorem dX7_isTooGreat_69 : decode cX7_isTooGreat 69 = .ok (.ifCond .ne 32, 3) := by decide +kernel
theorem dX7_isTooGreat_72 : decode cX7_isTooGreat 72 = .ok (.iload_n 0, 1) := by decide +kernel
theorem dX7_isTooGreat_73 : decode cX7_isTooGreat 73 = .ok (.iload_n 1, 1) := by decide +kernel
theorem dX7_isTooGreat_74 : decode cX7_isTooGreat 74 = .ok (.iload_n 2, 1) := by decide +kernel
theorem dX7_isTooGreat_75 : decode cX7_isTooGreat 75 = .ok (.iload_n 3, 1) := by decide +kernel
theorem dX7_isTooGreat_76 : decode cX7_isTooGreat 76 = .ok (.iload_n 3, 1) := by decide +kernel
theorem dX7_isTooGreat_77 : decode cX7_isTooGreat 77 = .ok (.invokestatic 135, 3) := by decide +kernel
theorem dX7_isTooGreat_80 : decode cX7_isTooGreat 80 = .ok (.invokestatic 143, 3) := by decide +kernel
theorem dX7_isTooGreat_83 : decode cX7_isTooGreat 83 = .ok (.ifCond .ne 18, 3) := by decide +kernel
theorem dX7_isTooGreat_86 : decode cX7_isTooGreat 86 = .ok (.iload_n 0, 1) := by decide +kernel
theorem dX7_isTooGreat_87 : decode cX7_isTooGreat 87 = .ok (.iload_n 1, 1) := by decide +kernel
theorem dX7_isTooGreat_88 : decode cX7_isTooGreat 88 = .ok (.iload_n 2, 1) := by decide +kernel
theorem dX7_isTooGreat_89 : decode cX7_isTooGreat 89 = .ok (.iload_n 3, 1) := by decide +kernel
theorem dX7_isTooGreat_90 : decode cX7_isTooGreat 90 = .ok (.iload 4, 2) := by decide +kernel
theorem dX7_isTooGreat_92 : decode cX7_isTooGreat 92 = .ok (.invokestatic 135, 3) := by decide +kernel
theorem dX7_isTooGreat_95 : decode cX7_isTooGreat 95 = .ok (.invokestatic 143, 3) := by decide +kernel
theorem dX7_isTooGreat_98 : decode cX7_isTooGreat 98 = .ok (.ifCond .eq 7, 3) := by decide +kernel
theorem dX7_isTooGreat_101 : decode cX7_isTooGreat 101 = .ok (.iconst 1, 1) := by decide +kernel
theorem dX7_isTooGreat_102 : decode cX7_isTooGreat 102 = .ok (.goto 4, 3) := by decide +kernel
theorem dX7_isTooGreat_105 : decode cX7_isTooGreat 105 = .ok (.iconst 0, 1) := by decide +kernel
theorem dX7_isTooGreat_106 : decode cX7_isTooGreat 106 = .ok (.ireturn, 1) := by decide +kernel
theorem dX7_isBetter_0 : decode cX7_isBetter 0 = .ok (.aload_n 0, 1) := by decide +kernel
theorem dX7_isBetter_1 : decode cX7_isBetter 1 = .ok (.iload_n 1, 1) := by decide +kernel
theorem dX7_isBetter_2 : decode cX7_isBetter 2 = .ok (.iload_n 3, 1) := by decide +kernel
theorem dX7_isBetter_3 : decode cX7_isBetter 3 = .ok (.invokevirtual 147, 3) := by decide +kernel
theorem dX7_isBetter_6 : decode cX7_isBetter 6 = .ok (.lstore 4, 2) := by decide +kernel
theorem dX7_isBetter_8 : decode cX7_isBetter 8 = .ok (.aload_n 0, 1) := by decide +kernel
theorem dX7_isBetter_9 : decode cX7_isBetter 9 = .ok (.iload_n 2, 1) := by decide +kernel
theorem dX7_isBetter_10 : decode cX7_isBetter 10 = .ok (.iload_n 3, 1) := by decide +kernel
theorem dX7_isBetter_11 : decode cX7_isBetter 11 = .ok (.invokevirtual 147, 3) := by decide +kernel
theorem dX7_isBetter_14 : decode cX7_isBetter 14 = .ok (.lstore 6, 2) := by decide +kernel
theorem dX7_isBetter_16 : decode cX7_isBetter 16 = .ok (.lload 4, 2) := by decide +kernel
theorem dX7_isBetter_18 : decode cX7_isBetter 18 = .ok (.lload 6, 2) := by decide +kernel
theorem dX7_isBetter_20 : decode cX7_isBetter 20 = .ok (.lcmp, 1) := by decide +kernel
theorem dX7_isBetter_21 : decode cX7_isBetter 21 = .ok (.ifCond .lt 16, 3) := by decide +kernel
theorem dX7_isBetter_24 : decode cX7_isBetter 24 = .ok (.lload 4, 2) := by decide +kernel
theorem dX7_isBetter_26 : decode cX7_isBetter 26 = .ok (.lload 6, 2) := by decide +kernel
theorem dX7_isBetter_28 : decode cX7_isBetter 28 = .ok (.lcmp, 1) := by decide +kernel
theorem dX7_isBetter_29 : decode cX7_isBetter 29 = .ok (.ifCond .ne 12, 3) := by decide +kernel
theorem dX7_isBetter_32 : decode cX7_isBetter 32 = .ok (.iload_n 1, 1) := by decide +kernel
theorem dX7_isBetter_33 : decode cX7_isBetter 33 = .ok (.iload_n 2, 1) := by decide +kernel
theorem dX7_isBetter_34 : decode cX7_isBetter 34 = .ok (.if_icmp .ge 7, 3) := by decide +kernel
theorem dX7_isBetter_37 : decode cX7_isBetter 37 = .ok (.iconst 1, 1) := by decide +kernel
theorem dX7_isBetter_38 : decode cX7_isBetter 38 = .ok (.goto 4, 3) := by decide +kernel
theorem dX7_isBetter_41 : decode cX7_isBetter 41 = .ok (.iconst 0, 1) := by decide +kernel
theorem dX7_isBetter_42 : decode cX7_isBetter 42 = .ok (.ireturn, 1) := by decide +kernel
theorem dX7_has_0 : decode cX7_has 0 = .ok (.iload_n 2, 1) := by decide +kernel
theorem dX7_has_1 : decode cX7_has 1 = .ok (.aload_n 0, 1) := by decide +kernel
theorem dX7_has_2 : decode cX7_has 2 = .ok (.getfield 19, 3) := by decide +kernel
theorem dX7_has_5 : decode cX7_has 5 = .ok (.iload_n 1, 1) := by decide +kernel
theorem dX7_has_6 : decode cX7_has 6 = .ok (.iaload, 1) := by decide +kernel
theorem dX7_has_7 : decode cX7_has 7 = .ok (.aload_n 0, 1) := by decide +kernel
theorem dX7_has_8 : decode cX7_has 8 = .ok (.getfield 22, 3) := by decide +kernel
theorem dX7_has_11 : decode cX7_has 11 = .ok (.iload_n 1, 1) := by decide +kernel
theorem dX7_has_12 : decode cX7_has 12 = .ok (.iaload, 1) := by decide +kernel
theorem dX7_has_13 : decode cX7_has 13 = .ok (.invokestatic 68, 3) := by decide +kernel
theorem dX7_has_16 : decode cX7_has 16 = .ok (.ireturn, 1) := by decide +kernel
theorem dX7_lengthOf_0 : decode cX7_lengthOf 0 = .ok (.bipush 64, 2) := by decide +kernel
theorem dX7_lengthOf_2 : decode cX7_lengthOf 2 = .ok (.istore_n 1, 1) := by decide +kernel
theorem dX7_lengthOf_3 : decode cX7_lengthOf 3 = .ok (.iload_n 0, 1) := by decide +kernel
theorem dX7_lengthOf_4 : decode cX7_lengthOf 4 = .ok (.istore_n 2, 1) := by decide +kernel
theorem dX7_lengthOf_5 : decode cX7_lengthOf 5 = .ok (.iload_n 2, 1) := by decide +kernel
theorem dX7_lengthOf_6 : decode cX7_lengthOf 6 = .ok (.iconst 1, 1) := by decide +kernel
theorem dX7_lengthOf_7 : decode cX7_lengthOf 7 = .ok (.if_icmp .le 14, 3) := by decide +kernel
theorem dX7_lengthOf_10 : decode cX7_lengthOf 10 = .ok (.iload_n 1, 1) := by decide +kernel
theorem dX7_lengthOf_11 : decode cX7_lengthOf 11 = .ok (.iconst 2, 1) := by decide +kernel
theorem dX7_lengthOf_12 : decode cX7_lengthOf 12 = .ok (.idiv, 1) := by decide +kernel
theorem dX7_lengthOf_13 : decode cX7_lengthOf 13 = .ok (.istore_n 1, 1) := by decide +kernel
theorem dX7_lengthOf_14 : decode cX7_lengthOf 14 = .ok (.iload_n 2, 1) := by decide +kernel
theorem dX7_lengthOf_15 : decode cX7_lengthOf 15 = .ok (.iconst 2, 1) := by decide +kernel
theorem dX7_lengthOf_16 : decode cX7_lengthOf 16 = .ok (.idiv, 1) := by decide +kernel
theorem dX7_lengthOf_17 : decode cX7_lengthOf 17 = .ok (.istore_n 2, 1) := by decide +kernel
theorem dX7_lengthOf_18 : decode cX7_lengthOf 18 = .ok (.goto (-13), 3) := by decide +kernel
theorem dX7_lengthOf_21 : decode cX7_lengthOf 21 = .ok (.iload_n 1, 1) := by decide +kernel
theorem dX7_lengthOf_22 : decode cX7_lengthOf 22 = .ok (.ireturn, 1) := by decide +kernel
theorem dX7_firstAt_0 : decode cX7_firstAt 0 = .ok (.iload_n 0, 1) := by decide +kernel
theorem dX7_firstAt_1 : decode cX7_firstAt 1 = .ok (.invokestatic 150, 3) := by decide +kernel
theorem dX7_firstAt_4 : decode cX7_firstAt 4 = .ok (.istore_n 1, 1) := by decide +kernel
theorem dX7_firstAt_5 : decode cX7_firstAt 5 = .ok (.iload_n 0, 1) := by decide +kernel
theorem dX7_firstAt_6 : decode cX7_firstAt 6 = .ok (.iload_n 1, 1) := by decide +kernel
theorem dX7_firstAt_7 : decode cX7_firstAt 7 = .ok (.imul, 1) := by decide +kernel
theorem dX7_firstAt_8 : decode cX7_firstAt 8 = .ok (.bipush 64, 2) := by decide +kernel
theorem dX7_firstAt_10 : decode cX7_firstAt 10 = .ok (.isub, 1) := by decide +kernel
theorem dX7_firstAt_11 : decode cX7_firstAt 11 = .ok (.ireturn, 1) := by decide +kernel
theorem dX7_lastAt_0 : decode cX7_lastAt 0 = .ok (.iload_n 0, 1) := by decide +kernel
theorem dX7_lastAt_1 : decode cX7_lastAt 1 = .ok (.invokestatic 153, 3) := by decide +kernel
theorem dX7_lastAt_4 : decode cX7_lastAt 4 = .ok (.iload_n 0, 1) := by decide +kernel
theorem dX7_lastAt_5 : decode cX7_lastAt 5 = .ok (.invokestatic 150, 3) := by decide +kernel
theorem dX7_lastAt_8 : decode cX7_lastAt 8 = .ok (.iadd, 1) := by decide +kernel
theorem dX7_lastAt_9 : decode cX7_lastAt 9 = .ok (.iconst 1, 1) := by decide +kernel
theorem dX7_lastAt_10 : decode cX7_lastAt 10 = .ok (.isub, 1) := by decide +kernel
theorem dX7_lastAt_11 : decode cX7_lastAt 11 = .ok (.ireturn, 1) := by decide +kernel
theorem dX7_middleAt_0 : decode cX7_middleAt 0 = .ok (.iload_n 0, 1) := by decide +kernel
theorem dX7_middleAt_1 : decode cX7_middleAt 1 = .ok (.invokestatic 150, 3) := by decide +kernel
theorem dX7_middleAt_4 : decode cX7_middleAt 4 = .ok (.iconst 1, 1) := by decide +kernel
theorem dX7_middleAt_5 : decode cX7_middleAt 5 = .ok (.if_icmp .ne 10, 3) := by decide +kernel
theorem dX7_middleAt_8 : decode cX7_middleAt 8 = .ok (.iload_n 0, 1) := by decide +kernel
theorem dX7_middleAt_9 : decode cX7_middleAt 9 = .ok (.invokestatic 153, 3) := by decide +kernel
theorem dX7_middleAt_12 : decode cX7_middleAt 12 = .ok (.goto 16, 3) := by decide +kernel
theorem dX7_middleAt_15 : decode cX7_middleAt 15 = .ok (.iload_n 0, 1) := by decide +kernel
theorem dX7_middleAt_16 : decode cX7_middleAt 16 = .ok (.invokestatic 153, 3) := by decide +kernel
theorem dX7_middleAt_19 : decode cX7_middleAt 19 = .ok (.iload_n 0, 1) := by decide +kernel
theorem dX7_middleAt_20 : decode cX7_middleAt 20 = .ok (.invokestatic 150, 3) := by decide +kernel
theorem dX7_middleAt_23 : decode cX7_middleAt 23 = .ok (.iconst 2, 1) := by decide +kernel
theorem dX7_middleAt_24 : decode cX7_middleAt 24 = .ok (.idiv, 1) := by decide +kernel
theorem dX7_middleAt_25 : decode cX7_middleAt 25 = .ok (.iadd, 1) := by decide +kernel
theorem dX7_middleAt_26 : decode cX7_middleAt 26 = .ok (.iconst 1, 1) := by decide +kernel
theorem dX7_middleAt_27 : decode cX7_middleAt 27 = .ok (.isub, 1) := by decide +kernel
theorem dX7_middleAt_28 : decode cX7_middleAt 28 = .ok (.ireturn, 1) := by decide +kernel
theorem dX7_push_0 : decode cX7_push 0 = .ok (.iload_n 1, 1) := by decide +kernel
theorem dX7_push_1 : decode cX7_push 1 = .ok (.istore_n 3, 1) := by decide +kernel
theorem dX7_push_2 : decode cX7_push 2 = .ok (.iload_n 2, 1) := by decide +kernel
theorem dX7_push_3 : decode cX7_push 3 = .ok (.istore 4, 2) := by decide +kernel
theorem dX7_push_5 : decode cX7_push 5 = .ok (.iload 4, 2) := by decide +kernel
theorem dX7_push_7 : decode cX7_push 7 = .ok (.iconst (-1), 1) := by decide +kernel
theorem dX7_push_8 : decode cX7_push 8 = .ok (.if_icmp .eq 168, 3) := by decide +kernel
theorem dX7_push_11 : decode cX7_push 11 = .ok (.aload_n 0, 1) := by decide +kernel
theorem dX7_push_12 : decode cX7_push 12 = .ok (.getfield 25, 3) := by decide +kernel
theorem dX7_push_15 : decode cX7_push 15 = .ok (.iload_n 3, 1) := by decide +kernel
theorem dX7_push_16 : decode cX7_push 16 = .ok (.iaload, 1) := by decide +kernel
theorem dX7_push_17 : decode cX7_push 17 = .ok (.iconst (-1), 1) := by decide +kernel
theorem dX7_push_18 : decode cX7_push 18 = .ok (.if_icmp .ne 17, 3) := by decide +kernel
theorem dX7_push_21 : decode cX7_push 21 = .ok (.aload_n 0, 1) := by decide +kernel
theorem dX7_push_22 : decode cX7_push 22 = .ok (.getfield 25, 3) := by decide +kernel
theorem dX7_push_25 : decode cX7_push 25 = .ok (.iload_n 3, 1) := by decide +kernel
theorem dX7_push_26 : decode cX7_push 26 = .ok (.iload 4, 2) := by decide +kernel
theorem dX7_push_28 : decode cX7_push 28 = .ok (.iastore, 1) := by decide +kernel
theorem dX7_push_29 : decode cX7_push 29 = .ok (.iconst (-1), 1) := by decide +kernel
theorem dX7_push_30 : decode cX7_push 30 = .ok (.istore 4, 2) := by decide +kernel
theorem dX7_push_32 : decode cX7_push 32 = .ok (.goto (-27), 3) := by decide +kernel
theorem dX7_push_35 : decode cX7_push 35 = .ok (.aload_n 0, 1) := by decide +kernel
theorem dX7_push_36 : decode cX7_push 36 = .ok (.getfield 25, 3) := by decide +kernel
theorem dX7_push_39 : decode cX7_push 39 = .ok (.iload_n 3, 1) := by decide +kernel
theorem dX7_push_40 : decode cX7_push 40 = .ok (.iaload, 1) := by decide +kernel
theorem dX7_push_41 : decode cX7_push 41 = .ok (.istore 5, 2) := by decide +kernel
theorem dX7_push_43 : decode cX7_push 43 = .ok (.aload_n 0, 1) := by decide +kernel
theorem dX7_push_44 : decode cX7_push 44 = .ok (.iload 4, 2) := by decide +kernel
theorem dX7_push_46 : decode cX7_push 46 = .ok (.iload 5, 2) := by decide +kernel
theorem dX7_push_48 : decode cX7_push 48 = .ok (.iload_n 3, 1) := by decide +kernel
theorem dX7_push_49 : decode cX7_push 49 = .ok (.invokestatic 156, 3) := by decide +kernel
theorem dX7_push_52 : decode cX7_push 52 = .ok (.invokevirtual 159, 3) := by decide +kernel
theorem dX7_push_55 : decode cX7_push 55 = .ok (.istore 6, 2) := by decide +kernel
theorem dX7_push_57 : decode cX7_push 57 = .ok (.aload_n 0, 1) := by decide +kernel
theorem dX7_push_58 : decode cX7_push 58 = .ok (.getfield 25, 3) := by decide +kernel
theorem dX7_push_61 : decode cX7_push 61 = .ok (.iload_n 3, 1) := by decide +kernel
theorem dX7_push_62 : decode cX7_push 62 = .ok (.iload 6, 2) := by decide +kernel
theorem dX7_push_64 : decode cX7_push 64 = .ok (.ifCond .eq 8, 3) := by decide +kernel
theorem dX7_push_67 : decode cX7_push 67 = .ok (.iload 4, 2) := by decide +kernel
theorem dX7_push_69 : decode cX7_push 69 = .ok (.goto 5, 3) := by decide +kernel
theorem dX7_push_72 : decode cX7_push 72 = .ok (.iload 5, 2) := by decide +kernel
theorem dX7_push_74 : decode cX7_push 74 = .ok (.iastore, 1) := by decide +kernel
theorem dX7_push_75 : decode cX7_push 75 = .ok (.iload 6, 2) := by decide +kernel
theorem dX7_push_77 : decode cX7_push 77 = .ok (.ifCond .eq 8, 3) := by decide +kernel
theorem dX7_push_80 : decode cX7_push 80 = .ok (.iload 5, 2) := by decide +kernel
theorem dX7_push_82 : decode cX7_push 82 = .ok (.goto 5, 3) := by decide +kernel
theorem dX7_push_85 : decode cX7_push 85 = .ok (.iload 4, 2) := by decide +kernel
theorem dX7_push_87 : decode cX7_push 87 = .ok (.istore 4, 2) := by decide +kernel
theorem dX7_push_89 : decode cX7_push 89 = .ok (.aload_n 0, 1) := by decide +kernel
theorem dX7_push_90 : decode cX7_push 90 = .ok (.iload 4, 2) := by decide +kernel
theorem dX7_push_92 : decode cX7_push 92 = .ok (.aload_n 0, 1) := by decide +kernel
theorem dX7_push_93 : decode cX7_push 93 = .ok (.getfield 25, 3) := by decide +kernel
theorem dX7_push_96 : decode cX7_push 96 = .ok (.iload_n 3, 1) := by decide +kernel
theorem dX7_push_97 : decode cX7_push 97 = .ok (.iaload, 1) := by decide +kernel
theorem dX7_push_98 : decode cX7_push 98 = .ok (.iload_n 3, 1) := by decide +kernel
theorem dX7_push_99 : decode cX7_push 99 = .ok (.invokestatic 153, 3) := by decide +kernel
theorem dX7_push_102 : decode cX7_push 102 = .ok (.invokevirtual 159, 3) := by decide +kernel
theorem dX7_push_105 : decode cX7_push 105 = .ok (.istore 7, 2) := by decide +kernel
theorem dX7_push_107 : decode cX7_push 107 = .ok (.iload 7, 2) := by decide +kernel
theorem dX7_push_109 : decode cX7_push 109 = .ok (.ifCond .ne 26, 3) := by decide +kernel
theorem dX7_push_112 : decode cX7_push 112 = .ok (.aload_n 0, 1) := by decide +kernel
theorem dX7_push_113 : decode cX7_push 113 = .ok (.iload 4, 2) := by decide +kernel
theorem dX7_push_115 : decode cX7_push 115 = .ok (.aload_n 0, 1) := by decide +kernel
theorem dX7_push_116 : decode cX7_push 116 = .ok (.getfield 25, 3) := by decide +kernel
theorem dX7_push_119 : decode cX7_push 119 = .ok (.iload_n 3, 1) := by decide +kernel
theorem dX7_push_120 : decode cX7_push 120 = .ok (.iaload, 1) := by decide +kernel
theorem dX7_push_121 : decode cX7_push 121 = .ok (.iload_n 3, 1) := by decide +kernel
theorem dX7_push_122 : decode cX7_push 122 = .ok (.invokestatic 162, 3) := by decide +kernel
theorem dX7_push_125 : decode cX7_push 125 = .ok (.invokevirtual 159, 3) := by decide +kernel
theorem dX7_push_128 : decode cX7_push 128 = .ok (.ifCond .eq 7, 3) := by decide +kernel
theorem dX7_push_131 : decode cX7_push 131 = .ok (.iconst 1, 1) := by decide +kernel
theorem dX7_push_132 : decode cX7_push 132 = .ok (.goto 4, 3) := by decide +kernel
theorem dX7_push_135 : decode cX7_push 135 = .ok (.iconst 0, 1) := by decide +kernel
theorem dX7_push_136 : decode cX7_push 136 = .ok (.istore 8, 2) := by decide +kernel
theorem dX7_push_138 : decode cX7_push 138 = .ok (.iload 7, 2) := by decide +kernel
theorem dX7_push_140 : decode cX7_push 140 = .ok (.ifCond .ne 8, 3) := by decide +kernel
theorem dX7_push_143 : decode cX7_push 143 = .ok (.iload 8, 2) := by decide +kernel
theorem dX7_push_145 : decode cX7_push 145 = .ok (.ifCond .eq 8, 3) := by decide +kernel
theorem dX7_push_148 : decode cX7_push 148 = .ok (.iload 4, 2) := by decide +kernel
theorem dX7_push_150 : decode cX7_push 150 = .ok (.goto 4, 3) := by decide +kernel
theorem dX7_push_153 : decode cX7_push 153 = .ok (.iconst (-1), 1) := by decide +kernel
theorem dX7_push_154 : decode cX7_push 154 = .ok (.istore 4, 2) := by decide +kernel
theorem dX7_push_156 : decode cX7_push 156 = .ok (.iload 7, 2) := by decide +kernel
theorem dX7_push_158 : decode cX7_push 158 = .ok (.ifCond .eq 9, 3) := by decide +kernel
theorem dX7_push_161 : decode cX7_push 161 = .ok (.iconst 2, 1) := by decide +kernel
theorem dX7_push_162 : decode cX7_push 162 = .ok (.iload_n 3, 1) := by decide +kernel
theorem dX7_push_163 : decode cX7_push 163 = .ok (.imul, 1) := by decide +kernel
theorem dX7_push_164 : decode cX7_push 164 = .ok (.goto 8, 3) := by decide +kernel
theorem dX7_push_167 : decode cX7_push 167 = .ok (.iconst 2, 1) := by decide +kernel
theorem dX7_push_168 : decode cX7_push 168 = .ok (.iload_n 3, 1) := by decide +kernel
theorem dX7_push_169 : decode cX7_push 169 = .ok (.imul, 1) := by decide +kernel
theorem dX7_push_170 : decode cX7_push 170 = .ok (.iconst 1, 1) := by decide +kernel
theorem dX7_push_171 : decode cX7_push 171 = .ok (.iadd, 1) := by decide +kernel
theorem dX7_push_172 : decode cX7_push 172 = .ok (.istore_n 3, 1) := by decide +kernel
theorem dX7_push_173 : decode cX7_push 173 = .ok (.goto (-168), 3) := by decide +kernel
theorem dX7_push_176 : decode cX7_push 176 = .ok (.return_, 1) := by decide +kernel
theorem dX7_isAll_0 : decode cX7_isAll 0 = .ok (.iload_n 1, 1) := by decide +kernel
theorem dX7_isAll_1 : decode cX7_isAll 1 = .ok (.ifCond .le 33, 3) := by decide +kernel
theorem dX7_isAll_4 : decode cX7_isAll 4 = .ok (.iload_n 1, 1) := by decide +kernel
theorem dX7_isAll_5 : decode cX7_isAll 5 = .ok (.invokestatic 153, 3) := by decide +kernel
theorem dX7_isAll_8 : decode cX7_isAll 8 = .ok (.aload_n 0, 1) := by decide +kernel
theorem dX7_isAll_9 : decode cX7_isAll 9 = .ok (.getfield 19, 3) := by decide +kernel
theorem dX7_isAll_12 : decode cX7_isAll 12 = .ok (.iload_n 2, 1) := by decide +kernel
theorem dX7_isAll_13 : decode cX7_isAll 13 = .ok (.iaload, 1) := by decide +kernel
theorem dX7_isAll_14 : decode cX7_isAll 14 = .ok (.if_icmp .lt 20, 3) := by decide +kernel
theorem dX7_isAll_17 : decode cX7_isAll 17 = .ok (.iload_n 1, 1) := by decide +kernel
theorem dX7_isAll_18 : decode cX7_isAll 18 = .ok (.invokestatic 162, 3) := by decide +kernel
theorem dX7_isAll_21 : decode cX7_isAll 21 = .ok (.aload_n 0, 1) := by decide +kernel
theorem dX7_isAll_22 : decode cX7_isAll 22 = .ok (.getfield 22, 3) := by decide +kernel
theorem dX7_isAll_25 : decode cX7_isAll 25 = .ok (.iload_n 2, 1) := by decide +kernel
theorem dX7_isAll_26 : decode cX7_isAll 26 = .ok (.iaload, 1) := by decide +kernel
theorem dX7_isAll_27 : decode cX7_isAll 27 = .ok (.if_icmp .gt 7, 3) := by decide +kernel
theorem dX7_isAll_30 : decode cX7_isAll 30 = .ok (.iconst 1, 1) := by decide +kernel
theorem dX7_isAll_31 : decode cX7_isAll 31 = .ok (.goto 4, 3) := by decide +kernel
theorem dX7_isAll_34 : decode cX7_isAll 34 = .ok (.iconst 0, 1) := by decide +kernel
theorem dX7_isAll_35 : decode cX7_isAll 35 = .ok (.ireturn, 1) := by decide +kernel
theorem dX7_offerNow_0 : decode cX7_offerNow 0 = .ok (.aload_n 0, 1) := by decide +kernel
theorem dX7_offerNow_1 : decode cX7_offerNow 1 = .ok (.getfield 19, 3) := by decide +kernel
theorem dX7_offerNow_4 : decode cX7_offerNow 4 = .ok (.iload_n 1, 1) := by decide +kernel
theorem dX7_offerNow_5 : decode cX7_offerNow 5 = .ok (.iaload, 1) := by decide +kernel
theorem dX7_offerNow_6 : decode cX7_offerNow 6 = .ok (.istore_n 2, 1) := by decide +kernel
theorem dX7_offerNow_7 : decode cX7_offerNow 7 = .ok (.iload_n 2, 1) := by decide +kernel
theorem dX7_offerNow_8 : decode cX7_offerNow 8 = .ok (.aload_n 0, 1) := by decide +kernel
theorem dX7_offerNow_9 : decode cX7_offerNow 9 = .ok (.getfield 22, 3) := by decide +kernel
theorem dX7_offerNow_12 : decode cX7_offerNow 12 = .ok (.iload_n 1, 1) := by decide +kernel
theorem dX7_offerNow_13 : decode cX7_offerNow 13 = .ok (.iaload, 1) := by decide +kernel
theorem dX7_offerNow_14 : decode cX7_offerNow 14 = .ok (.if_icmp .gt 42, 3) := by decide +kernel
theorem dX7_offerNow_17 : decode cX7_offerNow 17 = .ok (.bipush 64, 2) := by decide +kernel
theorem dX7_offerNow_19 : decode cX7_offerNow 19 = .ok (.iload_n 2, 1) := by decide +kernel
theorem dX7_offerNow_20 : decode cX7_offerNow 20 = .ok (.iadd, 1) := by decide +kernel
theorem dX7_offerNow_21 : decode cX7_offerNow 21 = .ok (.istore_n 3, 1) := by decide +kernel
theorem dX7_offerNow_22 : decode cX7_offerNow 22 = .ok (.aload_n 0, 1) := by decide +kernel
theorem dX7_offerNow_23 : decode cX7_offerNow 23 = .ok (.iload_n 3, 1) := by decide +kernel
theorem dX7_offerNow_24 : decode cX7_offerNow 24 = .ok (.iconst 2, 1) := by decide +kernel
theorem dX7_offerNow_25 : decode cX7_offerNow 25 = .ok (.idiv, 1) := by decide +kernel
theorem dX7_offerNow_26 : decode cX7_offerNow 26 = .ok (.iload_n 1, 1) := by decide +kernel
theorem dX7_offerNow_27 : decode cX7_offerNow 27 = .ok (.invokevirtual 165, 3) := by decide +kernel
theorem dX7_offerNow_30 : decode cX7_offerNow 30 = .ok (.ifCond .eq 10, 3) := by decide +kernel
theorem dX7_offerNow_33 : decode cX7_offerNow 33 = .ok (.iload_n 3, 1) := by decide +kernel
theorem dX7_offerNow_34 : decode cX7_offerNow 34 = .ok (.iconst 2, 1) := by decide +kernel
theorem dX7_offerNow_35 : decode cX7_offerNow 35 = .ok (.idiv, 1) := by decide +kernel
theorem dX7_offerNow_36 : decode cX7_offerNow 36 = .ok (.istore_n 3, 1) := by decide +kernel
theorem dX7_offerNow_37 : decode cX7_offerNow 37 = .ok (.goto (-15), 3) := by decide +kernel
theorem dX7_offerNow_40 : decode cX7_offerNow 40 = .ok (.aload_n 0, 1) := by decide +kernel
theorem dX7_offerNow_41 : decode cX7_offerNow 41 = .ok (.iload_n 3, 1) := by decide +kernel
theorem dX7_offerNow_42 : decode cX7_offerNow 42 = .ok (.iload_n 1, 1) := by decide +kernel
theorem dX7_offerNow_43 : decode cX7_offerNow 43 = .ok (.invokevirtual 168, 3) := by decide +kernel
theorem dX7_offerNow_46 : decode cX7_offerNow 46 = .ok (.iload_n 3, 1) := by decide +kernel
theorem dX7_offerNow_47 : decode cX7_offerNow 47 = .ok (.invokestatic 162, 3) := by decide +kernel
theorem dX7_offerNow_50 : decode cX7_offerNow 50 = .ok (.iconst 1, 1) := by decide +kernel
theorem dX7_offerNow_51 : decode cX7_offerNow 51 = .ok (.iadd, 1) := by decide +kernel
theorem dX7_offerNow_52 : decode cX7_offerNow 52 = .ok (.istore_n 2, 1) := by decide +kernel
theorem dX7_offerNow_53 : decode cX7_offerNow 53 = .ok (.goto (-46), 3) := by decide +kernel
theorem dX7_offerNow_56 : decode cX7_offerNow 56 = .ok (.return_, 1) := by decide +kernel
theorem dX7_take_0 : decode cX7_take 0 = .ok (.aload_n 0, 1) := by decide +kernel
theorem dX7_take_1 : decode cX7_take 1 = .ok (.getfield 7, 3) := by decide +kernel
theorem dX7_take_4 : decode cX7_take 4 = .ok (.aload_n 0, 1) := by decide +kernel
theorem dX7_take_5 : decode cX7_take 5 = .ok (.getfield 108, 3) := by decide +kernel
theorem dX7_take_8 : decode cX7_take 8 = .ok (.iload_n 1, 1) := by decide +kernel
theorem dX7_take_9 : decode cX7_take 9 = .ok (.iastore, 1) := by decide +kernel
theorem dX7_take_10 : decode cX7_take 10 = .ok (.aload_n 0, 1) := by decide +kernel
theorem dX7_take_11 : decode cX7_take 11 = .ok (.getfield 13, 3) := by decide +kernel
theorem dX7_take_14 : decode cX7_take 14 = .ok (.aload_n 0, 1) := by decide +kernel
theorem dX7_take_15 : decode cX7_take 15 = .ok (.getfield 108, 3) := by decide +kernel
theorem dX7_take_18 : decode cX7_take 18 = .ok (.iload_n 2, 1) := by decide +kernel
theorem dX7_take_19 : decode cX7_take 19 = .ok (.iastore, 1) := by decide +kernel
theorem dX7_take_20 : decode cX7_take 20 = .ok (.aload_n 0, 1) := by decide +kernel
theorem dX7_take_21 : decode cX7_take 21 = .ok (.getfield 16, 3) := by decide +kernel
theorem dX7_take_24 : decode cX7_take 24 = .ok (.aload_n 0, 1) := by decide +kernel
theorem dX7_take_25 : decode cX7_take 25 = .ok (.getfield 108, 3) := by decide +kernel
theorem dX7_take_28 : decode cX7_take 28 = .ok (.iload_n 3, 1) := by decide +kernel
theorem dX7_take_29 : decode cX7_take 29 = .ok (.iastore, 1) := by decide +kernel
theorem dX7_take_30 : decode cX7_take 30 = .ok (.aload_n 0, 1) := by decide +kernel
theorem dX7_take_31 : decode cX7_take 31 = .ok (.getfield 19, 3) := by decide +kernel
theorem dX7_take_34 : decode cX7_take 34 = .ok (.aload_n 0, 1) := by decide +kernel
theorem dX7_take_35 : decode cX7_take 35 = .ok (.getfield 108, 3) := by decide +kernel
theorem dX7_take_38 : decode cX7_take 38 = .ok (.iload 4, 2) := by decide +kernel
theorem dX7_take_40 : decode cX7_take 40 = .ok (.iastore, 1) := by decide +kernel
theorem dX7_take_41 : decode cX7_take 41 = .ok (.aload_n 0, 1) := by decide +kernel
theorem dX7_take_42 : decode cX7_take 42 = .ok (.getfield 22, 3) := by decide +kernel
theorem dX7_take_45 : decode cX7_take 45 = .ok (.aload_n 0, 1) := by decide +kernel
theorem dX7_take_46 : decode cX7_take 46 = .ok (.getfield 108, 3) := by decide +kernel
theorem dX7_take_49 : decode cX7_take 49 = .ok (.iload 5, 2) := by decide +kernel
theorem dX7_take_51 : decode cX7_take 51 = .ok (.iastore, 1) := by decide +kernel
theorem dX7_take_52 : decode cX7_take 52 = .ok (.aload_n 0, 1) := by decide +kernel
theorem dX7_take_53 : decode cX7_take 53 = .ok (.dup, 1) := by decide +kernel
theorem dX7_take_54 : decode cX7_take 54 = .ok (.getfield 108, 3) := by decide +kernel
theorem dX7_take_57 : decode cX7_take 57 = .ok (.iconst 1, 1) := by decide +kernel
theorem dX7_take_58 : decode cX7_take 58 = .ok (.iadd, 1) := by decide +kernel
theorem dX7_take_59 : decode cX7_take 59 = .ok (.putfield 108, 3) := by decide +kernel
theorem dX7_take_62 : decode cX7_take 62 = .ok (.aload_n 0, 1) := by decide +kernel
theorem dX7_take_63 : decode cX7_take 63 = .ok (.aload_n 0, 1) := by decide +kernel
theorem dX7_take_64 : decode cX7_take 64 = .ok (.getfield 108, 3) := by decide +kernel
theorem dX7_take_67 : decode cX7_take 67 = .ok (.iconst 1, 1) := by decide +kernel
theorem dX7_take_68 : decode cX7_take 68 = .ok (.isub, 1) := by decide +kernel
theorem dX7_take_69 : decode cX7_take 69 = .ok (.invokevirtual 172, 3) := by decide +kernel
theorem dX7_take_72 : decode cX7_take 72 = .ok (.return_, 1) := by decide +kernel
theorem dX7_again_0 : decode cX7_again 0 = .ok (.aload_n 0, 1) := by decide +kernel
theorem dX7_again_1 : decode cX7_again 1 = .ok (.iload_n 1, 1) := by decide +kernel
theorem dX7_again_2 : decode cX7_again 2 = .ok (.putfield 108, 3) := by decide +kernel
theorem dX7_again_5 : decode cX7_again 5 = .ok (.iconst 0, 1) := by decide +kernel
theorem dX7_again_6 : decode cX7_again 6 = .ok (.istore_n 2, 1) := by decide +kernel
theorem dX7_again_7 : decode cX7_again 7 = .ok (.iload_n 2, 1) := by decide +kernel
theorem dX7_again_8 : decode cX7_again 8 = .ok (.sipush 128, 3) := by decide +kernel
theorem dX7_again_11 : decode cX7_again 11 = .ok (.if_icmp .ge 16, 3) := by decide +kernel
theorem dX7_again_14 : decode cX7_again 14 = .ok (.aload_n 0, 1) := by decide +kernel
theorem dX7_again_15 : decode cX7_again 15 = .ok (.getfield 25, 3) := by decide +kernel
theorem dX7_again_18 : decode cX7_again 18 = .ok (.iload_n 2, 1) := by decide +kernel
theorem dX7_again_19 : decode cX7_again 19 = .ok (.iconst (-1), 1) := by decide +kernel
theorem dX7_again_20 : decode cX7_again 20 = .ok (.iastore, 1) := by decide +kernel
theorem dX7_again_21 : decode cX7_again 21 = .ok (.iinc 2 1, 3) := by decide +kernel
theorem dX7_again_24 : decode cX7_again 24 = .ok (.goto (-17), 3) := by decide +kernel
theorem dX7_again_27 : decode cX7_again 27 = .ok (.iconst 0, 1) := by decide +kernel
theorem dX7_again_28 : decode cX7_again 28 = .ok (.istore_n 2, 1) := by decide +kernel
theorem dX7_again_29 : decode cX7_again 29 = .ok (.iload_n 2, 1) := by decide +kernel
theorem dX7_again_30 : decode cX7_again 30 = .ok (.iload_n 1, 1) := by decide +kernel
theorem dX7_again_31 : decode cX7_again 31 = .ok (.if_icmp .ge 14, 3) := by decide +kernel
theorem dX7_again_34 : decode cX7_again 34 = .ok (.aload_n 0, 1) := by decide +kernel
theorem dX7_again_35 : decode cX7_again 35 = .ok (.iload_n 2, 1) := by decide +kernel
theorem dX7_again_36 : decode cX7_again 36 = .ok (.invokevirtual 172, 3) := by decide +kernel
theorem dX7_again_39 : decode cX7_again 39 = .ok (.iinc 2 1, 3) := by decide +kernel
theorem dX7_again_42 : decode cX7_again 42 = .ok (.goto (-13), 3) := by decide +kernel
theorem dX7_again_45 : decode cX7_again 45 = .ok (.return_, 1) := by decide +kernel
theorem dX7_cheapestFor_0 : decode cX7_cheapestFor 0 = .ok (.iconst (-1), 1) := by decide +kernel
theorem dX7_cheapestFor_1 : decode cX7_cheapestFor 1 = .ok (.istore_n 2, 1) := by decide +kernel
theorem dX7_cheapestFor_2 : decode cX7_cheapestFor 2 = .ok (.bipush 64, 2) := by decide +kernel
theorem dX7_cheapestFor_4 : decode cX7_cheapestFor 4 = .ok (.iload_n 1, 1) := by decide +kernel
theorem dX7_cheapestFor_5 : decode cX7_cheapestFor 5 = .ok (.iadd, 1) := by decide +kernel
theorem dX7_cheapestFor_6 : decode cX7_cheapestFor 6 = .ok (.istore_n 3, 1) := by decide +kernel
theorem dX7_cheapestFor_7 : decode cX7_cheapestFor 7 = .ok (.iload_n 3, 1) := by decide +kernel
theorem dX7_cheapestFor_8 : decode cX7_cheapestFor 8 = .ok (.ifCond .le 47, 3) := by decide +kernel
theorem dX7_cheapestFor_11 : decode cX7_cheapestFor 11 = .ok (.aload_n 0, 1) := by decide +kernel
theorem dX7_cheapestFor_12 : decode cX7_cheapestFor 12 = .ok (.getfield 25, 3) := by decide +kernel
theorem dX7_cheapestFor_15 : decode cX7_cheapestFor 15 = .ok (.iload_n 3, 1) := by decide +kernel
theorem dX7_cheapestFor_16 : decode cX7_cheapestFor 16 = .ok (.iaload, 1) := by decide +kernel
theorem dX7_cheapestFor_17 : decode cX7_cheapestFor 17 = .ok (.istore 4, 2) := by decide +kernel
theorem dX7_cheapestFor_19 : decode cX7_cheapestFor 19 = .ok (.iload 4, 2) := by decide +kernel
theorem dX7_cheapestFor_21 : decode cX7_cheapestFor 21 = .ok (.iconst (-1), 1) := by decide +kernel
theorem dX7_cheapestFor_22 : decode cX7_cheapestFor 22 = .ok (.if_icmp .eq 24, 3) := by decide +kernel
theorem dX7_cheapestFor_25 : decode cX7_cheapestFor 25 = .ok (.iload_n 2, 1) := by decide +kernel
theorem dX7_cheapestFor_26 : decode cX7_cheapestFor 26 = .ok (.iconst (-1), 1) := by decide +kernel
theorem dX7_cheapestFor_27 : decode cX7_cheapestFor 27 = .ok (.if_icmp .eq 14, 3) := by decide +kernel
theorem dX7_cheapestFor_30 : decode cX7_cheapestFor 30 = .ok (.aload_n 0, 1) := by decide +kernel
theorem dX7_cheapestFor_31 : decode cX7_cheapestFor 31 = .ok (.iload 4, 2) := by decide +kernel
theorem dX7_cheapestFor_33 : decode cX7_cheapestFor 33 = .ok (.iload_n 2, 1) := by decide +kernel
theorem dX7_cheapestFor_34 : decode cX7_cheapestFor 34 = .ok (.iload_n 1, 1) := by decide +kernel
theorem dX7_cheapestFor_35 : decode cX7_cheapestFor 35 = .ok (.invokevirtual 159, 3) := by decide +kernel
theorem dX7_cheapestFor_38 : decode cX7_cheapestFor 38 = .ok (.ifCond .eq 8, 3) := by decide +kernel
theorem dX7_cheapestFor_41 : decode cX7_cheapestFor 41 = .ok (.iload 4, 2) := by decide +kernel
theorem dX7_cheapestFor_43 : decode cX7_cheapestFor 43 = .ok (.goto 4, 3) := by decide +kernel
theorem dX7_cheapestFor_46 : decode cX7_cheapestFor 46 = .ok (.iload_n 2, 1) := by decide +kernel
theorem dX7_cheapestFor_47 : decode cX7_cheapestFor 47 = .ok (.istore_n 2, 1) := by decide +kernel
theorem dX7_cheapestFor_48 : decode cX7_cheapestFor 48 = .ok (.iload_n 3, 1) := by decide +kernel
theorem dX7_cheapestFor_49 : decode cX7_cheapestFor 49 = .ok (.iconst 2, 1) := by decide +kernel
theorem dX7_cheapestFor_50 : decode cX7_cheapestFor 50 = .ok (.idiv, 1) := by decide +kernel
theorem dX7_cheapestFor_51 : decode cX7_cheapestFor 51 = .ok (.istore_n 3, 1) := by decide +kernel
theorem dX7_cheapestFor_52 : decode cX7_cheapestFor 52 = .ok (.goto (-45), 3) := by decide +kernel
theorem dX7_cheapestFor_55 : decode cX7_cheapestFor 55 = .ok (.iload_n 2, 1) := by decide +kernel
theorem dX7_cheapestFor_56 : decode cX7_cheapestFor 56 = .ok (.ireturn, 1) := by decide +kernel
theorem dX7_nodesOf_0 : decode cX7_nodesOf 0 = .ok (.iconst 0, 1) := by decide +kernel
theorem dX7_nodesOf_1 : decode cX7_nodesOf 1 = .ok (.istore_n 2, 1) := by decide +kernel
theorem dX7_nodesOf_2 : decode cX7_nodesOf 2 = .ok (.iconst 1, 1) := by decide +kernel
theorem dX7_nodesOf_3 : decode cX7_nodesOf 3 = .ok (.istore_n 3, 1) := by decide +kernel
theorem dX7_nodesOf_4 : decode cX7_nodesOf 4 = .ok (.iload_n 3, 1) := by decide +kernel
theorem dX7_nodesOf_5 : decode cX7_nodesOf 5 = .ok (.sipush 128, 3) := by decide +kernel
theorem dX7_nodesOf_8 : decode cX7_nodesOf 8 = .ok (.if_icmp .ge 27, 3) := by decide +kernel
theorem dX7_nodesOf_11 : decode cX7_nodesOf 11 = .ok (.iload_n 2, 1) := by decide +kernel
theorem dX7_nodesOf_12 : decode cX7_nodesOf 12 = .ok (.aload_n 0, 1) := by decide +kernel
theorem dX7_nodesOf_13 : decode cX7_nodesOf 13 = .ok (.getfield 25, 3) := by decide +kernel
theorem dX7_nodesOf_16 : decode cX7_nodesOf 16 = .ok (.iload_n 3, 1) := by decide +kernel
theorem dX7_nodesOf_17 : decode cX7_nodesOf 17 = .ok (.iaload, 1) := by decide +kernel
theorem dX7_nodesOf_18 : decode cX7_nodesOf 18 = .ok (.iload_n 1, 1) := by decide +kernel
theorem dX7_nodesOf_19 : decode cX7_nodesOf 19 = .ok (.if_icmp .ne 7, 3) := by decide +kernel
theorem dX7_nodesOf_22 : decode cX7_nodesOf 22 = .ok (.iconst 1, 1) := by decide +kernel
theorem dX7_nodesOf_23 : decode cX7_nodesOf 23 = .ok (.goto 4, 3) := by decide +kernel
theorem dX7_nodesOf_26 : decode cX7_nodesOf 26 = .ok (.iconst 0, 1) := by decide +kernel
theorem dX7_nodesOf_27 : decode cX7_nodesOf 27 = .ok (.iadd, 1) := by decide +kernel
theorem dX7_nodesOf_28 : decode cX7_nodesOf 28 = .ok (.istore_n 2, 1) := by decide +kernel
theorem dX7_nodesOf_29 : decode cX7_nodesOf 29 = .ok (.iinc 3 1, 3) := by decide +kernel
theorem dX7_nodesOf_32 : decode cX7_nodesOf 32 = .ok (.goto (-28), 3) := by decide +kernel
theorem dX7_nodesOf_35 : decode cX7_nodesOf 35 = .ok (.iload_n 2, 1) := by decide +kernel
theorem dX7_nodesOf_36 : decode cX7_nodesOf 36 = .ok (.ireturn, 1) := by decide +kernel
theorem dX7_quantitiesOf_0 : decode cX7_quantitiesOf 0 = .ok (.iconst 0, 1) := by decide +kernel
theorem dX7_quantitiesOf_1 : decode cX7_quantitiesOf 1 = .ok (.istore_n 2, 1) := by decide +kernel
theorem dX7_quantitiesOf_2 : decode cX7_quantitiesOf 2 = .ok (.iconst 0, 1) := by decide +kernel
theorem dX7_quantitiesOf_3 : decode cX7_quantitiesOf 3 = .ok (.istore_n 3, 1) := by decide +kernel
theorem dX7_quantitiesOf_4 : decode cX7_quantitiesOf 4 = .ok (.iload_n 3, 1) := by decide +kernel
theorem dX7_quantitiesOf_5 : decode cX7_quantitiesOf 5 = .ok (.bipush 64, 2) := by decide +kernel
theorem dX7_quantitiesOf_7 : decode cX7_quantitiesOf 7 = .ok (.if_icmp .ge 26, 3) := by decide +kernel
theorem dX7_quantitiesOf_10 : decode cX7_quantitiesOf 10 = .ok (.iload_n 2, 1) := by decide +kernel
theorem dX7_quantitiesOf_11 : decode cX7_quantitiesOf 11 = .ok (.aload_n 0, 1) := by decide +kernel
theorem dX7_quantitiesOf_12 : decode cX7_quantitiesOf 12 = .ok (.iload_n 3, 1) := by decide +kernel
theorem dX7_quantitiesOf_13 : decode cX7_quantitiesOf 13 = .ok (.invokevirtual 176, 3) := by decide +kernel
theorem dX7_quantitiesOf_16 : decode cX7_quantitiesOf 16 = .ok (.iload_n 1, 1) := by decide +kernel
theorem dX7_quantitiesOf_17 : decode cX7_quantitiesOf 17 = .ok (.if_icmp .ne 7, 3) := by decide +kernel
theorem dX7_quantitiesOf_20 : decode cX7_quantitiesOf 20 = .ok (.iconst 1, 1) := by decide +kernel
theorem dX7_quantitiesOf_21 : decode cX7_quantitiesOf 21 = .ok (.goto 4, 3) := by decide +kernel
theorem dX7_quantitiesOf_24 : decode cX7_quantitiesOf 24 = .ok (.iconst 0, 1) := by decide +kernel
theorem dX7_quantitiesOf_25 : decode cX7_quantitiesOf 25 = .ok (.iadd, 1) := by decide +kernel
theorem dX7_quantitiesOf_26 : decode cX7_quantitiesOf 26 = .ok (.istore_n 2, 1) := by decide +kernel
theorem dX7_quantitiesOf_27 : decode cX7_quantitiesOf 27 = .ok (.iinc 3 1, 3) := by decide +kernel
theorem dX7_quantitiesOf_30 : decode cX7_quantitiesOf 30 = .ok (.goto (-26), 3) := by decide +kernel
theorem dX7_quantitiesOf_33 : decode cX7_quantitiesOf 33 = .ok (.iload_n 2, 1) := by decide +kernel
theorem dX7_quantitiesOf_34 : decode cX7_quantitiesOf 34 = .ok (.ireturn, 1) := by decide +kernel
theorem dX7_tariffNow_0 : decode cX7_tariffNow 0 = .ok (.iload_n 2, 1) := by decide +kernel
theorem dX7_tariffNow_1 : decode cX7_tariffNow 1 = .ok (.tableswitch 78 0 5 #[39, 46, 53, 60, 66, 72], 39) := by decide +kernel
theorem dX7_tariffNow_40 : decode cX7_tariffNow 40 = .ok (.aload_n 0, 1) := by decide +kernel
theorem dX7_tariffNow_41 : decode cX7_tariffNow 41 = .ok (.getfield 7, 3) := by decide +kernel
theorem dX7_tariffNow_44 : decode cX7_tariffNow 44 = .ok (.iload_n 1, 1) := by decide +kernel
theorem dX7_tariffNow_45 : decode cX7_tariffNow 45 = .ok (.iaload, 1) := by decide +kernel
theorem dX7_tariffNow_46 : decode cX7_tariffNow 46 = .ok (.ireturn, 1) := by decide +kernel
theorem dX7_tariffNow_47 : decode cX7_tariffNow 47 = .ok (.aload_n 0, 1) := by decide +kernel
theorem dX7_tariffNow_48 : decode cX7_tariffNow 48 = .ok (.getfield 19, 3) := by decide +kernel
theorem dX7_tariffNow_51 : decode cX7_tariffNow 51 = .ok (.iload_n 1, 1) := by decide +kernel
theorem dX7_tariffNow_52 : decode cX7_tariffNow 52 = .ok (.iaload, 1) := by decide +kernel
theorem dX7_tariffNow_53 : decode cX7_tariffNow 53 = .ok (.ireturn, 1) := by decide +kernel
theorem dX7_tariffNow_54 : decode cX7_tariffNow 54 = .ok (.aload_n 0, 1) := by decide +kernel
theorem dX7_tariffNow_55 : decode cX7_tariffNow 55 = .ok (.getfield 22, 3) := by decide +kernel
theorem dX7_tariffNow_58 : decode cX7_tariffNow 58 = .ok (.iload_n 1, 1) := by decide +kernel
theorem dX7_tariffNow_59 : decode cX7_tariffNow 59 = .ok (.iaload, 1) := by decide +kernel
theorem dX7_tariffNow_60 : decode cX7_tariffNow 60 = .ok (.ireturn, 1) := by decide +kernel
theorem dX7_tariffNow_61 : decode cX7_tariffNow 61 = .ok (.aload_n 0, 1) := by decide +kernel
theorem dX7_tariffNow_62 : decode cX7_tariffNow 62 = .ok (.iload_n 1, 1) := by decide +kernel
theorem dX7_tariffNow_63 : decode cX7_tariffNow 63 = .ok (.invokevirtual 179, 3) := by decide +kernel
theorem dX7_tariffNow_66 : decode cX7_tariffNow 66 = .ok (.ireturn, 1) := by decide +kernel
theorem dX7_tariffNow_67 : decode cX7_tariffNow 67 = .ok (.aload_n 0, 1) := by decide +kernel
theorem dX7_tariffNow_68 : decode cX7_tariffNow 68 = .ok (.iload_n 1, 1) := by decide +kernel
theorem dX7_tariffNow_69 : decode cX7_tariffNow 69 = .ok (.invokevirtual 182, 3) := by decide +kernel
theorem dX7_tariffNow_72 : decode cX7_tariffNow 72 = .ok (.ireturn, 1) := by decide +kernel
theorem dX7_tariffNow_73 : decode cX7_tariffNow 73 = .ok (.aload_n 0, 1) := by decide +kernel
theorem dX7_tariffNow_74 : decode cX7_tariffNow 74 = .ok (.iload_n 1, 1) := by decide +kernel
theorem dX7_tariffNow_75 : decode cX7_tariffNow 75 = .ok (.invokevirtual 185, 3) := by decide +kernel
theorem dX7_tariffNow_78 : decode cX7_tariffNow 78 = .ok (.ireturn, 1) := by decide +kernel
theorem dX7_tariffNow_79 : decode cX7_tariffNow 79 = .ok (.aload_n 0, 1) := by decide +kernel
theorem dX7_tariffNow_80 : decode cX7_tariffNow 80 = .ok (.iload_n 1, 1) := by decide +kernel
theorem dX7_tariffNow_81 : decode cX7_tariffNow 81 = .ok (.invokevirtual 188, 3) := by decide +kernel
theorem dX7_tariffNow_84 : decode cX7_tariffNow 84 = .ok (.ireturn, 1) := by decide +kernel
theorem dX7_tariff_0 : decode cX7_tariff 0 = .ok (.aload_n 0, 1) := by decide +kernel
theorem dX7_tariff_1 : decode cX7_tariff 1 = .ok (.iload_n 1, 1) := by decide +kernel
theorem dX7_tariff_2 : decode cX7_tariff 2 = .ok (.invokevirtual 191, 3) := by decide +kernel
theorem dX7_tariff_5 : decode cX7_tariff 5 = .ok (.ifCond .ne 8, 3) := by decide +kernel
theorem dX7_tariff_8 : decode cX7_tariff 8 = .ok (.bipush (-101), 2) := by decide +kernel
theorem dX7_tariff_10 : decode cX7_tariff 10 = .ok (.goto 24, 3) := by decide +kernel
theorem dX7_tariff_13 : decode cX7_tariff 13 = .ok (.iload_n 2, 1) := by decide +kernel
theorem dX7_tariff_14 : decode cX7_tariff 14 = .ok (.iconst 0, 1) := by decide +kernel
theorem dX7_tariff_15 : decode cX7_tariff 15 = .ok (.bipush 6, 2) := by decide +kernel
theorem dX7_tariff_17 : decode cX7_tariff 17 = .ok (.invokestatic 68, 3) := by decide +kernel
theorem dX7_tariff_20 : decode cX7_tariff 20 = .ok (.ifCond .eq 12, 3) := by decide +kernel
theorem dX7_tariff_23 : decode cX7_tariff 23 = .ok (.aload_n 0, 1) := by decide +kernel
theorem dX7_tariff_24 : decode cX7_tariff 24 = .ok (.iload_n 1, 1) := by decide +kernel
theorem dX7_tariff_25 : decode cX7_tariff 25 = .ok (.iload_n 2, 1) := by decide +kernel
theorem dX7_tariff_26 : decode cX7_tariff 26 = .ok (.invokevirtual 194, 3) := by decide +kernel
theorem dX7_tariff_29 : decode cX7_tariff 29 = .ok (.goto 5, 3) := by decide +kernel
theorem dX7_tariff_32 : decode cX7_tariff 32 = .ok (.bipush (-102), 2) := by decide +kernel
theorem dX7_tariff_34 : decode cX7_tariff 34 = .ok (.ireturn, 1) := by decide +kernel
theorem dX7_as_0 : decode cX7_as 0 = .ok (.aload_n 0, 1) := by decide +kernel
theorem dX7_as_1 : decode cX7_as 1 = .ok (.iload_n 1, 1) := by decide +kernel
theorem dX7_as_2 : decode cX7_as 2 = .ok (.invokevirtual 191, 3) := by decide +kernel
theorem dX7_as_5 : decode cX7_as 5 = .ok (.ifCond .ne 6, 3) := by decide +kernel
theorem dX7_as_8 : decode cX7_as 8 = .ok (.bipush (-101), 2) := by decide +kernel
theorem dX7_as_10 : decode cX7_as 10 = .ok (.ireturn, 1) := by decide +kernel
theorem dX7_as_11 : decode cX7_as 11 = .ok (.iload_n 2, 1) := by decide +kernel
theorem dX7_as_12 : decode cX7_as 12 = .ok (.iconst 0, 1) := by decide +kernel
theorem dX7_as_13 : decode cX7_as 13 = .ok (.iconst 4, 1) := by decide +kernel
theorem dX7_as_14 : decode cX7_as 14 = .ok (.invokestatic 68, 3) := by decide +kernel
theorem dX7_as_17 : decode cX7_as 17 = .ok (.ifCond .ne 6, 3) := by decide +kernel
theorem dX7_as_20 : decode cX7_as 20 = .ok (.bipush (-102), 2) := by decide +kernel
theorem dX7_as_22 : decode cX7_as 22 = .ok (.ireturn, 1) := by decide +kernel
theorem dX7_as_23 : decode cX7_as 23 = .ok (.aload_n 0, 1) := by decide +kernel
theorem dX7_as_24 : decode cX7_as 24 = .ok (.getfield 7, 3) := by decide +kernel
theorem dX7_as_27 : decode cX7_as 27 = .ok (.iload_n 1, 1) := by decide +kernel
theorem dX7_as_28 : decode cX7_as 28 = .ok (.iaload, 1) := by decide +kernel
theorem dX7_as_29 : decode cX7_as 29 = .ok (.istore_n 3, 1) := by decide +kernel
theorem dX7_as_30 : decode cX7_as 30 = .ok (.iload_n 2, 1) := by decide +kernel
theorem dX7_as_31 : decode cX7_as 31 = .ok (.ifCond .eq 18, 3) := by decide +kernel
theorem dX7_as_34 : decode cX7_as 34 = .ok (.iload_n 3, 1) := by decide +kernel
theorem dX7_as_35 : decode cX7_as 35 = .ok (.iload_n 2, 1) := by decide +kernel
theorem dX7_as_36 : decode cX7_as 36 = .ok (.if_icmp .eq 13, 3) := by decide +kernel
theorem dX7_as_39 : decode cX7_as 39 = .ok (.iload_n 2, 1) := by decide +kernel
theorem dX7_as_40 : decode cX7_as 40 = .ok (.iconst 3, 1) := by decide +kernel
theorem dX7_as_41 : decode cX7_as 41 = .ok (.if_icmp .ne 12, 3) := by decide +kernel
theorem dX7_as_44 : decode cX7_as 44 = .ok (.iload_n 3, 1) := by decide +kernel
theorem dX7_as_45 : decode cX7_as 45 = .ok (.iconst 4, 1) := by decide +kernel
theorem dX7_as_46 : decode cX7_as 46 = .ok (.if_icmp .ne 7, 3) := by decide +kernel
theorem dX7_as_49 : decode cX7_as 49 = .ok (.iload_n 1, 1) := by decide +kernel
theorem dX7_as_50 : decode cX7_as 50 = .ok (.goto 4, 3) := by decide +kernel
theorem dX7_as_53 : decode cX7_as 53 = .ok (.iconst (-1), 1) := by decide +kernel
theorem dX7_as_54 : decode cX7_as 54 = .ok (.ireturn, 1) := by decide +kernel
theorem dX7_isQuantity_0 : decode cX7_isQuantity 0 = .ok (.iload_n 0, 1) := by decide +kernel
theorem dX7_isQuantity_1 : decode cX7_isQuantity 1 = .ok (.iconst 0, 1) := by decide +kernel
theorem dX7_isQuantity_2 : decode cX7_isQuantity 2 = .ok (.bipush 63, 2) := by decide +kernel
theorem dX7_isQuantity_4 : decode cX7_isQuantity 4 = .ok (.invokestatic 68, 3) := by decide +kernel
theorem dX7_isQuantity_7 : decode cX7_isQuantity 7 = .ok (.ireturn, 1) := by decide +kernel
theorem dX7_price_0 : decode cX7_price 0 = .ok (.aload_n 0, 1) := by decide +kernel
theorem dX7_price_1 : decode cX7_price 1 = .ok (.iload_n 1, 1) := by decide +kernel
theorem dX7_price_2 : decode cX7_price 2 = .ok (.invokevirtual 191, 3) := by decide +kernel
theorem dX7_price_5 : decode cX7_price 5 = .ok (.ifCond .eq 10, 3) := by decide +kernel
theorem dX7_price_8 : decode cX7_price 8 = .ok (.iload_n 2, 1) := by decide +kernel
theorem dX7_price_9 : decode cX7_price 9 = .ok (.invokestatic 197, 3) := by decide +kernel
theorem dX7_price_12 : decode cX7_price 12 = .ok (.ifCond .ne 7, 3) := by decide +kernel
theorem dX7_price_15 : decode cX7_price 15 = .ok (.ldc2_w 200, 3) := by decide +kernel
theorem dX7_price_18 : decode cX7_price 18 = .ok (.lreturn, 1) := by decide +kernel
theorem dX7_price_19 : decode cX7_price 19 = .ok (.aload_n 0, 1) := by decide +kernel
theorem dX7_price_20 : decode cX7_price 20 = .ok (.iload_n 1, 1) := by decide +kernel
theorem dX7_price_21 : decode cX7_price 21 = .ok (.iload_n 2, 1) := by decide +kernel
theorem dX7_price_22 : decode cX7_price 22 = .ok (.invokevirtual 202, 3) := by decide +kernel
theorem dX7_price_25 : decode cX7_price 25 = .ok (.ifCond .eq 16, 3) := by decide +kernel
theorem dX7_price_28 : decode cX7_price 28 = .ok (.ldc2_w 205, 3) := by decide +kernel
theorem dX7_price_31 : decode cX7_price 31 = .ok (.aload_n 0, 1) := by decide +kernel
theorem dX7_price_32 : decode cX7_price 32 = .ok (.iload_n 1, 1) := by decide +kernel
theorem dX7_price_33 : decode cX7_price 33 = .ok (.iload_n 2, 1) := by decide +kernel
theorem dX7_price_34 : decode cX7_price 34 = .ok (.invokevirtual 147, 3) := by decide +kernel
theorem dX7_price_37 : decode cX7_price 37 = .ok (.ladd, 1) := by decide +kernel
theorem dX7_price_38 : decode cX7_price 38 = .ok (.goto 6, 3) := by decide +kernel
theorem dX7_price_41 : decode cX7_price 41 = .ok (.ldc2_w 207, 3) := by decide +kernel
theorem dX7_price_44 : decode cX7_price 44 = .ok (.lreturn, 1) := by decide +kernel
theorem dX7_nodeNow_0 : decode cX7_nodeNow 0 = .ok (.iload_n 2, 1) := by decide +kernel
theorem dX7_nodeNow_1 : decode cX7_nodeNow 1 = .ok (.tableswitch 44 0 2 #[27, 34, 39], 27) := by decide +kernel
theorem dX7_nodeNow_28 : decode cX7_nodeNow 28 = .ok (.aload_n 0, 1) := by decide +kernel
theorem dX7_nodeNow_29 : decode cX7_nodeNow 29 = .ok (.getfield 25, 3) := by decide +kernel
theorem dX7_nodeNow_32 : decode cX7_nodeNow 32 = .ok (.iload_n 1, 1) := by decide +kernel
theorem dX7_nodeNow_33 : decode cX7_nodeNow 33 = .ok (.iaload, 1) := by decide +kernel
theorem dX7_nodeNow_34 : decode cX7_nodeNow 34 = .ok (.ireturn, 1) := by decide +kernel
theorem dX7_nodeNow_35 : decode cX7_nodeNow 35 = .ok (.iload_n 1, 1) := by decide +kernel
theorem dX7_nodeNow_36 : decode cX7_nodeNow 36 = .ok (.invokestatic 153, 3) := by decide +kernel
theorem dX7_nodeNow_39 : decode cX7_nodeNow 39 = .ok (.ireturn, 1) := by decide +kernel
theorem dX7_nodeNow_40 : decode cX7_nodeNow 40 = .ok (.iload_n 1, 1) := by decide +kernel
theorem dX7_nodeNow_41 : decode cX7_nodeNow 41 = .ok (.invokestatic 162, 3) := by decide +kernel
theorem dX7_nodeNow_44 : decode cX7_nodeNow 44 = .ok (.ireturn, 1) := by decide +kernel
theorem dX7_nodeNow_45 : decode cX7_nodeNow 45 = .ok (.iload_n 1, 1) := by decide +kernel
theorem dX7_nodeNow_46 : decode cX7_nodeNow 46 = .ok (.invokestatic 156, 3) := by decide +kernel
theorem dX7_nodeNow_49 : decode cX7_nodeNow 49 = .ok (.ireturn, 1) := by decide +kernel
theorem dX7_node_0 : decode cX7_node 0 = .ok (.aload_n 0, 1) := by decide +kernel
theorem dX7_node_1 : decode cX7_node 1 = .ok (.getfield 119, 3) := by decide +kernel
theorem dX7_node_4 : decode cX7_node 4 = .ok (.ifCond .eq 13, 3) := by decide +kernel
theorem dX7_node_7 : decode cX7_node 7 = .ok (.iload_n 1, 1) := by decide +kernel
theorem dX7_node_8 : decode cX7_node 8 = .ok (.iconst 1, 1) := by decide +kernel
theorem dX7_node_9 : decode cX7_node 9 = .ok (.bipush 127, 2) := by decide +kernel
theorem dX7_node_11 : decode cX7_node 11 = .ok (.invokestatic 68, 3) := by decide +kernel
theorem dX7_node_14 : decode cX7_node 14 = .ok (.ifCond .ne 6, 3) := by decide +kernel
theorem dX7_node_17 : decode cX7_node 17 = .ok (.bipush (-101), 2) := by decide +kernel
theorem dX7_node_19 : decode cX7_node 19 = .ok (.ireturn, 1) := by decide +kernel
theorem dX7_node_20 : decode cX7_node 20 = .ok (.iload_n 2, 1) := by decide +kernel
theorem dX7_node_21 : decode cX7_node 21 = .ok (.iconst 0, 1) := by decide +kernel
theorem dX7_node_22 : decode cX7_node 22 = .ok (.iconst 3, 1) := by decide +kernel
theorem dX7_node_23 : decode cX7_node 23 = .ok (.invokestatic 68, 3) := by decide +kernel
theorem dX7_node_26 : decode cX7_node 26 = .ok (.ifCond .eq 12, 3) := by decide +kernel
theorem dX7_node_29 : decode cX7_node 29 = .ok (.aload_n 0, 1) := by decide +kernel
theorem dX7_node_30 : decode cX7_node 30 = .ok (.iload_n 1, 1) := by decide +kernel
theorem dX7_node_31 : decode cX7_node 31 = .ok (.iload_n 2, 1) := by decide +kernel
theorem dX7_node_32 : decode cX7_node 32 = .ok (.invokevirtual 209, 3) := by decide +kernel
theorem dX7_node_35 : decode cX7_node 35 = .ok (.goto 5, 3) := by decide +kernel
theorem dX7_node_38 : decode cX7_node 38 = .ok (.bipush (-102), 2) := by decide +kernel
theorem dX7_node_40 : decode cX7_node 40 = .ok (.ireturn, 1) := by decide +kernel
theorem dX7_isSpan_0 : decode cX7_isSpan 0 = .ok (.iload_n 0, 1) := by decide +kernel
theorem dX7_isSpan_1 : decode cX7_isSpan 1 = .ok (.ifCond .lt 33, 3) := by decide +kernel
theorem dX7_isSpan_4 : decode cX7_isSpan 4 = .ok (.iload_n 0, 1) := by decide +kernel
theorem dX7_isSpan_5 : decode cX7_isSpan 5 = .ok (.bipush 100, 2) := by decide +kernel
theorem dX7_isSpan_7 : decode cX7_isSpan 7 = .ok (.idiv, 1) := by decide +kernel
theorem dX7_isSpan_8 : decode cX7_isSpan 8 = .ok (.invokestatic 197, 3) := by decide +kernel
theorem dX7_isSpan_11 : decode cX7_isSpan 11 = .ok (.ifCond .eq 23, 3) := by decide +kernel
theorem dX7_isSpan_14 : decode cX7_isSpan 14 = .ok (.iload_n 0, 1) := by decide +kernel
theorem dX7_isSpan_15 : decode cX7_isSpan 15 = .ok (.bipush 100, 2) := by decide +kernel
theorem dX7_isSpan_17 : decode cX7_isSpan 17 = .ok (.irem, 1) := by decide +kernel
theorem dX7_isSpan_18 : decode cX7_isSpan 18 = .ok (.iload_n 0, 1) := by decide +kernel
theorem dX7_isSpan_19 : decode cX7_isSpan 19 = .ok (.bipush 100, 2) := by decide +kernel
theorem dX7_isSpan_21 : decode cX7_isSpan 21 = .ok (.idiv, 1) := by decide +kernel
theorem dX7_isSpan_22 : decode cX7_isSpan 22 = .ok (.bipush 63, 2) := by decide +kernel
theorem dX7_isSpan_24 : decode cX7_isSpan 24 = .ok (.invokestatic 68, 3) := by decide +kernel
theorem dX7_isSpan_27 : decode cX7_isSpan 27 = .ok (.ifCond .eq 7, 3) := by decide +kernel
theorem dX7_isSpan_30 : decode cX7_isSpan 30 = .ok (.iconst 1, 1) := by decide +kernel
theorem dX7_isSpan_31 : decode cX7_isSpan 31 = .ok (.goto 4, 3) := by decide +kernel
theorem dX7_isSpan_34 : decode cX7_isSpan 34 = .ok (.iconst 0, 1) := by decide +kernel
theorem dX7_isSpan_35 : decode cX7_isSpan 35 = .ok (.ireturn, 1) := by decide +kernel
theorem dX7_refused_0 : decode cX7_refused 0 = .ok (.iload_n 1, 1) := by decide +kernel
theorem dX7_refused_1 : decode cX7_refused 1 = .ok (.iconst 0, 1) := by decide +kernel
theorem dX7_refused_2 : decode cX7_refused 2 = .ok (.iconst 4, 1) := by decide +kernel
theorem dX7_refused_3 : decode cX7_refused 3 = .ok (.invokestatic 68, 3) := by decide +kernel
theorem dX7_refused_6 : decode cX7_refused 6 = .ok (.ifCond .eq 30, 3) := by decide +kernel
theorem dX7_refused_9 : decode cX7_refused 9 = .ok (.iload 4, 2) := by decide +kernel
theorem dX7_refused_11 : decode cX7_refused 11 = .ok (.invokestatic 212, 3) := by decide +kernel
theorem dX7_refused_14 : decode cX7_refused 14 = .ok (.ifCond .eq 22, 3) := by decide +kernel
theorem dX7_refused_17 : decode cX7_refused 17 = .ok (.iload_n 1, 1) := by decide +kernel
theorem dX7_refused_18 : decode cX7_refused 18 = .ok (.iload_n 2, 1) := by decide +kernel
theorem dX7_refused_19 : decode cX7_refused 19 = .ok (.iload_n 3, 1) := by decide +kernel
theorem dX7_refused_20 : decode cX7_refused 20 = .ok (.iload 4, 2) := by decide +kernel
theorem dX7_refused_22 : decode cX7_refused 22 = .ok (.bipush 100, 2) := by decide +kernel
theorem dX7_refused_24 : decode cX7_refused 24 = .ok (.idiv, 1) := by decide +kernel
theorem dX7_refused_25 : decode cX7_refused 25 = .ok (.iload 4, 2) := by decide +kernel
theorem dX7_refused_27 : decode cX7_refused 27 = .ok (.bipush 100, 2) := by decide +kernel
