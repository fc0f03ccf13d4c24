theorem dX0_init_0 : decode cX0_init 0 = .ok (.aload_n 0, 1) := by decide +kernel
theorem dX0_init_1 : decode cX0_init 1 = .ok (.invokespecial 3, 3) := by decide +kernel
theorem dX0_init_4 : decode cX0_init 4 = .ok (.return_, 1) := by decide +kernel
theorem dX0_drawTariff_0 : decode cX0_drawTariff 0 = .ok (.aload_n 0, 1) := by decide +kernel
theorem dX0_drawTariff_1 : decode cX0_drawTariff 1 = .ok (.iconst 5, 1) := by decide +kernel
theorem dX0_drawTariff_2 : decode cX0_drawTariff 2 = .ok (.invokevirtual 9, 3) := by decide +kernel
theorem dX0_drawTariff_5 : decode cX0_drawTariff 5 = .ok (.istore_n 2, 1) := by decide +kernel
theorem dX0_drawTariff_6 : decode cX0_drawTariff 6 = .ok (.aload_n 0, 1) := by decide +kernel
theorem dX0_drawTariff_7 : decode cX0_drawTariff 7 = .ok (.bipush 19, 2) := by decide +kernel
theorem dX0_drawTariff_9 : decode cX0_drawTariff 9 = .ok (.invokevirtual 9, 3) := by decide +kernel
theorem dX0_drawTariff_12 : decode cX0_drawTariff 12 = .ok (.bipush 9, 2) := by decide +kernel
theorem dX0_drawTariff_14 : decode cX0_drawTariff 14 = .ok (.isub, 1) := by decide +kernel
theorem dX0_drawTariff_15 : decode cX0_drawTariff 15 = .ok (.istore_n 3, 1) := by decide +kernel
theorem dX0_drawTariff_16 : decode cX0_drawTariff 16 = .ok (.aload_n 0, 1) := by decide +kernel
theorem dX0_drawTariff_17 : decode cX0_drawTariff 17 = .ok (.sipush 199, 3) := by decide +kernel
theorem dX0_drawTariff_20 : decode cX0_drawTariff 20 = .ok (.invokevirtual 9, 3) := by decide +kernel
theorem dX0_drawTariff_23 : decode cX0_drawTariff 23 = .ok (.bipush 99, 2) := by decide +kernel
theorem dX0_drawTariff_25 : decode cX0_drawTariff 25 = .ok (.isub, 1) := by decide +kernel
theorem dX0_drawTariff_26 : decode cX0_drawTariff 26 = .ok (.istore 4, 2) := by decide +kernel
theorem dX0_drawTariff_28 : decode cX0_drawTariff 28 = .ok (.aload_n 0, 1) := by decide +kernel
theorem dX0_drawTariff_29 : decode cX0_drawTariff 29 = .ok (.bipush 64, 2) := by decide +kernel
theorem dX0_drawTariff_31 : decode cX0_drawTariff 31 = .ok (.invokevirtual 9, 3) := by decide +kernel
theorem dX0_drawTariff_34 : decode cX0_drawTariff 34 = .ok (.istore 5, 2) := by decide +kernel
theorem dX0_drawTariff_36 : decode cX0_drawTariff 36 = .ok (.aload_n 1, 1) := by decide +kernel
theorem dX0_drawTariff_37 : decode cX0_drawTariff 37 = .ok (.iload_n 2, 1) := by decide +kernel
theorem dX0_drawTariff_38 : decode cX0_drawTariff 38 = .ok (.iload_n 3, 1) := by decide +kernel
theorem dX0_drawTariff_39 : decode cX0_drawTariff 39 = .ok (.iload 4, 2) := by decide +kernel
theorem dX0_drawTariff_41 : decode cX0_drawTariff 41 = .ok (.iload 5, 2) := by decide +kernel
theorem dX0_drawTariff_43 : decode cX0_drawTariff 43 = .ok (.iload 5, 2) := by decide +kernel
theorem dX0_drawTariff_45 : decode cX0_drawTariff 45 = .ok (.aload_n 0, 1) := by decide +kernel
theorem dX0_drawTariff_46 : decode cX0_drawTariff 46 = .ok (.bipush 64, 2) := by decide +kernel
theorem dX0_drawTariff_48 : decode cX0_drawTariff 48 = .ok (.iload 5, 2) := by decide +kernel
theorem dX0_drawTariff_50 : decode cX0_drawTariff 50 = .ok (.isub, 1) := by decide +kernel
theorem dX0_drawTariff_51 : decode cX0_drawTariff 51 = .ok (.invokevirtual 9, 3) := by decide +kernel
theorem dX0_drawTariff_54 : decode cX0_drawTariff 54 = .ok (.iadd, 1) := by decide +kernel
theorem dX0_drawTariff_55 : decode cX0_drawTariff 55 = .ok (.invokevirtual 15, 3) := by decide +kernel
theorem dX0_drawTariff_58 : decode cX0_drawTariff 58 = .ok (.return_, 1) := by decide +kernel
theorem dX0_below_0 : decode cX0_below 0 = .ok (.aload_n 0, 1) := by decide +kernel
theorem dX0_below_1 : decode cX0_below 1 = .ok (.ldc 21, 2) := by decide +kernel
theorem dX0_below_3 : decode cX0_below 3 = .ok (.aload_n 0, 1) := by decide +kernel
theorem dX0_below_4 : decode cX0_below 4 = .ok (.getfield 22, 3) := by decide +kernel
theorem dX0_below_7 : decode cX0_below 7 = .ok (.imul, 1) := by decide +kernel
theorem dX0_below_8 : decode cX0_below 8 = .ok (.sipush 12345, 3) := by decide +kernel
theorem dX0_below_11 : decode cX0_below 11 = .ok (.iadd, 1) := by decide +kernel
theorem dX0_below_12 : decode cX0_below 12 = .ok (.ldc 26, 2) := by decide +kernel
theorem dX0_below_14 : decode cX0_below 14 = .ok (.iand, 1) := by decide +kernel
theorem dX0_below_15 : decode cX0_below 15 = .ok (.putfield 22, 3) := by decide +kernel
theorem dX0_below_18 : decode cX0_below 18 = .ok (.iload_n 1, 1) := by decide +kernel
theorem dX0_below_19 : decode cX0_below 19 = .ok (.iconst 1, 1) := by decide +kernel
theorem dX0_below_20 : decode cX0_below 20 = .ok (.if_icmp .ge 7, 3) := by decide +kernel
theorem dX0_below_23 : decode cX0_below 23 = .ok (.iconst 0, 1) := by decide +kernel
theorem dX0_below_24 : decode cX0_below 24 = .ok (.goto 12, 3) := by decide +kernel
theorem dX0_below_27 : decode cX0_below 27 = .ok (.aload_n 0, 1) := by decide +kernel
theorem dX0_below_28 : decode cX0_below 28 = .ok (.getfield 22, 3) := by decide +kernel
theorem dX0_below_31 : decode cX0_below 31 = .ok (.ldc 27, 2) := by decide +kernel
theorem dX0_below_33 : decode cX0_below 33 = .ok (.idiv, 1) := by decide +kernel
theorem dX0_below_34 : decode cX0_below 34 = .ok (.iload_n 1, 1) := by decide +kernel
theorem dX0_below_35 : decode cX0_below 35 = .ok (.irem, 1) := by decide +kernel
theorem dX0_below_36 : decode cX0_below 36 = .ok (.ireturn, 1) := by decide +kernel
theorem dX1_init_0 : decode cX1_init 0 = .ok (.aload_n 0, 1) := by decide +kernel
theorem dX1_init_1 : decode cX1_init 1 = .ok (.invokespecial 5, 3) := by decide +kernel
theorem dX1_init_4 : decode cX1_init 4 = .ok (.aload_n 0, 1) := by decide +kernel
theorem dX1_init_5 : decode cX1_init 5 = .ok (.bipush 50, 2) := by decide +kernel
theorem dX1_init_7 : decode cX1_init 7 = .ok (.newarray .int, 2) := by decide +kernel
theorem dX1_init_9 : decode cX1_init 9 = .ok (.putfield 11, 3) := by decide +kernel
theorem dX1_init_12 : decode cX1_init 12 = .ok (.return_, 1) := by decide +kernel
theorem dX1_write_0 : decode cX1_write 0 = .ok (.aload_n 0, 1) := by decide +kernel
theorem dX1_write_1 : decode cX1_write 1 = .ok (.getfield 15, 3) := by decide +kernel
theorem dX1_write_4 : decode cX1_write 4 = .ok (.ifCond .lt 15, 3) := by decide +kernel
theorem dX1_write_7 : decode cX1_write 7 = .ok (.aload_n 0, 1) := by decide +kernel
theorem dX1_write_8 : decode cX1_write 8 = .ok (.getfield 15, 3) := by decide +kernel
theorem dX1_write_11 : decode cX1_write 11 = .ok (.aload_n 0, 1) := by decide +kernel
theorem dX1_write_12 : decode cX1_write 12 = .ok (.getfield 11, 3) := by decide +kernel
theorem dX1_write_15 : decode cX1_write 15 = .ok (.arraylength, 1) := by decide +kernel
theorem dX1_write_16 : decode cX1_write 16 = .ok (.if_icmp .lt 5, 3) := by decide +kernel
theorem dX1_write_19 : decode cX1_write 19 = .ok (.iconst 0, 1) := by decide +kernel
theorem dX1_write_20 : decode cX1_write 20 = .ok (.ireturn, 1) := by decide +kernel
theorem dX1_write_21 : decode cX1_write 21 = .ok (.aload_n 0, 1) := by decide +kernel
theorem dX1_write_22 : decode cX1_write 22 = .ok (.getfield 11, 3) := by decide +kernel
theorem dX1_write_25 : decode cX1_write 25 = .ok (.aload_n 0, 1) := by decide +kernel
theorem dX1_write_26 : decode cX1_write 26 = .ok (.getfield 15, 3) := by decide +kernel
theorem dX1_write_29 : decode cX1_write 29 = .ok (.iload_n 1, 1) := by decide +kernel
theorem dX1_write_30 : decode cX1_write 30 = .ok (.iastore, 1) := by decide +kernel
theorem dX1_write_31 : decode cX1_write 31 = .ok (.aload_n 0, 1) := by decide +kernel
theorem dX1_write_32 : decode cX1_write 32 = .ok (.dup, 1) := by decide +kernel
theorem dX1_write_33 : decode cX1_write 33 = .ok (.getfield 15, 3) := by decide +kernel
theorem dX1_write_36 : decode cX1_write 36 = .ok (.iconst 1, 1) := by decide +kernel
theorem dX1_write_37 : decode cX1_write 37 = .ok (.iadd, 1) := by decide +kernel
theorem dX1_write_38 : decode cX1_write 38 = .ok (.putfield 15, 3) := by decide +kernel
theorem dX1_write_41 : decode cX1_write 41 = .ok (.iconst 1, 1) := by decide +kernel
theorem dX1_write_42 : decode cX1_write 42 = .ok (.ireturn, 1) := by decide +kernel
theorem dX1_letterAt_0 : decode cX1_letterAt 0 = .ok (.iload_n 1, 1) := by decide +kernel
theorem dX1_letterAt_1 : decode cX1_letterAt 1 = .ok (.ifCond .lt 21, 3) := by decide +kernel
theorem dX1_letterAt_4 : decode cX1_letterAt 4 = .ok (.iload_n 1, 1) := by decide +kernel
theorem dX1_letterAt_5 : decode cX1_letterAt 5 = .ok (.aload_n 0, 1) := by decide +kernel
theorem dX1_letterAt_6 : decode cX1_letterAt 6 = .ok (.getfield 11, 3) := by decide +kernel
theorem dX1_letterAt_9 : decode cX1_letterAt 9 = .ok (.arraylength, 1) := by decide +kernel
theorem dX1_letterAt_10 : decode cX1_letterAt 10 = .ok (.if_icmp .ge 12, 3) := by decide +kernel
theorem dX1_letterAt_13 : decode cX1_letterAt 13 = .ok (.aload_n 0, 1) := by decide +kernel
theorem dX1_letterAt_14 : decode cX1_letterAt 14 = .ok (.getfield 11, 3) := by decide +kernel
theorem dX1_letterAt_17 : decode cX1_letterAt 17 = .ok (.iload_n 1, 1) := by decide +kernel
theorem dX1_letterAt_18 : decode cX1_letterAt 18 = .ok (.iaload, 1) := by decide +kernel
theorem dX1_letterAt_19 : decode cX1_letterAt 19 = .ok (.goto 4, 3) := by decide +kernel
theorem dX1_letterAt_22 : decode cX1_letterAt 22 = .ok (.iconst 0, 1) := by decide +kernel
theorem dX1_letterAt_23 : decode cX1_letterAt 23 = .ok (.ireturn, 1) := by decide +kernel
theorem dX1_firstWrong_0 : decode cX1_firstWrong 0 = .ok (.iconst 0, 1) := by decide +kernel
theorem dX1_firstWrong_1 : decode cX1_firstWrong 1 = .ok (.istore_n 1, 1) := by decide +kernel
theorem dX1_firstWrong_2 : decode cX1_firstWrong 2 = .ok (.iload_n 1, 1) := by decide +kernel
theorem dX1_firstWrong_3 : decode cX1_firstWrong 3 = .ok (.aload_n 0, 1) := by decide +kernel
theorem dX1_firstWrong_4 : decode cX1_firstWrong 4 = .ok (.getfield 15, 3) := by decide +kernel
theorem dX1_firstWrong_7 : decode cX1_firstWrong 7 = .ok (.if_icmp .ge 17, 3) := by decide +kernel
theorem dX1_firstWrong_10 : decode cX1_firstWrong 10 = .ok (.aload_n 0, 1) := by decide +kernel
theorem dX1_firstWrong_11 : decode cX1_firstWrong 11 = .ok (.iload_n 1, 1) := by decide +kernel
theorem dX1_firstWrong_12 : decode cX1_firstWrong 12 = .ok (.invokevirtual 19, 3) := by decide +kernel
theorem dX1_firstWrong_15 : decode cX1_firstWrong 15 = .ok (.ifCond .eq 9, 3) := by decide +kernel
theorem dX1_firstWrong_18 : decode cX1_firstWrong 18 = .ok (.iinc 1 1, 3) := by decide +kernel
theorem dX1_firstWrong_21 : decode cX1_firstWrong 21 = .ok (.goto (-19), 3) := by decide +kernel
theorem dX1_firstWrong_24 : decode cX1_firstWrong 24 = .ok (.iload_n 1, 1) := by decide +kernel
theorem dX1_firstWrong_25 : decode cX1_firstWrong 25 = .ok (.ireturn, 1) := by decide +kernel
theorem dX1_isWholeDesk_0 : decode cX1_isWholeDesk 0 = .ok (.aload_n 0, 1) := by decide +kernel
theorem dX1_isWholeDesk_1 : decode cX1_isWholeDesk 1 = .ok (.getfield 15, 3) := by decide +kernel
theorem dX1_isWholeDesk_4 : decode cX1_isWholeDesk 4 = .ok (.bipush 12, 2) := by decide +kernel
theorem dX1_isWholeDesk_6 : decode cX1_isWholeDesk 6 = .ok (.irem, 1) := by decide +kernel
theorem dX1_isWholeDesk_7 : decode cX1_isWholeDesk 7 = .ok (.bipush 11, 2) := by decide +kernel
theorem dX1_isWholeDesk_9 : decode cX1_isWholeDesk 9 = .ok (.if_icmp .ne 18, 3) := by decide +kernel
theorem dX1_isWholeDesk_12 : decode cX1_isWholeDesk 12 = .ok (.aload_n 0, 1) := by decide +kernel
theorem dX1_isWholeDesk_13 : decode cX1_isWholeDesk 13 = .ok (.invokevirtual 23, 3) := by decide +kernel
theorem dX1_isWholeDesk_16 : decode cX1_isWholeDesk 16 = .ok (.aload_n 0, 1) := by decide +kernel
theorem dX1_isWholeDesk_17 : decode cX1_isWholeDesk 17 = .ok (.getfield 15, 3) := by decide +kernel
theorem dX1_isWholeDesk_20 : decode cX1_isWholeDesk 20 = .ok (.if_icmp .ne 7, 3) := by decide +kernel
theorem dX1_isWholeDesk_23 : decode cX1_isWholeDesk 23 = .ok (.iconst 1, 1) := by decide +kernel
theorem dX1_isWholeDesk_24 : decode cX1_isWholeDesk 24 = .ok (.goto 4, 3) := by decide +kernel
theorem dX1_isWholeDesk_27 : decode cX1_isWholeDesk 27 = .ok (.iconst 0, 1) := by decide +kernel
theorem dX1_isWholeDesk_28 : decode cX1_isWholeDesk 28 = .ok (.ireturn, 1) := by decide +kernel
theorem dX1_goesOn_0 : decode cX1_goesOn 0 = .ok (.iload_n 1, 1) := by decide +kernel
theorem dX1_goesOn_1 : decode cX1_goesOn 1 = .ok (.bipush 47, 2) := by decide +kernel
theorem dX1_goesOn_3 : decode cX1_goesOn 3 = .ok (.if_icmp .lt 5, 3) := by decide +kernel
theorem dX1_goesOn_6 : decode cX1_goesOn 6 = .ok (.iconst 0, 1) := by decide +kernel
theorem dX1_goesOn_7 : decode cX1_goesOn 7 = .ok (.ireturn, 1) := by decide +kernel
theorem dX1_goesOn_8 : decode cX1_goesOn 8 = .ok (.aload_n 0, 1) := by decide +kernel
theorem dX1_goesOn_9 : decode cX1_goesOn 9 = .ok (.iload_n 1, 1) := by decide +kernel
theorem dX1_goesOn_10 : decode cX1_goesOn 10 = .ok (.invokevirtual 27, 3) := by decide +kernel
theorem dX1_goesOn_13 : decode cX1_goesOn 13 = .ok (.istore_n 2, 1) := by decide +kernel
theorem dX1_goesOn_14 : decode cX1_goesOn 14 = .ok (.iload_n 1, 1) := by decide +kernel
theorem dX1_goesOn_15 : decode cX1_goesOn 15 = .ok (.bipush 12, 2) := by decide +kernel
theorem dX1_goesOn_17 : decode cX1_goesOn 17 = .ok (.irem, 1) := by decide +kernel
theorem dX1_goesOn_18 : decode cX1_goesOn 18 = .ok (.tableswitch 237 0 10 #[58, 74, 92, 74, 92, 92, 97, 109, 132, 157, 195], 58) := by decide +kernel
theorem dX1_goesOn_76 : decode cX1_goesOn 76 = .ok (.ldc 31, 2) := by decide +kernel
theorem dX1_goesOn_78 : decode cX1_goesOn 78 = .ok (.iload_n 2, 1) := by decide +kernel
theorem dX1_goesOn_79 : decode cX1_goesOn 79 = .ok (.i2c, 1) := by decide +kernel
theorem dX1_goesOn_80 : decode cX1_goesOn 80 = .ok (.invokevirtual 33, 3) := by decide +kernel
theorem dX1_goesOn_83 : decode cX1_goesOn 83 = .ok (.ifCond .lt 7, 3) := by decide +kernel
theorem dX1_goesOn_86 : decode cX1_goesOn 86 = .ok (.iconst 1, 1) := by decide +kernel
theorem dX1_goesOn_87 : decode cX1_goesOn 87 = .ok (.goto 4, 3) := by decide +kernel
theorem dX1_goesOn_90 : decode cX1_goesOn 90 = .ok (.iconst 0, 1) := by decide +kernel
theorem dX1_goesOn_91 : decode cX1_goesOn 91 = .ok (.ireturn, 1) := by decide +kernel
theorem dX1_goesOn_92 : decode cX1_goesOn 92 = .ok (.iload_n 2, 1) := by decide +kernel
theorem dX1_goesOn_93 : decode cX1_goesOn 93 = .ok (.bipush 43, 2) := by decide +kernel
theorem dX1_goesOn_95 : decode cX1_goesOn 95 = .ok (.if_icmp .eq 9, 3) := by decide +kernel
theorem dX1_goesOn_98 : decode cX1_goesOn 98 = .ok (.iload_n 2, 1) := by decide +kernel
theorem dX1_goesOn_99 : decode cX1_goesOn 99 = .ok (.bipush 45, 2) := by decide +kernel
theorem dX1_goesOn_101 : decode cX1_goesOn 101 = .ok (.if_icmp .ne 7, 3) := by decide +kernel
theorem dX1_goesOn_104 : decode cX1_goesOn 104 = .ok (.iconst 1, 1) := by decide +kernel
theorem dX1_goesOn_105 : decode cX1_goesOn 105 = .ok (.goto 4, 3) := by decide +kernel
theorem dX1_goesOn_108 : decode cX1_goesOn 108 = .ok (.iconst 0, 1) := by decide +kernel
theorem dX1_goesOn_109 : decode cX1_goesOn 109 = .ok (.ireturn, 1) := by decide +kernel
theorem dX1_goesOn_110 : decode cX1_goesOn 110 = .ok (.iload_n 2, 1) := by decide +kernel
theorem dX1_goesOn_111 : decode cX1_goesOn 111 = .ok (.invokestatic 38, 3) := by decide +kernel
theorem dX1_goesOn_114 : decode cX1_goesOn 114 = .ok (.ireturn, 1) := by decide +kernel
theorem dX1_goesOn_115 : decode cX1_goesOn 115 = .ok (.iload_n 2, 1) := by decide +kernel
theorem dX1_goesOn_116 : decode cX1_goesOn 116 = .ok (.bipush 64, 2) := by decide +kernel
theorem dX1_goesOn_118 : decode cX1_goesOn 118 = .ok (.if_icmp .ne 7, 3) := by decide +kernel
theorem dX1_goesOn_121 : decode cX1_goesOn 121 = .ok (.iconst 1, 1) := by decide +kernel
theorem dX1_goesOn_122 : decode cX1_goesOn 122 = .ok (.goto 4, 3) := by decide +kernel
theorem dX1_goesOn_125 : decode cX1_goesOn 125 = .ok (.iconst 0, 1) := by decide +kernel
theorem dX1_goesOn_126 : decode cX1_goesOn 126 = .ok (.ireturn, 1) := by decide +kernel
theorem dX1_goesOn_127 : decode cX1_goesOn 127 = .ok (.iload_n 2, 1) := by decide +kernel
theorem dX1_goesOn_128 : decode cX1_goesOn 128 = .ok (.invokestatic 38, 3) := by decide +kernel
theorem dX1_goesOn_131 : decode cX1_goesOn 131 = .ok (.ifCond .eq 17, 3) := by decide +kernel
theorem dX1_goesOn_134 : decode cX1_goesOn 134 = .ok (.aload_n 0, 1) := by decide +kernel
theorem dX1_goesOn_135 : decode cX1_goesOn 135 = .ok (.iload_n 1, 1) := by decide +kernel
theorem dX1_goesOn_136 : decode cX1_goesOn 136 = .ok (.invokevirtual 41, 3) := by decide +kernel
theorem dX1_goesOn_139 : decode cX1_goesOn 139 = .ok (.bipush 6, 2) := by decide +kernel
theorem dX1_goesOn_141 : decode cX1_goesOn 141 = .ok (.if_icmp .gt 7, 3) := by decide +kernel
theorem dX1_goesOn_144 : decode cX1_goesOn 144 = .ok (.iconst 1, 1) := by decide +kernel
theorem dX1_goesOn_145 : decode cX1_goesOn 145 = .ok (.goto 4, 3) := by decide +kernel
theorem dX1_goesOn_148 : decode cX1_goesOn 148 = .ok (.iconst 0, 1) := by decide +kernel
theorem dX1_goesOn_149 : decode cX1_goesOn 149 = .ok (.ireturn, 1) := by decide +kernel
theorem dX1_goesOn_150 : decode cX1_goesOn 150 = .ok (.iload_n 2, 1) := by decide +kernel
theorem dX1_goesOn_151 : decode cX1_goesOn 151 = .ok (.invokestatic 38, 3) := by decide +kernel
theorem dX1_goesOn_154 : decode cX1_goesOn 154 = .ok (.ifCond .eq 19, 3) := by decide +kernel
theorem dX1_goesOn_157 : decode cX1_goesOn 157 = .ok (.aload_n 0, 1) := by decide +kernel
theorem dX1_goesOn_158 : decode cX1_goesOn 158 = .ok (.iload_n 1, 1) := by decide +kernel
theorem dX1_goesOn_159 : decode cX1_goesOn 159 = .ok (.iconst 1, 1) := by decide +kernel
theorem dX1_goesOn_160 : decode cX1_goesOn 160 = .ok (.isub, 1) := by decide +kernel
theorem dX1_goesOn_161 : decode cX1_goesOn 161 = .ok (.invokevirtual 44, 3) := by decide +kernel
theorem dX1_goesOn_164 : decode cX1_goesOn 164 = .ok (.bipush 63, 2) := by decide +kernel
theorem dX1_goesOn_166 : decode cX1_goesOn 166 = .ok (.if_icmp .gt 7, 3) := by decide +kernel
theorem dX1_goesOn_169 : decode cX1_goesOn 169 = .ok (.iconst 1, 1) := by decide +kernel
theorem dX1_goesOn_170 : decode cX1_goesOn 170 = .ok (.goto 4, 3) := by decide +kernel
theorem dX1_goesOn_173 : decode cX1_goesOn 173 = .ok (.iconst 0, 1) := by decide +kernel
theorem dX1_goesOn_174 : decode cX1_goesOn 174 = .ok (.ireturn, 1) := by decide +kernel
theorem dX1_goesOn_175 : decode cX1_goesOn 175 = .ok (.iload_n 2, 1) := by decide +kernel
theorem dX1_goesOn_176 : decode cX1_goesOn 176 = .ok (.invokestatic 38, 3) := by decide +kernel
theorem dX1_goesOn_179 : decode cX1_goesOn 179 = .ok (.ifCond .eq 32, 3) := by decide +kernel
theorem dX1_goesOn_182 : decode cX1_goesOn 182 = .ok (.aload_n 0, 1) := by decide +kernel
theorem dX1_goesOn_183 : decode cX1_goesOn 183 = .ok (.iload_n 1, 1) := by decide +kernel
theorem dX1_goesOn_184 : decode cX1_goesOn 184 = .ok (.invokevirtual 41, 3) := by decide +kernel
theorem dX1_goesOn_187 : decode cX1_goesOn 187 = .ok (.bipush 6, 2) := by decide +kernel
theorem dX1_goesOn_189 : decode cX1_goesOn 189 = .ok (.if_icmp .gt 22, 3) := by decide +kernel
theorem dX1_goesOn_192 : decode cX1_goesOn 192 = .ok (.aload_n 0, 1) := by decide +kernel
theorem dX1_goesOn_193 : decode cX1_goesOn 193 = .ok (.iload_n 1, 1) := by decide +kernel
theorem dX1_goesOn_194 : decode cX1_goesOn 194 = .ok (.invokevirtual 41, 3) := by decide +kernel
theorem dX1_goesOn_197 : decode cX1_goesOn 197 = .ok (.aload_n 0, 1) := by decide +kernel
theorem dX1_goesOn_198 : decode cX1_goesOn 198 = .ok (.iload_n 1, 1) := by decide +kernel
theorem dX1_goesOn_199 : decode cX1_goesOn 199 = .ok (.iconst 2, 1) := by decide +kernel
theorem dX1_goesOn_200 : decode cX1_goesOn 200 = .ok (.isub, 1) := by decide +kernel
theorem dX1_goesOn_201 : decode cX1_goesOn 201 = .ok (.invokevirtual 41, 3) := by decide +kernel
theorem dX1_goesOn_204 : decode cX1_goesOn 204 = .ok (.if_icmp .lt 7, 3) := by decide +kernel
theorem dX1_goesOn_207 : decode cX1_goesOn 207 = .ok (.iconst 1, 1) := by decide +kernel
theorem dX1_goesOn_208 : decode cX1_goesOn 208 = .ok (.goto 4, 3) := by decide +kernel
theorem dX1_goesOn_211 : decode cX1_goesOn 211 = .ok (.iconst 0, 1) := by decide +kernel
theorem dX1_goesOn_212 : decode cX1_goesOn 212 = .ok (.ireturn, 1) := by decide +kernel
theorem dX1_goesOn_213 : decode cX1_goesOn 213 = .ok (.iload_n 2, 1) := by decide +kernel
theorem dX1_goesOn_214 : decode cX1_goesOn 214 = .ok (.invokestatic 38, 3) := by decide +kernel
theorem dX1_goesOn_217 : decode cX1_goesOn 217 = .ok (.ifCond .eq 36, 3) := by decide +kernel
theorem dX1_goesOn_220 : decode cX1_goesOn 220 = .ok (.aload_n 0, 1) := by decide +kernel
theorem dX1_goesOn_221 : decode cX1_goesOn 221 = .ok (.iload_n 1, 1) := by decide +kernel
theorem dX1_goesOn_222 : decode cX1_goesOn 222 = .ok (.iconst 1, 1) := by decide +kernel
theorem dX1_goesOn_223 : decode cX1_goesOn 223 = .ok (.isub, 1) := by decide +kernel
theorem dX1_goesOn_224 : decode cX1_goesOn 224 = .ok (.invokevirtual 44, 3) := by decide +kernel
theorem dX1_goesOn_227 : decode cX1_goesOn 227 = .ok (.bipush 63, 2) := by decide +kernel
theorem dX1_goesOn_229 : decode cX1_goesOn 229 = .ok (.if_icmp .gt 24, 3) := by decide +kernel
theorem dX1_goesOn_232 : decode cX1_goesOn 232 = .ok (.aload_n 0, 1) := by decide +kernel
theorem dX1_goesOn_233 : decode cX1_goesOn 233 = .ok (.iload_n 1, 1) := by decide +kernel
theorem dX1_goesOn_234 : decode cX1_goesOn 234 = .ok (.iconst 1, 1) := by decide +kernel
theorem dX1_goesOn_235 : decode cX1_goesOn 235 = .ok (.isub, 1) := by decide +kernel
theorem dX1_goesOn_236 : decode cX1_goesOn 236 = .ok (.invokevirtual 44, 3) := by decide +kernel
theorem dX1_goesOn_239 : decode cX1_goesOn 239 = .ok (.aload_n 0, 1) := by decide +kernel
theorem dX1_goesOn_240 : decode cX1_goesOn 240 = .ok (.iload_n 1, 1) := by decide +kernel
theorem dX1_goesOn_241 : decode cX1_goesOn 241 = .ok (.iconst 3, 1) := by decide +kernel
theorem dX1_goesOn_242 : decode cX1_goesOn 242 = .ok (.isub, 1) := by decide +kernel
theorem dX1_goesOn_243 : decode cX1_goesOn 243 = .ok (.invokevirtual 44, 3) := by decide +kernel
theorem dX1_goesOn_246 : decode cX1_goesOn 246 = .ok (.if_icmp .lt 7, 3) := by decide +kernel
theorem dX1_goesOn_249 : decode cX1_goesOn 249 = .ok (.iconst 1, 1) := by decide +kernel
theorem dX1_goesOn_250 : decode cX1_goesOn 250 = .ok (.goto 4, 3) := by decide +kernel
theorem dX1_goesOn_253 : decode cX1_goesOn 253 = .ok (.iconst 0, 1) := by decide +kernel
theorem dX1_goesOn_254 : decode cX1_goesOn 254 = .ok (.ireturn, 1) := by decide +kernel
theorem dX1_goesOn_255 : decode cX1_goesOn 255 = .ok (.iload_n 2, 1) := by decide +kernel
theorem dX1_goesOn_256 : decode cX1_goesOn 256 = .ok (.bipush 44, 2) := by decide +kernel
theorem dX1_goesOn_258 : decode cX1_goesOn 258 = .ok (.if_icmp .ne 7, 3) := by decide +kernel
theorem dX1_goesOn_261 : decode cX1_goesOn 261 = .ok (.iconst 1, 1) := by decide +kernel
theorem dX1_goesOn_262 : decode cX1_goesOn 262 = .ok (.goto 4, 3) := by decide +kernel
theorem dX1_goesOn_265 : decode cX1_goesOn 265 = .ok (.iconst 0, 1) := by decide +kernel
theorem dX1_goesOn_266 : decode cX1_goesOn 266 = .ok (.ireturn, 1) := by decide +kernel
theorem dX1_readTariff_0 : decode cX1_readTariff 0 = .ok (.ldc 31, 2) := by decide +kernel
theorem dX1_readTariff_2 : decode cX1_readTariff 2 = .ok (.aload_n 0, 1) := by decide +kernel
theorem dX1_readTariff_3 : decode cX1_readTariff 3 = .ok (.iload_n 1, 1) := by decide +kernel
theorem dX1_readTariff_4 : decode cX1_readTariff 4 = .ok (.invokevirtual 27, 3) := by decide +kernel
theorem dX1_readTariff_7 : decode cX1_readTariff 7 = .ok (.i2c, 1) := by decide +kernel
theorem dX1_readTariff_8 : decode cX1_readTariff 8 = .ok (.invokevirtual 33, 3) := by decide +kernel
theorem dX1_readTariff_11 : decode cX1_readTariff 11 = .ok (.istore_n 3, 1) := by decide +kernel
theorem dX1_readTariff_12 : decode cX1_readTariff 12 = .ok (.aload_n 0, 1) := by decide +kernel
theorem dX1_readTariff_13 : decode cX1_readTariff 13 = .ok (.iload_n 1, 1) := by decide +kernel
theorem dX1_readTariff_14 : decode cX1_readTariff 14 = .ok (.iconst 1, 1) := by decide +kernel
theorem dX1_readTariff_15 : decode cX1_readTariff 15 = .ok (.iadd, 1) := by decide +kernel
theorem dX1_readTariff_16 : decode cX1_readTariff 16 = .ok (.invokevirtual 47, 3) := by decide +kernel
theorem dX1_readTariff_19 : decode cX1_readTariff 19 = .ok (.aload_n 0, 1) := by decide +kernel
theorem dX1_readTariff_20 : decode cX1_readTariff 20 = .ok (.iload_n 1, 1) := by decide +kernel
theorem dX1_readTariff_21 : decode cX1_readTariff 21 = .ok (.iconst 2, 1) := by decide +kernel
theorem dX1_readTariff_22 : decode cX1_readTariff 22 = .ok (.iadd, 1) := by decide +kernel
theorem dX1_readTariff_23 : decode cX1_readTariff 23 = .ok (.invokevirtual 41, 3) := by decide +kernel
theorem dX1_readTariff_26 : decode cX1_readTariff 26 = .ok (.imul, 1) := by decide +kernel
theorem dX1_readTariff_27 : decode cX1_readTariff 27 = .ok (.istore 4, 2) := by decide +kernel
theorem dX1_readTariff_29 : decode cX1_readTariff 29 = .ok (.aload_n 0, 1) := by decide +kernel
theorem dX1_readTariff_30 : decode cX1_readTariff 30 = .ok (.iload_n 1, 1) := by decide +kernel
theorem dX1_readTariff_31 : decode cX1_readTariff 31 = .ok (.iconst 3, 1) := by decide +kernel
theorem dX1_readTariff_32 : decode cX1_readTariff 32 = .ok (.iadd, 1) := by decide +kernel
theorem dX1_readTariff_33 : decode cX1_readTariff 33 = .ok (.invokevirtual 47, 3) := by decide +kernel
theorem dX1_readTariff_36 : decode cX1_readTariff 36 = .ok (.aload_n 0, 1) := by decide +kernel
theorem dX1_readTariff_37 : decode cX1_readTariff 37 = .ok (.iload_n 1, 1) := by decide +kernel
theorem dX1_readTariff_38 : decode cX1_readTariff 38 = .ok (.iconst 4, 1) := by decide +kernel
theorem dX1_readTariff_39 : decode cX1_readTariff 39 = .ok (.iadd, 1) := by decide +kernel
theorem dX1_readTariff_40 : decode cX1_readTariff 40 = .ok (.invokevirtual 44, 3) := by decide +kernel
theorem dX1_readTariff_43 : decode cX1_readTariff 43 = .ok (.imul, 1) := by decide +kernel
theorem dX1_readTariff_44 : decode cX1_readTariff 44 = .ok (.istore 5, 2) := by decide +kernel
theorem dX1_readTariff_46 : decode cX1_readTariff 46 = .ok (.aload_n 2, 1) := by decide +kernel
theorem dX1_readTariff_47 : decode cX1_readTariff 47 = .ok (.iload_n 3, 1) := by decide +kernel
theorem dX1_readTariff_48 : decode cX1_readTariff 48 = .ok (.iload 4, 2) := by decide +kernel
theorem dX1_readTariff_50 : decode cX1_readTariff 50 = .ok (.iload 5, 2) := by decide +kernel
theorem dX1_readTariff_52 : decode cX1_readTariff 52 = .ok (.aload_n 0, 1) := by decide +kernel
theorem dX1_readTariff_53 : decode cX1_readTariff 53 = .ok (.iload_n 1, 1) := by decide +kernel
theorem dX1_readTariff_54 : decode cX1_readTariff 54 = .ok (.bipush 7, 2) := by decide +kernel
theorem dX1_readTariff_56 : decode cX1_readTariff 56 = .ok (.iadd, 1) := by decide +kernel
theorem dX1_readTariff_57 : decode cX1_readTariff 57 = .ok (.invokevirtual 44, 3) := by decide +kernel
theorem dX1_readTariff_60 : decode cX1_readTariff 60 = .ok (.aload_n 0, 1) := by decide +kernel
theorem dX1_readTariff_61 : decode cX1_readTariff 61 = .ok (.iload_n 1, 1) := by decide +kernel
theorem dX1_readTariff_62 : decode cX1_readTariff 62 = .ok (.bipush 9, 2) := by decide +kernel
theorem dX1_readTariff_64 : decode cX1_readTariff 64 = .ok (.iadd, 1) := by decide +kernel
theorem dX1_readTariff_65 : decode cX1_readTariff 65 = .ok (.invokevirtual 44, 3) := by decide +kernel
theorem dX1_readTariff_68 : decode cX1_readTariff 68 = .ok (.invokevirtual 50, 3) := by decide +kernel
theorem dX1_readTariff_71 : decode cX1_readTariff 71 = .ok (.return_, 1) := by decide +kernel
theorem dX1_isDigit_0 : decode cX1_isDigit 0 = .ok (.iload_n 0, 1) := by decide +kernel
theorem dX1_isDigit_1 : decode cX1_isDigit 1 = .ok (.bipush 48, 2) := by decide +kernel
theorem dX1_isDigit_3 : decode cX1_isDigit 3 = .ok (.if_icmp .lt 13, 3) := by decide +kernel
theorem dX1_isDigit_6 : decode cX1_isDigit 6 = .ok (.iload_n 0, 1) := by decide +kernel
theorem dX1_isDigit_7 : decode cX1_isDigit 7 = .ok (.bipush 57, 2) := by decide +kernel
theorem dX1_isDigit_9 : decode cX1_isDigit 9 = .ok (.if_icmp .gt 7, 3) := by decide +kernel
theorem dX1_isDigit_12 : decode cX1_isDigit 12 = .ok (.iconst 1, 1) := by decide +kernel
theorem dX1_isDigit_13 : decode cX1_isDigit 13 = .ok (.goto 4, 3) := by decide +kernel
theorem dX1_isDigit_16 : decode cX1_isDigit 16 = .ok (.iconst 0, 1) := by decide +kernel
theorem dX1_isDigit_17 : decode cX1_isDigit 17 = .ok (.ireturn, 1) := by decide +kernel
theorem dX1_signAt_0 : decode cX1_signAt 0 = .ok (.aload_n 0, 1) := by decide +kernel
theorem dX1_signAt_1 : decode cX1_signAt 1 = .ok (.iload_n 1, 1) := by decide +kernel
theorem dX1_signAt_2 : decode cX1_signAt 2 = .ok (.invokevirtual 27, 3) := by decide +kernel
theorem dX1_signAt_5 : decode cX1_signAt 5 = .ok (.bipush 45, 2) := by decide +kernel
theorem dX1_signAt_7 : decode cX1_signAt 7 = .ok (.if_icmp .ne 7, 3) := by decide +kernel
theorem dX1_signAt_10 : decode cX1_signAt 10 = .ok (.iconst (-1), 1) := by decide +kernel
theorem dX1_signAt_11 : decode cX1_signAt 11 = .ok (.goto 4, 3) := by decide +kernel
theorem dX1_signAt_14 : decode cX1_signAt 14 = .ok (.iconst 1, 1) := by decide +kernel
theorem dX1_signAt_15 : decode cX1_signAt 15 = .ok (.ireturn, 1) := by decide +kernel
theorem dX1_digitAt_0 : decode cX1_digitAt 0 = .ok (.aload_n 0, 1) := by decide +kernel
theorem dX1_digitAt_1 : decode cX1_digitAt 1 = .ok (.iload_n 1, 1) := by decide +kernel
theorem dX1_digitAt_2 : decode cX1_digitAt 2 = .ok (.invokevirtual 27, 3) := by decide +kernel
theorem dX1_digitAt_5 : decode cX1_digitAt 5 = .ok (.bipush 48, 2) := by decide +kernel
theorem dX1_digitAt_7 : decode cX1_digitAt 7 = .ok (.isub, 1) := by decide +kernel
theorem dX1_digitAt_8 : decode cX1_digitAt 8 = .ok (.ireturn, 1) := by decide +kernel
theorem dX1_pairAt_0 : decode cX1_pairAt 0 = .ok (.bipush 10, 2) := by decide +kernel
theorem dX1_pairAt_2 : decode cX1_pairAt 2 = .ok (.aload_n 0, 1) := by decide +kernel
theorem dX1_pairAt_3 : decode cX1_pairAt 3 = .ok (.iload_n 1, 1) := by decide +kernel
theorem dX1_pairAt_4 : decode cX1_pairAt 4 = .ok (.invokevirtual 41, 3) := by decide +kernel
theorem dX1_pairAt_7 : decode cX1_pairAt 7 = .ok (.imul, 1) := by decide +kernel
theorem dX1_pairAt_8 : decode cX1_pairAt 8 = .ok (.aload_n 0, 1) := by decide +kernel
theorem dX1_pairAt_9 : decode cX1_pairAt 9 = .ok (.iload_n 1, 1) := by decide +kernel
theorem dX1_pairAt_10 : decode cX1_pairAt 10 = .ok (.iconst 1, 1) := by decide +kernel
theorem dX1_pairAt_11 : decode cX1_pairAt 11 = .ok (.iadd, 1) := by decide +kernel
theorem dX1_pairAt_12 : decode cX1_pairAt 12 = .ok (.invokevirtual 41, 3) := by decide +kernel
theorem dX1_pairAt_15 : decode cX1_pairAt 15 = .ok (.iadd, 1) := by decide +kernel
theorem dX1_pairAt_16 : decode cX1_pairAt 16 = .ok (.ireturn, 1) := by decide +kernel
theorem dX2_init_0 : decode cX2_init 0 = .ok (.aload_n 0, 1) := by decide +kernel
theorem dX2_init_1 : decode cX2_init 1 = .ok (.invokespecial 3, 3) := by decide +kernel
theorem dX2_init_4 : decode cX2_init 4 = .ok (.aload_n 0, 1) := by decide +kernel
theorem dX2_init_5 : decode cX2_init 5 = .ok (.bipush 6, 2) := by decide +kernel
theorem dX2_init_7 : decode cX2_init 7 = .ok (.newarray .int, 2) := by decide +kernel
theorem dX2_init_9 : decode cX2_init 9 = .ok (.putfield 9, 3) := by decide +kernel
theorem dX2_init_12 : decode cX2_init 12 = .ok (.aload_n 0, 1) := by decide +kernel
theorem dX2_init_13 : decode cX2_init 13 = .ok (.bipush 6, 2) := by decide +kernel
theorem dX2_init_15 : decode cX2_init 15 = .ok (.newarray .int, 2) := by decide +kernel
theorem dX2_init_17 : decode cX2_init 17 = .ok (.putfield 15, 3) := by decide +kernel
theorem dX2_init_20 : decode cX2_init 20 = .ok (.aload_n 0, 1) := by decide +kernel
theorem dX2_init_21 : decode cX2_init 21 = .ok (.bipush 6, 2) := by decide +kernel
theorem dX2_init_23 : decode cX2_init 23 = .ok (.newarray .int, 2) := by decide +kernel
theorem dX2_init_25 : decode cX2_init 25 = .ok (.putfield 18, 3) := by decide +kernel
theorem dX2_init_28 : decode cX2_init 28 = .ok (.aload_n 0, 1) := by decide +kernel
theorem dX2_init_29 : decode cX2_init 29 = .ok (.iconst 5, 1) := by decide +kernel
theorem dX2_init_30 : decode cX2_init 30 = .ok (.newarray .long, 2) := by decide +kernel
theorem dX2_init_32 : decode cX2_init 32 = .ok (.putfield 21, 3) := by decide +kernel
theorem dX2_init_35 : decode cX2_init 35 = .ok (.return_, 1) := by decide +kernel
theorem dX2_write_0 : decode cX2_write 0 = .ok (.aload_n 0, 1) := by decide +kernel
theorem dX2_write_1 : decode cX2_write 1 = .ok (.getfield 25, 3) := by decide +kernel
theorem dX2_write_4 : decode cX2_write 4 = .ok (.ifCond .lt 12, 3) := by decide +kernel
theorem dX2_write_7 : decode cX2_write 7 = .ok (.aload_n 0, 1) := by decide +kernel
theorem dX2_write_8 : decode cX2_write 8 = .ok (.getfield 25, 3) := by decide +kernel
theorem dX2_write_11 : decode cX2_write 11 = .ok (.bipush 6, 2) := by decide +kernel
theorem dX2_write_13 : decode cX2_write 13 = .ok (.if_icmp .lt 5, 3) := by decide +kernel
theorem dX2_write_16 : decode cX2_write 16 = .ok (.iconst 0, 1) := by decide +kernel
theorem dX2_write_17 : decode cX2_write 17 = .ok (.ireturn, 1) := by decide +kernel
theorem dX2_write_18 : decode cX2_write 18 = .ok (.aload_n 0, 1) := by decide +kernel
theorem dX2_write_19 : decode cX2_write 19 = .ok (.getfield 9, 3) := by decide +kernel
theorem dX2_write_22 : decode cX2_write 22 = .ok (.aload_n 0, 1) := by decide +kernel
theorem dX2_write_23 : decode cX2_write 23 = .ok (.getfield 25, 3) := by decide +kernel
theorem dX2_write_26 : decode cX2_write 26 = .ok (.iload_n 1, 1) := by decide +kernel
theorem dX2_write_27 : decode cX2_write 27 = .ok (.iastore, 1) := by decide +kernel
theorem dX2_write_28 : decode cX2_write 28 = .ok (.aload_n 0, 1) := by decide +kernel
theorem dX2_write_29 : decode cX2_write 29 = .ok (.getfield 15, 3) := by decide +kernel
theorem dX2_write_32 : decode cX2_write 32 = .ok (.aload_n 0, 1) := by decide +kernel
theorem dX2_write_33 : decode cX2_write 33 = .ok (.getfield 25, 3) := by decide +kernel
theorem dX2_write_36 : decode cX2_write 36 = .ok (.iload_n 2, 1) := by decide +kernel
theorem dX2_write_37 : decode cX2_write 37 = .ok (.iastore, 1) := by decide +kernel
theorem dX2_write_38 : decode cX2_write 38 = .ok (.aload_n 0, 1) := by decide +kernel
theorem dX2_write_39 : decode cX2_write 39 = .ok (.getfield 18, 3) := by decide +kernel
theorem dX2_write_42 : decode cX2_write 42 = .ok (.aload_n 0, 1) := by decide +kernel
theorem dX2_write_43 : decode cX2_write 43 = .ok (.getfield 25, 3) := by decide +kernel
theorem dX2_write_46 : decode cX2_write 46 = .ok (.iload_n 3, 1) := by decide +kernel
theorem dX2_write_47 : decode cX2_write 47 = .ok (.iastore, 1) := by decide +kernel
theorem dX2_write_48 : decode cX2_write 48 = .ok (.aload_n 0, 1) := by decide +kernel
theorem dX2_write_49 : decode cX2_write 49 = .ok (.dup, 1) := by decide +kernel
theorem dX2_write_50 : decode cX2_write 50 = .ok (.getfield 25, 3) := by decide +kernel
theorem dX2_write_53 : decode cX2_write 53 = .ok (.iconst 1, 1) := by decide +kernel
theorem dX2_write_54 : decode cX2_write 54 = .ok (.iadd, 1) := by decide +kernel
theorem dX2_write_55 : decode cX2_write 55 = .ok (.putfield 25, 3) := by decide +kernel
theorem dX2_write_58 : decode cX2_write 58 = .ok (.iconst 1, 1) := by decide +kernel
theorem dX2_write_59 : decode cX2_write 59 = .ok (.ireturn, 1) := by decide +kernel
theorem dX2_copyFrom_0 : decode cX2_copyFrom 0 = .ok (.aload_n 0, 1) := by decide +kernel
theorem dX2_copyFrom_1 : decode cX2_copyFrom 1 = .ok (.iconst 0, 1) := by decide +kernel
theorem dX2_copyFrom_2 : decode cX2_copyFrom 2 = .ok (.putfield 25, 3) := by decide +kernel
theorem dX2_copyFrom_5 : decode cX2_copyFrom 5 = .ok (.iconst 0, 1) := by decide +kernel
theorem dX2_copyFrom_6 : decode cX2_copyFrom 6 = .ok (.istore_n 2, 1) := by decide +kernel
theorem dX2_copyFrom_7 : decode cX2_copyFrom 7 = .ok (.iload_n 2, 1) := by decide +kernel
theorem dX2_copyFrom_8 : decode cX2_copyFrom 8 = .ok (.aload_n 1, 1) := by decide +kernel
theorem dX2_copyFrom_9 : decode cX2_copyFrom 9 = .ok (.getfield 25, 3) := by decide +kernel
theorem dX2_copyFrom_12 : decode cX2_copyFrom 12 = .ok (.if_icmp .ge 38, 3) := by decide +kernel
theorem dX2_copyFrom_15 : decode cX2_copyFrom 15 = .ok (.iload_n 2, 1) := by decide +kernel
theorem dX2_copyFrom_16 : decode cX2_copyFrom 16 = .ok (.bipush 6, 2) := by decide +kernel
theorem dX2_copyFrom_18 : decode cX2_copyFrom 18 = .ok (.if_icmp .ge 32, 3) := by decide +kernel
theorem dX2_copyFrom_21 : decode cX2_copyFrom 21 = .ok (.aload_n 0, 1) := by decide +kernel
theorem dX2_copyFrom_22 : decode cX2_copyFrom 22 = .ok (.aload_n 1, 1) := by decide +kernel
theorem dX2_copyFrom_23 : decode cX2_copyFrom 23 = .ok (.getfield 9, 3) := by decide +kernel
theorem dX2_copyFrom_26 : decode cX2_copyFrom 26 = .ok (.iload_n 2, 1) := by decide +kernel
theorem dX2_copyFrom_27 : decode cX2_copyFrom 27 = .ok (.iaload, 1) := by decide +kernel
theorem dX2_copyFrom_28 : decode cX2_copyFrom 28 = .ok (.aload_n 1, 1) := by decide +kernel
theorem dX2_copyFrom_29 : decode cX2_copyFrom 29 = .ok (.getfield 15, 3) := by decide +kernel
theorem dX2_copyFrom_32 : decode cX2_copyFrom 32 = .ok (.iload_n 2, 1) := by decide +kernel
theorem dX2_copyFrom_33 : decode cX2_copyFrom 33 = .ok (.iaload, 1) := by decide +kernel
theorem dX2_copyFrom_34 : decode cX2_copyFrom 34 = .ok (.aload_n 1, 1) := by decide +kernel
theorem dX2_copyFrom_35 : decode cX2_copyFrom 35 = .ok (.getfield 18, 3) := by decide +kernel
theorem dX2_copyFrom_38 : decode cX2_copyFrom 38 = .ok (.iload_n 2, 1) := by decide +kernel
theorem dX2_copyFrom_39 : decode cX2_copyFrom 39 = .ok (.iaload, 1) := by decide +kernel
theorem dX2_copyFrom_40 : decode cX2_copyFrom 40 = .ok (.invokevirtual 29, 3) := by decide +kernel
theorem dX2_copyFrom_43 : decode cX2_copyFrom 43 = .ok (.pop, 1) := by decide +kernel
theorem dX2_copyFrom_44 : decode cX2_copyFrom 44 = .ok (.iinc 2 1, 3) := by decide +kernel
theorem dX2_copyFrom_47 : decode cX2_copyFrom 47 = .ok (.goto (-40), 3) := by decide +kernel
theorem dX2_copyFrom_50 : decode cX2_copyFrom 50 = .ok (.return_, 1) := by decide +kernel
theorem dX2_sortsOf_0 : decode cX2_sortsOf 0 = .ok (.iconst 0, 1) := by decide +kernel
theorem dX2_sortsOf_1 : decode cX2_sortsOf 1 = .ok (.istore_n 3, 1) := by decide +kernel
theorem dX2_sortsOf_2 : decode cX2_sortsOf 2 = .ok (.iconst 0, 1) := by decide +kernel
theorem dX2_sortsOf_3 : decode cX2_sortsOf 3 = .ok (.istore 4, 2) := by decide +kernel
theorem dX2_sortsOf_5 : decode cX2_sortsOf 5 = .ok (.iload 4, 2) := by decide +kernel
theorem dX2_sortsOf_7 : decode cX2_sortsOf 7 = .ok (.iconst 5, 1) := by decide +kernel
theorem dX2_sortsOf_8 : decode cX2_sortsOf 8 = .ok (.if_icmp .ge 27, 3) := by decide +kernel
theorem dX2_sortsOf_11 : decode cX2_sortsOf 11 = .ok (.aload_n 0, 1) := by decide +kernel
theorem dX2_sortsOf_12 : decode cX2_sortsOf 12 = .ok (.iload 4, 2) := by decide +kernel
theorem dX2_sortsOf_14 : decode cX2_sortsOf 14 = .ok (.iload_n 1, 1) := by decide +kernel
theorem dX2_sortsOf_15 : decode cX2_sortsOf 15 = .ok (.aload_n 2, 1) := by decide +kernel
theorem dX2_sortsOf_16 : decode cX2_sortsOf 16 = .ok (.invokevirtual 33, 3) := by decide +kernel
theorem dX2_sortsOf_19 : decode cX2_sortsOf 19 = .ok (.ifCond .eq 10, 3) := by decide +kernel
theorem dX2_sortsOf_22 : decode cX2_sortsOf 22 = .ok (.iload_n 3, 1) := by decide +kernel
theorem dX2_sortsOf_23 : decode cX2_sortsOf 23 = .ok (.iconst 1, 1) := by decide +kernel
theorem dX2_sortsOf_24 : decode cX2_sortsOf 24 = .ok (.iload 4, 2) := by decide +kernel
theorem dX2_sortsOf_26 : decode cX2_sortsOf 26 = .ok (.ishl, 1) := by decide +kernel
theorem dX2_sortsOf_27 : decode cX2_sortsOf 27 = .ok (.ior, 1) := by decide +kernel
theorem dX2_sortsOf_28 : decode cX2_sortsOf 28 = .ok (.istore_n 3, 1) := by decide +kernel
theorem dX2_sortsOf_29 : decode cX2_sortsOf 29 = .ok (.iinc 4 1, 3) := by decide +kernel
theorem dX2_sortsOf_32 : decode cX2_sortsOf 32 = .ok (.goto (-27), 3) := by decide +kernel
theorem dX2_sortsOf_35 : decode cX2_sortsOf 35 = .ok (.iload_n 3, 1) := by decide +kernel
theorem dX2_sortsOf_36 : decode cX2_sortsOf 36 = .ok (.ireturn, 1) := by decide +kernel
theorem dX2_nextToAsk_0 : decode cX2_nextToAsk 0 = .ok (.aload_n 0, 1) := by decide +kernel
theorem dX2_nextToAsk_1 : decode cX2_nextToAsk 1 = .ok (.iload_n 1, 1) := by decide +kernel
theorem dX2_nextToAsk_2 : decode cX2_nextToAsk 2 = .ok (.aload_n 2, 1) := by decide +kernel
theorem dX2_nextToAsk_3 : decode cX2_nextToAsk 3 = .ok (.invokevirtual 37, 3) := by decide +kernel
theorem dX2_nextToAsk_6 : decode cX2_nextToAsk 6 = .ok (.istore_n 3, 1) := by decide +kernel
theorem dX2_nextToAsk_7 : decode cX2_nextToAsk 7 = .ok (.iconst (-1), 1) := by decide +kernel
theorem dX2_nextToAsk_8 : decode cX2_nextToAsk 8 = .ok (.istore 4, 2) := by decide +kernel
theorem dX2_nextToAsk_10 : decode cX2_nextToAsk 10 = .ok (.bipush 6, 2) := by decide +kernel
theorem dX2_nextToAsk_12 : decode cX2_nextToAsk 12 = .ok (.istore 5, 2) := by decide +kernel
theorem dX2_nextToAsk_14 : decode cX2_nextToAsk 14 = .ok (.aload_n 2, 1) := by decide +kernel
theorem dX2_nextToAsk_15 : decode cX2_nextToAsk 15 = .ok (.getfield 41, 3) := by decide +kernel
theorem dX2_nextToAsk_18 : decode cX2_nextToAsk 18 = .ok (.istore 6, 2) := by decide +kernel
theorem dX2_nextToAsk_20 : decode cX2_nextToAsk 20 = .ok (.iload_n 3, 1) := by decide +kernel
theorem dX2_nextToAsk_21 : decode cX2_nextToAsk 21 = .ok (.ifCond .eq 43, 3) := by decide +kernel
theorem dX2_nextToAsk_24 : decode cX2_nextToAsk 24 = .ok (.iload 6, 2) := by decide +kernel
theorem dX2_nextToAsk_26 : decode cX2_nextToAsk 26 = .ok (.aload_n 2, 1) := by decide +kernel
theorem dX2_nextToAsk_27 : decode cX2_nextToAsk 27 = .ok (.getfield 46, 3) := by decide +kernel
theorem dX2_nextToAsk_30 : decode cX2_nextToAsk 30 = .ok (.if_icmp .gt 34, 3) := by decide +kernel
theorem dX2_nextToAsk_33 : decode cX2_nextToAsk 33 = .ok (.aload_n 0, 1) := by decide +kernel
theorem dX2_nextToAsk_34 : decode cX2_nextToAsk 34 = .ok (.iload_n 3, 1) := by decide +kernel
theorem dX2_nextToAsk_35 : decode cX2_nextToAsk 35 = .ok (.aload_n 2, 1) := by decide +kernel
theorem dX2_nextToAsk_36 : decode cX2_nextToAsk 36 = .ok (.iload 6, 2) := by decide +kernel
theorem dX2_nextToAsk_38 : decode cX2_nextToAsk 38 = .ok (.invokevirtual 49, 3) := by decide +kernel
theorem dX2_nextToAsk_41 : decode cX2_nextToAsk 41 = .ok (.istore 7, 2) := by decide +kernel
theorem dX2_nextToAsk_43 : decode cX2_nextToAsk 43 = .ok (.iload 7, 2) := by decide +kernel
theorem dX2_nextToAsk_45 : decode cX2_nextToAsk 45 = .ok (.iload 5, 2) := by decide +kernel
theorem dX2_nextToAsk_47 : decode cX2_nextToAsk 47 = .ok (.if_icmp .ge 11, 3) := by decide +kernel
theorem dX2_nextToAsk_50 : decode cX2_nextToAsk 50 = .ok (.iload 7, 2) := by decide +kernel
theorem dX2_nextToAsk_52 : decode cX2_nextToAsk 52 = .ok (.istore 5, 2) := by decide +kernel
theorem dX2_nextToAsk_54 : decode cX2_nextToAsk 54 = .ok (.iload 6, 2) := by decide +kernel
theorem dX2_nextToAsk_56 : decode cX2_nextToAsk 56 = .ok (.istore 4, 2) := by decide +kernel
theorem dX2_nextToAsk_58 : decode cX2_nextToAsk 58 = .ok (.iinc 6 1, 3) := by decide +kernel
theorem dX2_nextToAsk_61 : decode cX2_nextToAsk 61 = .ok (.goto (-41), 3) := by decide +kernel
theorem dX2_nextToAsk_64 : decode cX2_nextToAsk 64 = .ok (.iload 4, 2) := by decide +kernel
theorem dX2_nextToAsk_66 : decode cX2_nextToAsk 66 = .ok (.ireturn, 1) := by decide +kernel
theorem dX2_canBe_0 : decode cX2_canBe 0 = .ok (.iconst 0, 1) := by decide +kernel
theorem dX2_canBe_1 : decode cX2_canBe 1 = .ok (.istore 4, 2) := by decide +kernel
theorem dX2_canBe_3 : decode cX2_canBe 3 = .ok (.iload 4, 2) := by decide +kernel
theorem dX2_canBe_5 : decode cX2_canBe 5 = .ok (.aload_n 0, 1) := by decide +kernel
theorem dX2_canBe_6 : decode cX2_canBe 6 = .ok (.getfield 25, 3) := by decide +kernel
theorem dX2_canBe_9 : decode cX2_canBe 9 = .ok (.if_icmp .ge 53, 3) := by decide +kernel
theorem dX2_canBe_12 : decode cX2_canBe 12 = .ok (.iload 4, 2) := by decide +kernel
theorem dX2_canBe_14 : decode cX2_canBe 14 = .ok (.bipush 6, 2) := by decide +kernel
theorem dX2_canBe_16 : decode cX2_canBe 16 = .ok (.if_icmp .ge 46, 3) := by decide +kernel
theorem dX2_canBe_19 : decode cX2_canBe 19 = .ok (.aload_n 0, 1) := by decide +kernel
theorem dX2_canBe_20 : decode cX2_canBe 20 = .ok (.getfield 9, 3) := by decide +kernel
theorem dX2_canBe_23 : decode cX2_canBe 23 = .ok (.iload 4, 2) := by decide +kernel
theorem dX2_canBe_25 : decode cX2_canBe 25 = .ok (.iaload, 1) := by decide +kernel
theorem dX2_canBe_26 : decode cX2_canBe 26 = .ok (.iload_n 2, 1) := by decide +kernel
theorem dX2_canBe_27 : decode cX2_canBe 27 = .ok (.if_icmp .ne 29, 3) := by decide +kernel
theorem dX2_canBe_30 : decode cX2_canBe 30 = .ok (.aload_n 3, 1) := by decide +kernel
theorem dX2_canBe_31 : decode cX2_canBe 31 = .ok (.iload_n 1, 1) := by decide +kernel
theorem dX2_canBe_32 : decode cX2_canBe 32 = .ok (.aload_n 0, 1) := by decide +kernel
theorem dX2_canBe_33 : decode cX2_canBe 33 = .ok (.getfield 15, 3) := by decide +kernel
theorem dX2_canBe_36 : decode cX2_canBe 36 = .ok (.iload 4, 2) := by decide +kernel
theorem dX2_canBe_38 : decode cX2_canBe 38 = .ok (.iaload, 1) := by decide +kernel
theorem dX2_canBe_39 : decode cX2_canBe 39 = .ok (.invokevirtual 53, 3) := by decide +kernel
theorem dX2_canBe_42 : decode cX2_canBe 42 = .ok (.aload_n 0, 1) := by decide +kernel
theorem dX2_canBe_43 : decode cX2_canBe 43 = .ok (.getfield 18, 3) := by decide +kernel
theorem dX2_canBe_46 : decode cX2_canBe 46 = .ok (.iload 4, 2) := by decide +kernel
theorem dX2_canBe_48 : decode cX2_canBe 48 = .ok (.iaload, 1) := by decide +kernel
theorem dX2_canBe_49 : decode cX2_canBe 49 = .ok (.i2l, 1) := by decide +kernel
theorem dX2_canBe_50 : decode cX2_canBe 50 = .ok (.lcmp, 1) := by decide +kernel
theorem dX2_canBe_51 : decode cX2_canBe 51 = .ok (.ifCond .eq 5, 3) := by decide +kernel
theorem dX2_canBe_54 : decode cX2_canBe 54 = .ok (.iconst 0, 1) := by decide +kernel
theorem dX2_canBe_55 : decode cX2_canBe 55 = .ok (.ireturn, 1) := by decide +kernel
theorem dX2_canBe_56 : decode cX2_canBe 56 = .ok (.iinc 4 1, 3) := by decide +kernel
theorem dX2_canBe_59 : decode cX2_canBe 59 = .ok (.goto (-56), 3) := by decide +kernel
theorem dX2_canBe_62 : decode cX2_canBe 62 = .ok (.iconst 1, 1) := by decide +kernel
theorem dX2_canBe_63 : decode cX2_canBe 63 = .ok (.ireturn, 1) := by decide +kernel
theorem dX2_leftAtWorst_0 : decode cX2_leftAtWorst 0 = .ok (.iconst 0, 1) := by decide +kernel
theorem dX2_leftAtWorst_1 : decode cX2_leftAtWorst 1 = .ok (.istore 4, 2) := by decide +kernel
theorem dX2_leftAtWorst_3 : decode cX2_leftAtWorst 3 = .ok (.iconst 0, 1) := by decide +kernel
theorem dX2_leftAtWorst_4 : decode cX2_leftAtWorst 4 = .ok (.istore 5, 2) := by decide +kernel
theorem dX2_leftAtWorst_6 : decode cX2_leftAtWorst 6 = .ok (.iload 5, 2) := by decide +kernel
theorem dX2_leftAtWorst_8 : decode cX2_leftAtWorst 8 = .ok (.iconst 5, 1) := by decide +kernel
theorem dX2_leftAtWorst_9 : decode cX2_leftAtWorst 9 = .ok (.if_icmp .ge 92, 3) := by decide +kernel
theorem dX2_leftAtWorst_12 : decode cX2_leftAtWorst 12 = .ok (.aload_n 0, 1) := by decide +kernel
theorem dX2_leftAtWorst_13 : decode cX2_leftAtWorst 13 = .ok (.getfield 21, 3) := by decide +kernel
theorem dX2_leftAtWorst_16 : decode cX2_leftAtWorst 16 = .ok (.iload 5, 2) := by decide +kernel
theorem dX2_leftAtWorst_18 : decode cX2_leftAtWorst 18 = .ok (.aload_n 2, 1) := by decide +kernel
theorem dX2_leftAtWorst_19 : decode cX2_leftAtWorst 19 = .ok (.iload 5, 2) := by decide +kernel
theorem dX2_leftAtWorst_21 : decode cX2_leftAtWorst 21 = .ok (.iload_n 3, 1) := by decide +kernel
theorem dX2_leftAtWorst_22 : decode cX2_leftAtWorst 22 = .ok (.invokevirtual 53, 3) := by decide +kernel
theorem dX2_leftAtWorst_25 : decode cX2_leftAtWorst 25 = .ok (.lastore, 1) := by decide +kernel
theorem dX2_leftAtWorst_26 : decode cX2_leftAtWorst 26 = .ok (.iconst 0, 1) := by decide +kernel
theorem dX2_leftAtWorst_27 : decode cX2_leftAtWorst 27 = .ok (.istore 6, 2) := by decide +kernel
theorem dX2_leftAtWorst_29 : decode cX2_leftAtWorst 29 = .ok (.iconst 0, 1) := by decide +kernel
theorem dX2_leftAtWorst_30 : decode cX2_leftAtWorst 30 = .ok (.istore 7, 2) := by decide +kernel
theorem dX2_leftAtWorst_32 : decode cX2_leftAtWorst 32 = .ok (.iload 7, 2) := by decide +kernel
theorem dX2_leftAtWorst_34 : decode cX2_leftAtWorst 34 = .ok (.iload 5, 2) := by decide +kernel
theorem dX2_leftAtWorst_36 : decode cX2_leftAtWorst 36 = .ok (.if_icmp .gt 40, 3) := by decide +kernel
theorem dX2_leftAtWorst_39 : decode cX2_leftAtWorst 39 = .ok (.iload_n 1, 1) := by decide +kernel
theorem dX2_leftAtWorst_40 : decode cX2_leftAtWorst 40 = .ok (.iload 7, 2) := by decide +kernel
theorem dX2_leftAtWorst_42 : decode cX2_leftAtWorst 42 = .ok (.ishr, 1) := by decide +kernel
theorem dX2_leftAtWorst_43 : decode cX2_leftAtWorst 43 = .ok (.iconst 1, 1) := by decide +kernel
theorem dX2_leftAtWorst_44 : decode cX2_leftAtWorst 44 = .ok (.iand, 1) := by decide +kernel
theorem dX2_leftAtWorst_45 : decode cX2_leftAtWorst 45 = .ok (.iconst 1, 1) := by decide +kernel
theorem dX2_leftAtWorst_46 : decode cX2_leftAtWorst 46 = .ok (.if_icmp .ne 24, 3) := by decide +kernel
theorem dX2_leftAtWorst_49 : decode cX2_leftAtWorst 49 = .ok (.aload_n 0, 1) := by decide +kernel
theorem dX2_leftAtWorst_50 : decode cX2_leftAtWorst 50 = .ok (.getfield 21, 3) := by decide +kernel
theorem dX2_leftAtWorst_53 : decode cX2_leftAtWorst 53 = .ok (.iload 7, 2) := by decide +kernel
theorem dX2_leftAtWorst_55 : decode cX2_leftAtWorst 55 = .ok (.laload, 1) := by decide +kernel
theorem dX2_leftAtWorst_56 : decode cX2_leftAtWorst 56 = .ok (.aload_n 0, 1) := by decide +kernel
theorem dX2_leftAtWorst_57 : decode cX2_leftAtWorst 57 = .ok (.getfield 21, 3) := by decide +kernel
theorem dX2_leftAtWorst_60 : decode cX2_leftAtWorst 60 = .ok (.iload 5, 2) := by decide +kernel
theorem dX2_leftAtWorst_62 : decode cX2_leftAtWorst 62 = .ok (.laload, 1) := by decide +kernel
theorem dX2_leftAtWorst_63 : decode cX2_leftAtWorst 63 = .ok (.lcmp, 1) := by decide +kernel
theorem dX2_leftAtWorst_64 : decode cX2_leftAtWorst 64 = .ok (.ifCond .ne 6, 3) := by decide +kernel
theorem dX2_leftAtWorst_67 : decode cX2_leftAtWorst 67 = .ok (.iinc 6 1, 3) := by decide +kernel
theorem dX2_leftAtWorst_70 : decode cX2_leftAtWorst 70 = .ok (.iinc 7 1, 3) := by decide +kernel
theorem dX2_leftAtWorst_73 : decode cX2_leftAtWorst 73 = .ok (.goto (-41), 3) := by decide +kernel
theorem dX2_leftAtWorst_76 : decode cX2_leftAtWorst 76 = .ok (.iload_n 1, 1) := by decide +kernel
theorem dX2_leftAtWorst_77 : decode cX2_leftAtWorst 77 = .ok (.iload 5, 2) := by decide +kernel
theorem dX2_leftAtWorst_79 : decode cX2_leftAtWorst 79 = .ok (.ishr, 1) := by decide +kernel
theorem dX2_leftAtWorst_80 : decode cX2_leftAtWorst 80 = .ok (.iconst 1, 1) := by decide +kernel
theorem dX2_leftAtWorst_81 : decode cX2_leftAtWorst 81 = .ok (.iand, 1) := by decide +kernel
theorem dX2_leftAtWorst_82 : decode cX2_leftAtWorst 82 = .ok (.iconst 1, 1) := by decide +kernel
theorem dX2_leftAtWorst_83 : decode cX2_leftAtWorst 83 = .ok (.if_icmp .ne 12, 3) := by decide +kernel
theorem dX2_leftAtWorst_86 : decode cX2_leftAtWorst 86 = .ok (.iload 4, 2) := by decide +kernel
theorem dX2_leftAtWorst_88 : decode cX2_leftAtWorst 88 = .ok (.iload 6, 2) := by decide +kernel
theorem dX2_leftAtWorst_90 : decode cX2_leftAtWorst 90 = .ok (.invokestatic 57, 3) := by decide +kernel
theorem dX2_leftAtWorst_93 : decode cX2_leftAtWorst 93 = .ok (.istore 4, 2) := by decide +kernel
theorem dX2_leftAtWorst_95 : decode cX2_leftAtWorst 95 = .ok (.iinc 5 1, 3) := by decide +kernel
theorem dX2_leftAtWorst_98 : decode cX2_leftAtWorst 98 = .ok (.goto (-92), 3) := by decide +kernel
theorem dX2_leftAtWorst_101 : decode cX2_leftAtWorst 101 = .ok (.iload 4, 2) := by decide +kernel
theorem dX2_leftAtWorst_103 : decode cX2_leftAtWorst 103 = .ok (.ireturn, 1) := by decide +kernel
theorem dX3_init_0 : decode cX3_init 0 = .ok (.aload_n 0, 1) := by decide +kernel
theorem dX3_init_1 : decode cX3_init 1 = .ok (.invokespecial 3, 3) := by decide +kernel
theorem dX3_init_4 : decode cX3_init 4 = .ok (.return_, 1) := by decide +kernel
theorem dX3_write_0 : decode cX3_write 0 = .ok (.aload_n 0, 1) := by decide +kernel
theorem dX3_write_1 : decode cX3_write 1 = .ok (.iload_n 1, 1) := by decide +kernel
theorem dX3_write_2 : decode cX3_write 2 = .ok (.putfield 9, 3) := by decide +kernel
theorem dX3_write_5 : decode cX3_write 5 = .ok (.aload_n 0, 1) := by decide +kernel
theorem dX3_write_6 : decode cX3_write 6 = .ok (.iload_n 2, 1) := by decide +kernel
theorem dX3_write_7 : decode cX3_write 7 = .ok (.putfield 15, 3) := by decide +kernel
theorem dX3_write_10 : decode cX3_write 10 = .ok (.aload_n 0, 1) := by decide +kernel
theorem dX3_write_11 : decode cX3_write 11 = .ok (.iload_n 3, 1) := by decide +kernel
theorem dX3_write_12 : decode cX3_write 12 = .ok (.putfield 18, 3) := by decide +kernel
theorem dX3_write_15 : decode cX3_write 15 = .ok (.aload_n 0, 1) := by decide +kernel
theorem dX3_write_16 : decode cX3_write 16 = .ok (.iload 4, 2) := by decide +kernel
theorem dX3_write_18 : decode cX3_write 18 = .ok (.putfield 21, 3) := by decide +kernel
theorem dX3_write_21 : decode cX3_write 21 = .ok (.aload_n 0, 1) := by decide +kernel
theorem dX3_write_22 : decode cX3_write 22 = .ok (.iload 5, 2) := by decide +kernel
theorem dX3_write_24 : decode cX3_write 24 = .ok (.putfield 24, 3) := by decide +kernel
theorem dX3_write_27 : decode cX3_write 27 = .ok (.return_, 1) := by decide +kernel
theorem dX3_copyFrom_0 : decode cX3_copyFrom 0 = .ok (.aload_n 0, 1) := by decide +kernel
theorem dX3_copyFrom_1 : decode cX3_copyFrom 1 = .ok (.aload_n 1, 1) := by decide +kernel
theorem dX3_copyFrom_2 : decode cX3_copyFrom 2 = .ok (.getfield 9, 3) := by decide +kernel
theorem dX3_copyFrom_5 : decode cX3_copyFrom 5 = .ok (.aload_n 1, 1) := by decide +kernel
theorem dX3_copyFrom_6 : decode cX3_copyFrom 6 = .ok (.getfield 15, 3) := by decide +kernel
theorem dX3_copyFrom_9 : decode cX3_copyFrom 9 = .ok (.aload_n 1, 1) := by decide +kernel
theorem dX3_copyFrom_10 : decode cX3_copyFrom 10 = .ok (.getfield 18, 3) := by decide +kernel
theorem dX3_copyFrom_13 : decode cX3_copyFrom 13 = .ok (.aload_n 1, 1) := by decide +kernel
theorem dX3_copyFrom_14 : decode cX3_copyFrom 14 = .ok (.getfield 21, 3) := by decide +kernel
theorem dX3_copyFrom_17 : decode cX3_copyFrom 17 = .ok (.aload_n 1, 1) := by decide +kernel
theorem dX3_copyFrom_18 : decode cX3_copyFrom 18 = .ok (.getfield 24, 3) := by decide +kernel
theorem dX3_copyFrom_21 : decode cX3_copyFrom 21 = .ok (.invokevirtual 27, 3) := by decide +kernel
theorem dX3_copyFrom_24 : decode cX3_copyFrom 24 = .ok (.return_, 1) := by decide +kernel
theorem dX3_spans_0 : decode cX3_spans 0 = .ok (.aload_n 0, 1) := by decide +kernel
theorem dX3_spans_1 : decode cX3_spans 1 = .ok (.getfield 21, 3) := by decide +kernel
theorem dX3_spans_4 : decode cX3_spans 4 = .ok (.iload_n 1, 1) := by decide +kernel
theorem dX3_spans_5 : decode cX3_spans 5 = .ok (.if_icmp .gt 15, 3) := by decide +kernel
theorem dX3_spans_8 : decode cX3_spans 8 = .ok (.iload_n 1, 1) := by decide +kernel
theorem dX3_spans_9 : decode cX3_spans 9 = .ok (.aload_n 0, 1) := by decide +kernel
theorem dX3_spans_10 : decode cX3_spans 10 = .ok (.getfield 24, 3) := by decide +kernel
theorem dX3_spans_13 : decode cX3_spans 13 = .ok (.if_icmp .gt 7, 3) := by decide +kernel
theorem dX3_spans_16 : decode cX3_spans 16 = .ok (.iconst 1, 1) := by decide +kernel
theorem dX3_spans_17 : decode cX3_spans 17 = .ok (.goto 4, 3) := by decide +kernel
theorem dX3_spans_20 : decode cX3_spans 20 = .ok (.iconst 0, 1) := by decide +kernel
theorem dX3_spans_21 : decode cX3_spans 21 = .ok (.ireturn, 1) := by decide +kernel
theorem dX3_isOf_0 : decode cX3_isOf 0 = .ok (.iload_n 1, 1) := by decide +kernel
theorem dX3_isOf_1 : decode cX3_isOf 1 = .ok (.ifCond .eq 24, 3) := by decide +kernel
theorem dX3_isOf_4 : decode cX3_isOf 4 = .ok (.iload_n 1, 1) := by decide +kernel
theorem dX3_isOf_5 : decode cX3_isOf 5 = .ok (.aload_n 0, 1) := by decide +kernel
theorem dX3_isOf_6 : decode cX3_isOf 6 = .ok (.getfield 9, 3) := by decide +kernel
theorem dX3_isOf_9 : decode cX3_isOf 9 = .ok (.if_icmp .eq 16, 3) := by decide +kernel
theorem dX3_isOf_12 : decode cX3_isOf 12 = .ok (.iload_n 1, 1) := by decide +kernel
theorem dX3_isOf_13 : decode cX3_isOf 13 = .ok (.iconst 3, 1) := by decide +kernel
theorem dX3_isOf_14 : decode cX3_isOf 14 = .ok (.if_icmp .ne 15, 3) := by decide +kernel
theorem dX3_isOf_17 : decode cX3_isOf 17 = .ok (.aload_n 0, 1) := by decide +kernel
theorem dX3_isOf_18 : decode cX3_isOf 18 = .ok (.getfield 9, 3) := by decide +kernel
theorem dX3_isOf_21 : decode cX3_isOf 21 = .ok (.iconst 4, 1) := by decide +kernel
theorem dX3_isOf_22 : decode cX3_isOf 22 = .ok (.if_icmp .ne 7, 3) := by decide +kernel
theorem dX3_isOf_25 : decode cX3_isOf 25 = .ok (.iconst 1, 1) := by decide +kernel
theorem dX3_isOf_26 : decode cX3_isOf 26 = .ok (.goto 4, 3) := by decide +kernel
theorem dX3_isOf_29 : decode cX3_isOf 29 = .ok (.iconst 0, 1) := by decide +kernel
theorem dX3_isOf_30 : decode cX3_isOf 30 = .ok (.ireturn, 1) := by decide +kernel
theorem dX3_priceFor_0 : decode cX3_priceFor 0 = .ok (.aload_n 0, 1) := by decide +kernel
theorem dX3_priceFor_1 : decode cX3_priceFor 1 = .ok (.aload_n 0, 1) := by decide +kernel
theorem dX3_priceFor_2 : decode cX3_priceFor 2 = .ok (.getfield 9, 3) := by decide +kernel
theorem dX3_priceFor_5 : decode cX3_priceFor 5 = .ok (.iload_n 1, 1) := by decide +kernel
theorem dX3_priceFor_6 : decode cX3_priceFor 6 = .ok (.invokevirtual 31, 3) := by decide +kernel
theorem dX3_priceFor_9 : decode cX3_priceFor 9 = .ok (.aload_n 0, 1) := by decide +kernel
theorem dX3_priceFor_10 : decode cX3_priceFor 10 = .ok (.aload_n 0, 1) := by decide +kernel
theorem dX3_priceFor_11 : decode cX3_priceFor 11 = .ok (.getfield 9, 3) := by decide +kernel
theorem dX3_priceFor_14 : decode cX3_priceFor 14 = .ok (.invokevirtual 35, 3) := by decide +kernel
theorem dX3_priceFor_17 : decode cX3_priceFor 17 = .ok (.i2l, 1) := by decide +kernel
theorem dX3_priceFor_18 : decode cX3_priceFor 18 = .ok (.ladd, 1) := by decide +kernel
theorem dX3_priceFor_19 : decode cX3_priceFor 19 = .ok (.lreturn, 1) := by decide +kernel
theorem dX3_priceAs_0 : decode cX3_priceAs 0 = .ok (.aload_n 0, 1) := by decide +kernel
theorem dX3_priceAs_1 : decode cX3_priceAs 1 = .ok (.iload_n 1, 1) := by decide +kernel
theorem dX3_priceAs_2 : decode cX3_priceAs 2 = .ok (.iload_n 2, 1) := by decide +kernel
theorem dX3_priceAs_3 : decode cX3_priceAs 3 = .ok (.invokevirtual 31, 3) := by decide +kernel
theorem dX3_priceAs_6 : decode cX3_priceAs 6 = .ok (.aload_n 0, 1) := by decide +kernel
theorem dX3_priceAs_7 : decode cX3_priceAs 7 = .ok (.iload_n 1, 1) := by decide +kernel
theorem dX3_priceAs_8 : decode cX3_priceAs 8 = .ok (.invokevirtual 35, 3) := by decide +kernel
theorem dX3_priceAs_11 : decode cX3_priceAs 11 = .ok (.i2l, 1) := by decide +kernel
theorem dX3_priceAs_12 : decode cX3_priceAs 12 = .ok (.ladd, 1) := by decide +kernel
theorem dX3_priceAs_13 : decode cX3_priceAs 13 = .ok (.lreturn, 1) := by decide +kernel
theorem dX3_byBase_0 : decode cX3_byBase 0 = .ok (.iload_n 1, 1) := by decide +kernel
theorem dX3_byBase_1 : decode cX3_byBase 1 = .ok (.iconst 4, 1) := by decide +kernel
theorem dX3_byBase_2 : decode cX3_byBase 2 = .ok (.if_icmp .ne 14, 3) := by decide +kernel
theorem dX3_byBase_5 : decode cX3_byBase 5 = .ok (.aload_n 0, 1) := by decide +kernel
theorem dX3_byBase_6 : decode cX3_byBase 6 = .ok (.getfield 18, 3) := by decide +kernel
theorem dX3_byBase_9 : decode cX3_byBase 9 = .ok (.iconst 2, 1) := by decide +kernel
theorem dX3_byBase_10 : decode cX3_byBase 10 = .ok (.invokestatic 39, 3) := by decide +kernel
theorem dX3_byBase_13 : decode cX3_byBase 13 = .ok (.goto 7, 3) := by decide +kernel
theorem dX3_byBase_16 : decode cX3_byBase 16 = .ok (.aload_n 0, 1) := by decide +kernel
theorem dX3_byBase_17 : decode cX3_byBase 17 = .ok (.getfield 18, 3) := by decide +kernel
theorem dX3_byBase_20 : decode cX3_byBase 20 = .ok (.ireturn, 1) := by decide +kernel
theorem dX3_byRate_0 : decode cX3_byRate 0 = .ok (.iload_n 1, 1) := by decide +kernel
theorem dX3_byRate_1 : decode cX3_byRate 1 = .ok (.tableswitch 60 1 4 #[31, 33, 46, 46], 31) := by decide +kernel
theorem dX3_byRate_32 : decode cX3_byRate 32 = .ok (.lconst 0, 1) := by decide +kernel
theorem dX3_byRate_33 : decode cX3_byRate 33 = .ok (.lreturn, 1) := by decide +kernel
theorem dX3_byRate_34 : decode cX3_byRate 34 = .ok (.ldc2_w 45, 3) := by decide +kernel
theorem dX3_byRate_37 : decode cX3_byRate 37 = .ok (.aload_n 0, 1) := by decide +kernel
theorem dX3_byRate_38 : decode cX3_byRate 38 = .ok (.getfield 15, 3) := by decide +kernel
theorem dX3_byRate_41 : decode cX3_byRate 41 = .ok (.i2l, 1) := by decide +kernel
theorem dX3_byRate_42 : decode cX3_byRate 42 = .ok (.lmul, 1) := by decide +kernel
theorem dX3_byRate_43 : decode cX3_byRate 43 = .ok (.iload_n 2, 1) := by decide +kernel
theorem dX3_byRate_44 : decode cX3_byRate 44 = .ok (.i2l, 1) := by decide +kernel
theorem dX3_byRate_45 : decode cX3_byRate 45 = .ok (.lmul, 1) := by decide +kernel
theorem dX3_byRate_46 : decode cX3_byRate 46 = .ok (.lreturn, 1) := by decide +kernel
theorem dX3_byRate_47 : decode cX3_byRate 47 = .ok (.aload_n 0, 1) := by decide +kernel
theorem dX3_byRate_48 : decode cX3_byRate 48 = .ok (.getfield 15, 3) := by decide +kernel
theorem dX3_byRate_51 : decode cX3_byRate 51 = .ok (.i2l, 1) := by decide +kernel
theorem dX3_byRate_52 : decode cX3_byRate 52 = .ok (.iload_n 2, 1) := by decide +kernel
theorem dX3_byRate_53 : decode cX3_byRate 53 = .ok (.aload_n 0, 1) := by decide +kernel
theorem dX3_byRate_54 : decode cX3_byRate 54 = .ok (.getfield 21, 3) := by decide +kernel
theorem dX3_byRate_57 : decode cX3_byRate 57 = .ok (.isub, 1) := by decide +kernel
theorem dX3_byRate_58 : decode cX3_byRate 58 = .ok (.i2l, 1) := by decide +kernel
theorem dX3_byRate_59 : decode cX3_byRate 59 = .ok (.lmul, 1) := by decide +kernel
theorem dX3_byRate_60 : decode cX3_byRate 60 = .ok (.lreturn, 1) := by decide +kernel
theorem dX3_byRate_61 : decode cX3_byRate 61 = .ok (.aload_n 0, 1) := by decide +kernel
theorem dX3_byRate_62 : decode cX3_byRate 62 = .ok (.getfield 15, 3) := by decide +kernel
theorem dX3_byRate_65 : decode cX3_byRate 65 = .ok (.i2l, 1) := by decide +kernel
theorem dX3_byRate_66 : decode cX3_byRate 66 = .ok (.iload_n 2, 1) := by decide +kernel
theorem dX3_byRate_67 : decode cX3_byRate 67 = .ok (.i2l, 1) := by decide +kernel
theorem dX3_byRate_68 : decode cX3_byRate 68 = .ok (.lmul, 1) := by decide +kernel
theorem dX3_byRate_69 : decode cX3_byRate 69 = .ok (.lreturn, 1) := by decide +kernel
theorem dX3_isTooGreat_0 : decode cX3_isTooGreat 0 = .ok (.aload_n 0, 1) := by decide +kernel
theorem dX3_isTooGreat_1 : decode cX3_isTooGreat 1 = .ok (.getfield 9, 3) := by decide +kernel
theorem dX3_isTooGreat_4 : decode cX3_isTooGreat 4 = .ok (.iconst 2, 1) := by decide +kernel
theorem dX3_isTooGreat_5 : decode cX3_isTooGreat 5 = .ok (.if_icmp .ne 18, 3) := by decide +kernel
theorem dX3_isTooGreat_8 : decode cX3_isTooGreat 8 = .ok (.ldc2_w 45, 3) := by decide +kernel
theorem dX3_isTooGreat_11 : decode cX3_isTooGreat 11 = .ok (.aload_n 0, 1) := by decide +kernel
theorem dX3_isTooGreat_12 : decode cX3_isTooGreat 12 = .ok (.getfield 15, 3) := by decide +kernel
theorem dX3_isTooGreat_15 : decode cX3_isTooGreat 15 = .ok (.i2l, 1) := by decide +kernel
theorem dX3_isTooGreat_16 : decode cX3_isTooGreat 16 = .ok (.lmul, 1) := by decide +kernel
theorem dX3_isTooGreat_17 : decode cX3_isTooGreat 17 = .ok (.invokestatic 47, 3) := by decide +kernel
theorem dX3_isTooGreat_20 : decode cX3_isTooGreat 20 = .ok (.ifCond .eq 7, 3) := by decide +kernel
theorem dX3_isTooGreat_23 : decode cX3_isTooGreat 23 = .ok (.iconst 1, 1) := by decide +kernel
theorem dX3_isTooGreat_24 : decode cX3_isTooGreat 24 = .ok (.goto 4, 3) := by decide +kernel
theorem dX3_isTooGreat_27 : decode cX3_isTooGreat 27 = .ok (.iconst 0, 1) := by decide +kernel
theorem dX3_isTooGreat_28 : decode cX3_isTooGreat 28 = .ok (.istore_n 1, 1) := by decide +kernel
theorem dX3_isTooGreat_29 : decode cX3_isTooGreat 29 = .ok (.iload_n 1, 1) := by decide +kernel
theorem dX3_isTooGreat_30 : decode cX3_isTooGreat 30 = .ok (.ifCond .eq 25, 3) := by decide +kernel
theorem dX3_isTooGreat_33 : decode cX3_isTooGreat 33 = .ok (.aload_n 0, 1) := by decide +kernel
theorem dX3_isTooGreat_34 : decode cX3_isTooGreat 34 = .ok (.aload_n 0, 1) := by decide +kernel
theorem dX3_isTooGreat_35 : decode cX3_isTooGreat 35 = .ok (.getfield 21, 3) := by decide +kernel
theorem dX3_isTooGreat_38 : decode cX3_isTooGreat 38 = .ok (.invokevirtual 51, 3) := by decide +kernel
theorem dX3_isTooGreat_41 : decode cX3_isTooGreat 41 = .ok (.ifCond .eq 14, 3) := by decide +kernel
theorem dX3_isTooGreat_44 : decode cX3_isTooGreat 44 = .ok (.aload_n 0, 1) := by decide +kernel
theorem dX3_isTooGreat_45 : decode cX3_isTooGreat 45 = .ok (.aload_n 0, 1) := by decide +kernel
theorem dX3_isTooGreat_46 : decode cX3_isTooGreat 46 = .ok (.getfield 24, 3) := by decide +kernel
theorem dX3_isTooGreat_49 : decode cX3_isTooGreat 49 = .ok (.invokevirtual 51, 3) := by decide +kernel
theorem dX3_isTooGreat_52 : decode cX3_isTooGreat 52 = .ok (.ifCond .ne 7, 3) := by decide +kernel
theorem dX3_isTooGreat_55 : decode cX3_isTooGreat 55 = .ok (.iconst 1, 1) := by decide +kernel
theorem dX3_isTooGreat_56 : decode cX3_isTooGreat 56 = .ok (.goto 4, 3) := by decide +kernel
theorem dX3_isTooGreat_59 : decode cX3_isTooGreat 59 = .ok (.iconst 0, 1) := by decide +kernel
theorem dX3_isTooGreat_60 : decode cX3_isTooGreat 60 = .ok (.ireturn, 1) := by decide +kernel
theorem dX3_fitsFor_0 : decode cX3_fitsFor 0 = .ok (.aload_n 0, 1) := by decide +kernel
theorem dX3_fitsFor_1 : decode cX3_fitsFor 1 = .ok (.aload_n 0, 1) := by decide +kernel
theorem dX3_fitsFor_2 : decode cX3_fitsFor 2 = .ok (.getfield 9, 3) := by decide +kernel
theorem dX3_fitsFor_5 : decode cX3_fitsFor 5 = .ok (.iload_n 1, 1) := by decide +kernel
theorem dX3_fitsFor_6 : decode cX3_fitsFor 6 = .ok (.invokevirtual 31, 3) := by decide +kernel
theorem dX3_fitsFor_9 : decode cX3_fitsFor 9 = .ok (.invokestatic 47, 3) := by decide +kernel
theorem dX3_fitsFor_12 : decode cX3_fitsFor 12 = .ok (.ifCond .eq 18, 3) := by decide +kernel
theorem dX3_fitsFor_15 : decode cX3_fitsFor 15 = .ok (.aload_n 0, 1) := by decide +kernel
theorem dX3_fitsFor_16 : decode cX3_fitsFor 16 = .ok (.iload_n 1, 1) := by decide +kernel
theorem dX3_fitsFor_17 : decode cX3_fitsFor 17 = .ok (.invokevirtual 55, 3) := by decide +kernel
theorem dX3_fitsFor_20 : decode cX3_fitsFor 20 = .ok (.invokestatic 47, 3) := by decide +kernel
theorem dX3_fitsFor_23 : decode cX3_fitsFor 23 = .ok (.ifCond .eq 7, 3) := by decide +kernel
theorem dX3_fitsFor_26 : decode cX3_fitsFor 26 = .ok (.iconst 1, 1) := by decide +kernel
theorem dX3_fitsFor_27 : decode cX3_fitsFor 27 = .ok (.goto 4, 3) := by decide +kernel
theorem dX3_fitsFor_30 : decode cX3_fitsFor 30 = .ok (.iconst 0, 1) := by decide +kernel
theorem dX3_fitsFor_31 : decode cX3_fitsFor 31 = .ok (.ireturn, 1) := by decide +kernel
theorem dX3_fits_0 : decode cX3_fits 0 = .ok (.lload_n 0, 1) := by decide +kernel
theorem dX3_fits_1 : decode cX3_fits 1 = .ok (.ldc2_w 59, 3) := by decide +kernel
theorem dX3_fits_4 : decode cX3_fits 4 = .ok (.lcmp, 1) := by decide +kernel
theorem dX3_fits_5 : decode cX3_fits 5 = .ok (.ifCond .lt 15, 3) := by decide +kernel
theorem dX3_fits_8 : decode cX3_fits 8 = .ok (.lload_n 0, 1) := by decide +kernel
theorem dX3_fits_9 : decode cX3_fits 9 = .ok (.ldc2_w 61, 3) := by decide +kernel
theorem dX3_fits_12 : decode cX3_fits 12 = .ok (.lcmp, 1) := by decide +kernel
theorem dX3_fits_13 : decode cX3_fits 13 = .ok (.ifCond .gt 7, 3) := by decide +kernel
theorem dX3_fits_16 : decode cX3_fits 16 = .ok (.iconst 1, 1) := by decide +kernel
theorem dX3_fits_17 : decode cX3_fits 17 = .ok (.goto 4, 3) := by decide +kernel
theorem dX3_fits_20 : decode cX3_fits 20 = .ok (.iconst 0, 1) := by decide +kernel
theorem dX3_fits_21 : decode cX3_fits 21 = .ok (.ireturn, 1) := by decide +kernel
theorem dX4_init_0 : decode cX4_init 0 = .ok (.aload_n 0, 1) := by decide +kernel
theorem dX4_init_1 : decode cX4_init 1 = .ok (.invokespecial 1, 3) := by decide +kernel
theorem dX4_init_4 : decode cX4_init 4 = .ok (.aload_n 0, 1) := by decide +kernel
theorem dX4_init_5 : decode cX4_init 5 = .ok (.iload_n 1, 1) := by decide +kernel
theorem dX4_init_6 : decode cX4_init 6 = .ok (.iconst 1, 1) := by decide +kernel
theorem dX4_init_7 : decode cX4_init 7 = .ok (.invokestatic 7, 3) := by decide +kernel
theorem dX4_init_10 : decode cX4_init 10 = .ok (.anewarray 13, 3) := by decide +kernel
theorem dX4_init_13 : decode cX4_init 13 = .ok (.putfield 15, 3) := by decide +kernel
theorem dX4_init_16 : decode cX4_init 16 = .ok (.iconst 0, 1) := by decide +kernel
theorem dX4_init_17 : decode cX4_init 17 = .ok (.istore_n 2, 1) := by decide +kernel
theorem dX4_init_18 : decode cX4_init 18 = .ok (.iload_n 2, 1) := by decide +kernel
theorem dX4_init_19 : decode cX4_init 19 = .ok (.aload_n 0, 1) := by decide +kernel
theorem dX4_init_20 : decode cX4_init 20 = .ok (.getfield 15, 3) := by decide +kernel
theorem dX4_init_23 : decode cX4_init 23 = .ok (.arraylength, 1) := by decide +kernel
theorem dX4_init_24 : decode cX4_init 24 = .ok (.if_icmp .ge 22, 3) := by decide +kernel
theorem dX4_init_27 : decode cX4_init 27 = .ok (.aload_n 0, 1) := by decide +kernel
theorem dX4_init_28 : decode cX4_init 28 = .ok (.getfield 15, 3) := by decide +kernel
theorem dX4_init_31 : decode cX4_init 31 = .ok (.iload_n 2, 1) := by decide +kernel
theorem dX4_init_32 : decode cX4_init 32 = .ok (.new 13, 3) := by decide +kernel
theorem dX4_init_35 : decode cX4_init 35 = .ok (.dup, 1) := by decide +kernel
theorem dX4_init_36 : decode cX4_init 36 = .ok (.invokespecial 21, 3) := by decide +kernel
theorem dX4_init_39 : decode cX4_init 39 = .ok (.aastore, 1) := by decide +kernel
theorem dX4_init_40 : decode cX4_init 40 = .ok (.iinc 2 1, 3) := by decide +kernel
theorem dX4_init_43 : decode cX4_init 43 = .ok (.goto (-25), 3) := by decide +kernel
theorem dX4_init_46 : decode cX4_init 46 = .ok (.return_, 1) := by decide +kernel
theorem dX4_hasNumber_0 : decode cX4_hasNumber 0 = .ok (.iload_n 1, 1) := by decide +kernel
theorem dX4_hasNumber_1 : decode cX4_hasNumber 1 = .ok (.ifCond .lt 15, 3) := by decide +kernel
theorem dX4_hasNumber_4 : decode cX4_hasNumber 4 = .ok (.iload_n 1, 1) := by decide +kernel
theorem dX4_hasNumber_5 : decode cX4_hasNumber 5 = .ok (.aload_n 0, 1) := by decide +kernel
theorem dX4_hasNumber_6 : decode cX4_hasNumber 6 = .ok (.getfield 22, 3) := by decide +kernel
theorem dX4_hasNumber_9 : decode cX4_hasNumber 9 = .ok (.if_icmp .ge 7, 3) := by decide +kernel
theorem dX4_hasNumber_12 : decode cX4_hasNumber 12 = .ok (.iconst 1, 1) := by decide +kernel
theorem dX4_hasNumber_13 : decode cX4_hasNumber 13 = .ok (.goto 4, 3) := by decide +kernel
theorem dX4_hasNumber_16 : decode cX4_hasNumber 16 = .ok (.iconst 0, 1) := by decide +kernel
theorem dX4_hasNumber_17 : decode cX4_hasNumber 17 = .ok (.ireturn, 1) := by decide +kernel
theorem dX4_at_0 : decode cX4_at 0 = .ok (.iload_n 1, 1) := by decide +kernel
theorem dX4_at_1 : decode cX4_at 1 = .ok (.ifCond .lt 21, 3) := by decide +kernel
theorem dX4_at_4 : decode cX4_at 4 = .ok (.iload_n 1, 1) := by decide +kernel
theorem dX4_at_5 : decode cX4_at 5 = .ok (.aload_n 0, 1) := by decide +kernel
theorem dX4_at_6 : decode cX4_at 6 = .ok (.getfield 15, 3) := by decide +kernel
theorem dX4_at_9 : decode cX4_at 9 = .ok (.arraylength, 1) := by decide +kernel
theorem dX4_at_10 : decode cX4_at 10 = .ok (.if_icmp .ge 12, 3) := by decide +kernel
theorem dX4_at_13 : decode cX4_at 13 = .ok (.aload_n 0, 1) := by decide +kernel
theorem dX4_at_14 : decode cX4_at 14 = .ok (.getfield 15, 3) := by decide +kernel
theorem dX4_at_17 : decode cX4_at 17 = .ok (.iload_n 1, 1) := by decide +kernel
theorem dX4_at_18 : decode cX4_at 18 = .ok (.aaload, 1) := by decide +kernel
theorem dX4_at_19 : decode cX4_at 19 = .ok (.goto 9, 3) := by decide +kernel
theorem dX4_at_22 : decode cX4_at 22 = .ok (.aload_n 0, 1) := by decide +kernel
theorem dX4_at_23 : decode cX4_at 23 = .ok (.getfield 15, 3) := by decide +kernel
theorem dX4_at_26 : decode cX4_at 26 = .ok (.iconst 0, 1) := by decide +kernel
theorem dX4_at_27 : decode cX4_at 27 = .ok (.aaload, 1) := by decide +kernel
theorem dX4_at_28 : decode cX4_at 28 = .ok (.areturn, 1) := by decide +kernel
theorem dX4_add_0 : decode cX4_add 0 = .ok (.aload_n 0, 1) := by decide +kernel
theorem dX4_add_1 : decode cX4_add 1 = .ok (.getfield 22, 3) := by decide +kernel
theorem dX4_add_4 : decode cX4_add 4 = .ok (.aload_n 0, 1) := by decide +kernel
theorem dX4_add_5 : decode cX4_add 5 = .ok (.getfield 15, 3) := by decide +kernel
theorem dX4_add_8 : decode cX4_add 8 = .ok (.arraylength, 1) := by decide +kernel
theorem dX4_add_9 : decode cX4_add 9 = .ok (.if_icmp .ge 25, 3) := by decide +kernel
theorem dX4_add_12 : decode cX4_add 12 = .ok (.aload_n 0, 1) := by decide +kernel
theorem dX4_add_13 : decode cX4_add 13 = .ok (.aload_n 0, 1) := by decide +kernel
theorem dX4_add_14 : decode cX4_add 14 = .ok (.getfield 22, 3) := by decide +kernel
theorem dX4_add_17 : decode cX4_add 17 = .ok (.invokevirtual 26, 3) := by decide +kernel
theorem dX4_add_20 : decode cX4_add 20 = .ok (.aload_n 1, 1) := by decide +kernel
theorem dX4_add_21 : decode cX4_add 21 = .ok (.invokevirtual 30, 3) := by decide +kernel
theorem dX4_add_24 : decode cX4_add 24 = .ok (.aload_n 0, 1) := by decide +kernel
theorem dX4_add_25 : decode cX4_add 25 = .ok (.dup, 1) := by decide +kernel
theorem dX4_add_26 : decode cX4_add 26 = .ok (.getfield 22, 3) := by decide +kernel
theorem dX4_add_29 : decode cX4_add 29 = .ok (.iconst 1, 1) := by decide +kernel
theorem dX4_add_30 : decode cX4_add 30 = .ok (.iadd, 1) := by decide +kernel
theorem dX4_add_31 : decode cX4_add 31 = .ok (.putfield 22, 3) := by decide +kernel
theorem dX4_add_34 : decode cX4_add 34 = .ok (.return_, 1) := by decide +kernel
theorem dX4_copyFrom_0 : decode cX4_copyFrom 0 = .ok (.aload_n 0, 1) := by decide +kernel
theorem dX4_copyFrom_1 : decode cX4_copyFrom 1 = .ok (.iconst 0, 1) := by decide +kernel
theorem dX4_copyFrom_2 : decode cX4_copyFrom 2 = .ok (.putfield 22, 3) := by decide +kernel
theorem dX4_copyFrom_5 : decode cX4_copyFrom 5 = .ok (.iconst 0, 1) := by decide +kernel
theorem dX4_copyFrom_6 : decode cX4_copyFrom 6 = .ok (.istore_n 2, 1) := by decide +kernel
theorem dX4_copyFrom_7 : decode cX4_copyFrom 7 = .ok (.iload_n 2, 1) := by decide +kernel
theorem dX4_copyFrom_8 : decode cX4_copyFrom 8 = .ok (.aload_n 1, 1) := by decide +kernel
theorem dX4_copyFrom_9 : decode cX4_copyFrom 9 = .ok (.getfield 22, 3) := by decide +kernel
theorem dX4_copyFrom_12 : decode cX4_copyFrom 12 = .ok (.if_icmp .ge 18, 3) := by decide +kernel
theorem dX4_copyFrom_15 : decode cX4_copyFrom 15 = .ok (.aload_n 0, 1) := by decide +kernel
theorem dX4_copyFrom_16 : decode cX4_copyFrom 16 = .ok (.aload_n 1, 1) := by decide +kernel
theorem dX4_copyFrom_17 : decode cX4_copyFrom 17 = .ok (.iload_n 2, 1) := by decide +kernel
theorem dX4_copyFrom_18 : decode cX4_copyFrom 18 = .ok (.invokevirtual 26, 3) := by decide +kernel
theorem dX4_copyFrom_21 : decode cX4_copyFrom 21 = .ok (.invokevirtual 34, 3) := by decide +kernel
theorem dX4_copyFrom_24 : decode cX4_copyFrom 24 = .ok (.iinc 2 1, 3) := by decide +kernel
theorem dX4_copyFrom_27 : decode cX4_copyFrom 27 = .ok (.goto (-20), 3) := by decide +kernel
theorem dX4_copyFrom_30 : decode cX4_copyFrom 30 = .ok (.return_, 1) := by decide +kernel
theorem dX4_isBetter_0 : decode cX4_isBetter 0 = .ok (.aload_n 0, 1) := by decide +kernel
theorem dX4_isBetter_1 : decode cX4_isBetter 1 = .ok (.iload_n 1, 1) := by decide +kernel
theorem dX4_isBetter_2 : decode cX4_isBetter 2 = .ok (.invokevirtual 26, 3) := by decide +kernel
theorem dX4_isBetter_5 : decode cX4_isBetter 5 = .ok (.iload_n 3, 1) := by decide +kernel
theorem dX4_isBetter_6 : decode cX4_isBetter 6 = .ok (.invokevirtual 37, 3) := by decide +kernel
theorem dX4_isBetter_9 : decode cX4_isBetter 9 = .ok (.lstore 4, 2) := by decide +kernel
theorem dX4_isBetter_11 : decode cX4_isBetter 11 = .ok (.aload_n 0, 1) := by decide +kernel
theorem dX4_isBetter_12 : decode cX4_isBetter 12 = .ok (.iload_n 2, 1) := by decide +kernel
theorem dX4_isBetter_13 : decode cX4_isBetter 13 = .ok (.invokevirtual 26, 3) := by decide +kernel
theorem dX4_isBetter_16 : decode cX4_isBetter 16 = .ok (.iload_n 3, 1) := by decide +kernel
theorem dX4_isBetter_17 : decode cX4_isBetter 17 = .ok (.invokevirtual 37, 3) := by decide +kernel
theorem dX4_isBetter_20 : decode cX4_isBetter 20 = .ok (.lstore 6, 2) := by decide +kernel
theorem dX4_isBetter_22 : decode cX4_isBetter 22 = .ok (.lload 4, 2) := by decide +kernel
theorem dX4_isBetter_24 : decode cX4_isBetter 24 = .ok (.lload 6, 2) := by decide +kernel
theorem dX4_isBetter_26 : decode cX4_isBetter 26 = .ok (.lcmp, 1) := by decide +kernel
theorem dX4_isBetter_27 : decode cX4_isBetter 27 = .ok (.ifCond .lt 16, 3) := by decide +kernel
theorem dX4_isBetter_30 : decode cX4_isBetter 30 = .ok (.lload 4, 2) := by decide +kernel
theorem dX4_isBetter_32 : decode cX4_isBetter 32 = .ok (.lload 6, 2) := by decide +kernel
theorem dX4_isBetter_34 : decode cX4_isBetter 34 = .ok (.lcmp, 1) := by decide +kernel
theorem dX4_isBetter_35 : decode cX4_isBetter 35 = .ok (.ifCond .ne 12, 3) := by decide +kernel
theorem dX4_isBetter_38 : decode cX4_isBetter 38 = .ok (.iload_n 1, 1) := by decide +kernel
theorem dX4_isBetter_39 : decode cX4_isBetter 39 = .ok (.iload_n 2, 1) := by decide +kernel
theorem dX4_isBetter_40 : decode cX4_isBetter 40 = .ok (.if_icmp .ge 7, 3) := by decide +kernel
theorem dX4_isBetter_43 : decode cX4_isBetter 43 = .ok (.iconst 1, 1) := by decide +kernel
theorem dX4_isBetter_44 : decode cX4_isBetter 44 = .ok (.goto 4, 3) := by decide +kernel
theorem dX4_isBetter_47 : decode cX4_isBetter 47 = .ok (.iconst 0, 1) := by decide +kernel
theorem dX4_isBetter_48 : decode cX4_isBetter 48 = .ok (.ireturn, 1) := by decide +kernel
