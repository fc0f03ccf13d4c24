theorem dX7_init_0 : decode cX7_init 0 = .ok (.aload_n 0, 1) := by decide +kernel
theorem dX7_init_1 : decode cX7_init 1 = .ok (.invokespecial 1, 3) := by decide +kernel
theorem dX7_init_4 : decode cX7_init 4 = .ok (.aload_n 0, 1) := by decide +kernel
theorem dX7_init_5 : decode cX7_init 5 = .ok (.bipush 70, 2) := by decide +kernel
theorem dX7_init_7 : decode cX7_init 7 = .ok (.newarray .int, 2) := by decide +kernel
theorem dX7_init_9 : decode cX7_init 9 = .ok (.putfield 7, 3) := by decide +kernel
theorem dX7_init_12 : decode cX7_init 12 = .ok (.aload_n 0, 1) := by decide +kernel
theorem dX7_init_13 : decode cX7_init 13 = .ok (.bipush 70, 2) := by decide +kernel
theorem dX7_init_15 : decode cX7_init 15 = .ok (.newarray .int, 2) := by decide +kernel
theorem dX7_init_17 : decode cX7_init 17 = .ok (.putfield 13, 3) := by decide +kernel
theorem dX7_init_20 : decode cX7_init 20 = .ok (.aload_n 0, 1) := by decide +kernel
theorem dX7_init_21 : decode cX7_init 21 = .ok (.bipush 70, 2) := by decide +kernel
theorem dX7_init_23 : decode cX7_init 23 = .ok (.newarray .int, 2) := by decide +kernel
theorem dX7_init_25 : decode cX7_init 25 = .ok (.putfield 16, 3) := by decide +kernel
theorem dX7_init_28 : decode cX7_init 28 = .ok (.aload_n 0, 1) := by decide +kernel
theorem dX7_init_29 : decode cX7_init 29 = .ok (.bipush 70, 2) := by decide +kernel
theorem dX7_init_31 : decode cX7_init 31 = .ok (.newarray .int, 2) := by decide +kernel
theorem dX7_init_33 : decode cX7_init 33 = .ok (.putfield 19, 3) := by decide +kernel
theorem dX7_init_36 : decode cX7_init 36 = .ok (.aload_n 0, 1) := by decide +kernel
theorem dX7_init_37 : decode cX7_init 37 = .ok (.bipush 70, 2) := by decide +kernel
theorem dX7_init_39 : decode cX7_init 39 = .ok (.newarray .int, 2) := by decide +kernel
theorem dX7_init_41 : decode cX7_init 41 = .ok (.putfield 22, 3) := by decide +kernel
theorem dX7_init_44 : decode cX7_init 44 = .ok (.aload_n 0, 1) := by decide +kernel
theorem dX7_init_45 : decode cX7_init 45 = .ok (.sipush 128, 3) := by decide +kernel
theorem dX7_init_48 : decode cX7_init 48 = .ok (.newarray .int, 2) := by decide +kernel
theorem dX7_init_50 : decode cX7_init 50 = .ok (.putfield 25, 3) := by decide +kernel
theorem dX7_init_53 : decode cX7_init 53 = .ok (.aload_n 0, 1) := by decide +kernel
theorem dX7_init_54 : decode cX7_init 54 = .ok (.bipush 6, 2) := by decide +kernel
theorem dX7_init_56 : decode cX7_init 56 = .ok (.newarray .int, 2) := by decide +kernel
theorem dX7_init_58 : decode cX7_init 58 = .ok (.putfield 28, 3) := by decide +kernel
theorem dX7_init_61 : decode cX7_init 61 = .ok (.aload_n 0, 1) := by decide +kernel
theorem dX7_init_62 : decode cX7_init 62 = .ok (.bipush 6, 2) := by decide +kernel
theorem dX7_init_64 : decode cX7_init 64 = .ok (.newarray .int, 2) := by decide +kernel
theorem dX7_init_66 : decode cX7_init 66 = .ok (.putfield 31, 3) := by decide +kernel
theorem dX7_init_69 : decode cX7_init 69 = .ok (.aload_n 0, 1) := by decide +kernel
theorem dX7_init_70 : decode cX7_init 70 = .ok (.bipush 6, 2) := by decide +kernel
theorem dX7_init_72 : decode cX7_init 72 = .ok (.newarray .int, 2) := by decide +kernel
theorem dX7_init_74 : decode cX7_init 74 = .ok (.putfield 34, 3) := by decide +kernel
theorem dX7_init_77 : decode cX7_init 77 = .ok (.aload_n 0, 1) := by decide +kernel
theorem dX7_init_78 : decode cX7_init 78 = .ok (.bipush 50, 2) := by decide +kernel
theorem dX7_init_80 : decode cX7_init 80 = .ok (.newarray .byte, 2) := by decide +kernel
theorem dX7_init_82 : decode cX7_init 82 = .ok (.putfield 37, 3) := by decide +kernel
theorem dX7_init_85 : decode cX7_init 85 = .ok (.aload_n 0, 1) := by decide +kernel
theorem dX7_init_86 : decode cX7_init 86 = .ok (.sipush 128, 3) := by decide +kernel
theorem dX7_init_89 : decode cX7_init 89 = .ok (.newarray .int, 2) := by decide +kernel
theorem dX7_init_91 : decode cX7_init 91 = .ok (.putfield 41, 3) := by decide +kernel
theorem dX7_init_94 : decode cX7_init 94 = .ok (.aload_n 0, 1) := by decide +kernel
theorem dX7_init_95 : decode cX7_init 95 = .ok (.bipush 40, 2) := by decide +kernel
theorem dX7_init_97 : decode cX7_init 97 = .ok (.newarray .int, 2) := by decide +kernel
theorem dX7_init_99 : decode cX7_init 99 = .ok (.putfield 44, 3) := by decide +kernel
theorem dX7_init_102 : decode cX7_init 102 = .ok (.aload_n 0, 1) := by decide +kernel
theorem dX7_init_103 : decode cX7_init 103 = .ok (.bipush 40, 2) := by decide +kernel
theorem dX7_init_105 : decode cX7_init 105 = .ok (.newarray .int, 2) := by decide +kernel
theorem dX7_init_107 : decode cX7_init 107 = .ok (.putfield 47, 3) := by decide +kernel
theorem dX7_init_110 : decode cX7_init 110 = .ok (.aload_n 0, 1) := by decide +kernel
theorem dX7_init_111 : decode cX7_init 111 = .ok (.bipush 40, 2) := by decide +kernel
theorem dX7_init_113 : decode cX7_init 113 = .ok (.newarray .int, 2) := by decide +kernel
theorem dX7_init_115 : decode cX7_init 115 = .ok (.putfield 50, 3) := by decide +kernel
theorem dX7_init_118 : decode cX7_init 118 = .ok (.aload_n 0, 1) := by decide +kernel
theorem dX7_init_119 : decode cX7_init 119 = .ok (.bipush 40, 2) := by decide +kernel
theorem dX7_init_121 : decode cX7_init 121 = .ok (.newarray .int, 2) := by decide +kernel
theorem dX7_init_123 : decode cX7_init 123 = .ok (.putfield 53, 3) := by decide +kernel
theorem dX7_init_126 : decode cX7_init 126 = .ok (.aload_n 0, 1) := by decide +kernel
theorem dX7_init_127 : decode cX7_init 127 = .ok (.bipush 40, 2) := by decide +kernel
theorem dX7_init_129 : decode cX7_init 129 = .ok (.newarray .int, 2) := by decide +kernel
theorem dX7_init_131 : decode cX7_init 131 = .ok (.putfield 56, 3) := by decide +kernel
theorem dX7_init_134 : decode cX7_init 134 = .ok (.aload_n 0, 1) := by decide +kernel
theorem dX7_init_135 : decode cX7_init 135 = .ok (.bipush 6, 2) := by decide +kernel
theorem dX7_init_137 : decode cX7_init 137 = .ok (.newarray .int, 2) := by decide +kernel
theorem dX7_init_139 : decode cX7_init 139 = .ok (.putfield 59, 3) := by decide +kernel
theorem dX7_init_142 : decode cX7_init 142 = .ok (.aload_n 0, 1) := by decide +kernel
theorem dX7_init_143 : decode cX7_init 143 = .ok (.bipush 6, 2) := by decide +kernel
theorem dX7_init_145 : decode cX7_init 145 = .ok (.newarray .int, 2) := by decide +kernel
theorem dX7_init_147 : decode cX7_init 147 = .ok (.putfield 62, 3) := by decide +kernel
theorem dX7_init_150 : decode cX7_init 150 = .ok (.aload_n 0, 1) := by decide +kernel
theorem dX7_init_151 : decode cX7_init 151 = .ok (.bipush 6, 2) := by decide +kernel
theorem dX7_init_153 : decode cX7_init 153 = .ok (.newarray .int, 2) := by decide +kernel
theorem dX7_init_155 : decode cX7_init 155 = .ok (.putfield 65, 3) := by decide +kernel
theorem dX7_init_158 : decode cX7_init 158 = .ok (.return_, 1) := by decide +kernel
theorem dX7_within_0 : decode cX7_within 0 = .ok (.iload_n 0, 1) := by decide +kernel
theorem dX7_within_1 : decode cX7_within 1 = .ok (.iload_n 1, 1) := by decide +kernel
theorem dX7_within_2 : decode cX7_within 2 = .ok (.if_icmp .lt 12, 3) := by decide +kernel
theorem dX7_within_5 : decode cX7_within 5 = .ok (.iload_n 0, 1) := by decide +kernel
theorem dX7_within_6 : decode cX7_within 6 = .ok (.iload_n 2, 1) := by decide +kernel
theorem dX7_within_7 : decode cX7_within 7 = .ok (.if_icmp .gt 7, 3) := by decide +kernel
theorem dX7_within_10 : decode cX7_within 10 = .ok (.iconst 1, 1) := by decide +kernel
theorem dX7_within_11 : decode cX7_within 11 = .ok (.goto 4, 3) := by decide +kernel
theorem dX7_within_14 : decode cX7_within 14 = .ok (.iconst 0, 1) := by decide +kernel
theorem dX7_within_15 : decode cX7_within 15 = .ok (.ireturn, 1) := by decide +kernel
theorem dX7_isIn_0 : decode cX7_isIn 0 = .ok (.iload_n 0, 1) := by decide +kernel
theorem dX7_isIn_1 : decode cX7_isIn 1 = .ok (.iload_n 1, 1) := by decide +kernel
theorem dX7_isIn_2 : decode cX7_isIn 2 = .ok (.ishr, 1) := by decide +kernel
theorem dX7_isIn_3 : decode cX7_isIn 3 = .ok (.iconst 1, 1) := by decide +kernel
theorem dX7_isIn_4 : decode cX7_isIn 4 = .ok (.iand, 1) := by decide +kernel
theorem dX7_isIn_5 : decode cX7_isIn 5 = .ok (.iconst 1, 1) := by decide +kernel
theorem dX7_isIn_6 : decode cX7_isIn 6 = .ok (.if_icmp .ne 7, 3) := by decide +kernel
theorem dX7_isIn_9 : decode cX7_isIn 9 = .ok (.iconst 1, 1) := by decide +kernel
theorem dX7_isIn_10 : decode cX7_isIn 10 = .ok (.goto 4, 3) := by decide +kernel
theorem dX7_isIn_13 : decode cX7_isIn 13 = .ok (.iconst 0, 1) := by decide +kernel
theorem dX7_isIn_14 : decode cX7_isIn 14 = .ok (.ireturn, 1) := by decide +kernel
theorem dX7_letter_0 : decode cX7_letter 0 = .ok (.iload_n 1, 1) := by decide +kernel
theorem dX7_letter_1 : decode cX7_letter 1 = .ok (.bipush 32, 2) := by decide +kernel
theorem dX7_letter_3 : decode cX7_letter 3 = .ok (.bipush 126, 2) := by decide +kernel
theorem dX7_letter_5 : decode cX7_letter 5 = .ok (.invokestatic 68, 3) := by decide +kernel
theorem dX7_letter_8 : decode cX7_letter 8 = .ok (.ifCond .ne 6, 3) := by decide +kernel
theorem dX7_letter_11 : decode cX7_letter 11 = .ok (.bipush (-102), 2) := by decide +kernel
theorem dX7_letter_13 : decode cX7_letter 13 = .ok (.ireturn, 1) := by decide +kernel
theorem dX7_letter_14 : decode cX7_letter 14 = .ok (.aload_n 0, 1) := by decide +kernel
theorem dX7_letter_15 : decode cX7_letter 15 = .ok (.getfield 72, 3) := by decide +kernel
theorem dX7_letter_18 : decode cX7_letter 18 = .ok (.bipush 50, 2) := by decide +kernel
theorem dX7_letter_20 : decode cX7_letter 20 = .ok (.if_icmp .ne 6, 3) := by decide +kernel
theorem dX7_letter_23 : decode cX7_letter 23 = .ok (.bipush (-104), 2) := by decide +kernel
theorem dX7_letter_25 : decode cX7_letter 25 = .ok (.ireturn, 1) := by decide +kernel
theorem dX7_letter_26 : decode cX7_letter 26 = .ok (.aload_n 0, 1) := by decide +kernel
theorem dX7_letter_27 : decode cX7_letter 27 = .ok (.getfield 37, 3) := by decide +kernel
theorem dX7_letter_30 : decode cX7_letter 30 = .ok (.aload_n 0, 1) := by decide +kernel
theorem dX7_letter_31 : decode cX7_letter 31 = .ok (.getfield 72, 3) := by decide +kernel
theorem dX7_letter_34 : decode cX7_letter 34 = .ok (.iload_n 1, 1) := by decide +kernel
theorem dX7_letter_35 : decode cX7_letter 35 = .ok (.i2b, 1) := by decide +kernel
theorem dX7_letter_36 : decode cX7_letter 36 = .ok (.bastore, 1) := by decide +kernel
theorem dX7_letter_37 : decode cX7_letter 37 = .ok (.aload_n 0, 1) := by decide +kernel
theorem dX7_letter_38 : decode cX7_letter 38 = .ok (.dup, 1) := by decide +kernel
theorem dX7_letter_39 : decode cX7_letter 39 = .ok (.getfield 72, 3) := by decide +kernel
theorem dX7_letter_42 : decode cX7_letter 42 = .ok (.iconst 1, 1) := by decide +kernel
theorem dX7_letter_43 : decode cX7_letter 43 = .ok (.iadd, 1) := by decide +kernel
theorem dX7_letter_44 : decode cX7_letter 44 = .ok (.putfield 72, 3) := by decide +kernel
theorem dX7_letter_47 : decode cX7_letter 47 = .ok (.aload_n 0, 1) := by decide +kernel
theorem dX7_letter_48 : decode cX7_letter 48 = .ok (.getfield 72, 3) := by decide +kernel
theorem dX7_letter_51 : decode cX7_letter 51 = .ok (.ireturn, 1) := by decide +kernel
theorem dX7_blank_0 : decode cX7_blank 0 = .ok (.aload_n 0, 1) := by decide +kernel
theorem dX7_blank_1 : decode cX7_blank 1 = .ok (.getfield 72, 3) := by decide +kernel
theorem dX7_blank_4 : decode cX7_blank 4 = .ok (.istore_n 1, 1) := by decide +kernel
theorem dX7_blank_5 : decode cX7_blank 5 = .ok (.aload_n 0, 1) := by decide +kernel
theorem dX7_blank_6 : decode cX7_blank 6 = .ok (.iconst 0, 1) := by decide +kernel
theorem dX7_blank_7 : decode cX7_blank 7 = .ok (.putfield 72, 3) := by decide +kernel
theorem dX7_blank_10 : decode cX7_blank 10 = .ok (.iload_n 1, 1) := by decide +kernel
theorem dX7_blank_11 : decode cX7_blank 11 = .ok (.ireturn, 1) := by decide +kernel
theorem dX7_kindBy_0 : decode cX7_kindBy 0 = .ok (.iload_n 0, 1) := by decide +kernel
theorem dX7_kindBy_1 : decode cX7_kindBy 1 = .ok (.lookupswitch 61 #[(98, 57), (102, 53), (111, 59), (115, 55), (116, 51)], 51) := by decide +kernel
theorem dX7_kindBy_52 : decode cX7_kindBy 52 = .ok (.iconst 0, 1) := by decide +kernel
theorem dX7_kindBy_53 : decode cX7_kindBy 53 = .ok (.ireturn, 1) := by decide +kernel
theorem dX7_kindBy_54 : decode cX7_kindBy 54 = .ok (.iconst 1, 1) := by decide +kernel
theorem dX7_kindBy_55 : decode cX7_kindBy 55 = .ok (.ireturn, 1) := by decide +kernel
theorem dX7_kindBy_56 : decode cX7_kindBy 56 = .ok (.iconst 2, 1) := by decide +kernel
theorem dX7_kindBy_57 : decode cX7_kindBy 57 = .ok (.ireturn, 1) := by decide +kernel
theorem dX7_kindBy_58 : decode cX7_kindBy 58 = .ok (.iconst 3, 1) := by decide +kernel
theorem dX7_kindBy_59 : decode cX7_kindBy 59 = .ok (.ireturn, 1) := by decide +kernel
theorem dX7_kindBy_60 : decode cX7_kindBy 60 = .ok (.iconst 4, 1) := by decide +kernel
theorem dX7_kindBy_61 : decode cX7_kindBy 61 = .ok (.ireturn, 1) := by decide +kernel
theorem dX7_kindBy_62 : decode cX7_kindBy 62 = .ok (.iconst (-1), 1) := by decide +kernel
theorem dX7_kindBy_63 : decode cX7_kindBy 63 = .ok (.ireturn, 1) := by decide +kernel
theorem dX7_at_0 : decode cX7_at 0 = .ok (.iload_n 1, 1) := by decide +kernel
theorem dX7_at_1 : decode cX7_at 1 = .ok (.aload_n 0, 1) := by decide +kernel
theorem dX7_at_2 : decode cX7_at 2 = .ok (.getfield 72, 3) := by decide +kernel
theorem dX7_at_5 : decode cX7_at 5 = .ok (.if_icmp .ge 12, 3) := by decide +kernel
theorem dX7_at_8 : decode cX7_at 8 = .ok (.aload_n 0, 1) := by decide +kernel
theorem dX7_at_9 : decode cX7_at 9 = .ok (.getfield 37, 3) := by decide +kernel
theorem dX7_at_12 : decode cX7_at 12 = .ok (.iload_n 1, 1) := by decide +kernel
theorem dX7_at_13 : decode cX7_at 13 = .ok (.baload, 1) := by decide +kernel
theorem dX7_at_14 : decode cX7_at 14 = .ok (.goto 4, 3) := by decide +kernel
theorem dX7_at_17 : decode cX7_at 17 = .ok (.iconst 0, 1) := by decide +kernel
theorem dX7_at_18 : decode cX7_at 18 = .ok (.ireturn, 1) := by decide +kernel
theorem dX7_figure_0 : decode cX7_figure 0 = .ok (.aload_n 0, 1) := by decide +kernel
theorem dX7_figure_1 : decode cX7_figure 1 = .ok (.iload_n 1, 1) := by decide +kernel
theorem dX7_figure_2 : decode cX7_figure 2 = .ok (.invokevirtual 76, 3) := by decide +kernel
theorem dX7_figure_5 : decode cX7_figure 5 = .ok (.bipush 48, 2) := by decide +kernel
theorem dX7_figure_7 : decode cX7_figure 7 = .ok (.isub, 1) := by decide +kernel
theorem dX7_figure_8 : decode cX7_figure 8 = .ok (.ireturn, 1) := by decide +kernel
theorem dX7_isSign_0 : decode cX7_isSign 0 = .ok (.aload_n 0, 1) := by decide +kernel
theorem dX7_isSign_1 : decode cX7_isSign 1 = .ok (.iload_n 1, 1) := by decide +kernel
theorem dX7_isSign_2 : decode cX7_isSign 2 = .ok (.invokevirtual 76, 3) := by decide +kernel
theorem dX7_isSign_5 : decode cX7_isSign 5 = .ok (.bipush 43, 2) := by decide +kernel
theorem dX7_isSign_7 : decode cX7_isSign 7 = .ok (.if_icmp .eq 13, 3) := by decide +kernel
theorem dX7_isSign_10 : decode cX7_isSign 10 = .ok (.aload_n 0, 1) := by decide +kernel
theorem dX7_isSign_11 : decode cX7_isSign 11 = .ok (.iload_n 1, 1) := by decide +kernel
theorem dX7_isSign_12 : decode cX7_isSign 12 = .ok (.invokevirtual 76, 3) := by decide +kernel
theorem dX7_isSign_15 : decode cX7_isSign 15 = .ok (.bipush 45, 2) := by decide +kernel
theorem dX7_isSign_17 : decode cX7_isSign 17 = .ok (.if_icmp .ne 7, 3) := by decide +kernel
theorem dX7_isSign_20 : decode cX7_isSign 20 = .ok (.iconst 1, 1) := by decide +kernel
theorem dX7_isSign_21 : decode cX7_isSign 21 = .ok (.goto 4, 3) := by decide +kernel
theorem dX7_isSign_24 : decode cX7_isSign 24 = .ok (.iconst 0, 1) := by decide +kernel
theorem dX7_isSign_25 : decode cX7_isSign 25 = .ok (.ireturn, 1) := by decide +kernel
theorem dX7_isLetter_0 : decode cX7_isLetter 0 = .ok (.iload_n 1, 1) := by decide +kernel
theorem dX7_isLetter_1 : decode cX7_isLetter 1 = .ok (.iload_n 2, 1) := by decide +kernel
theorem dX7_isLetter_2 : decode cX7_isLetter 2 = .ok (.iadd, 1) := by decide +kernel
theorem dX7_isLetter_3 : decode cX7_isLetter 3 = .ok (.istore_n 3, 1) := by decide +kernel
theorem dX7_isLetter_4 : decode cX7_isLetter 4 = .ok (.iload_n 2, 1) := by decide +kernel
theorem dX7_isLetter_5 : decode cX7_isLetter 5 = .ok (.tableswitch 212 0 10 #[59, 77, 212, 77, 212, 212, 83, 99, 111, 139, 157], 59) := by decide +kernel
theorem dX7_isLetter_64 : decode cX7_isLetter 64 = .ok (.aload_n 0, 1) := by decide +kernel
theorem dX7_isLetter_65 : decode cX7_isLetter 65 = .ok (.iload_n 3, 1) := by decide +kernel
theorem dX7_isLetter_66 : decode cX7_isLetter 66 = .ok (.invokevirtual 76, 3) := by decide +kernel
theorem dX7_isLetter_69 : decode cX7_isLetter 69 = .ok (.invokestatic 80, 3) := by decide +kernel
theorem dX7_isLetter_72 : decode cX7_isLetter 72 = .ok (.iconst (-1), 1) := by decide +kernel
theorem dX7_isLetter_73 : decode cX7_isLetter 73 = .ok (.if_icmp .eq 7, 3) := by decide +kernel
theorem dX7_isLetter_76 : decode cX7_isLetter 76 = .ok (.iconst 1, 1) := by decide +kernel
theorem dX7_isLetter_77 : decode cX7_isLetter 77 = .ok (.goto 4, 3) := by decide +kernel
theorem dX7_isLetter_80 : decode cX7_isLetter 80 = .ok (.iconst 0, 1) := by decide +kernel
theorem dX7_isLetter_81 : decode cX7_isLetter 81 = .ok (.ireturn, 1) := by decide +kernel
theorem dX7_isLetter_82 : decode cX7_isLetter 82 = .ok (.aload_n 0, 1) := by decide +kernel
theorem dX7_isLetter_83 : decode cX7_isLetter 83 = .ok (.iload_n 3, 1) := by decide +kernel
theorem dX7_isLetter_84 : decode cX7_isLetter 84 = .ok (.invokevirtual 83, 3) := by decide +kernel
theorem dX7_isLetter_87 : decode cX7_isLetter 87 = .ok (.ireturn, 1) := by decide +kernel
theorem dX7_isLetter_88 : decode cX7_isLetter 88 = .ok (.aload_n 0, 1) := by decide +kernel
theorem dX7_isLetter_89 : decode cX7_isLetter 89 = .ok (.iload_n 3, 1) := by decide +kernel
theorem dX7_isLetter_90 : decode cX7_isLetter 90 = .ok (.invokevirtual 76, 3) := by decide +kernel
theorem dX7_isLetter_93 : decode cX7_isLetter 93 = .ok (.bipush 64, 2) := by decide +kernel
theorem dX7_isLetter_95 : decode cX7_isLetter 95 = .ok (.if_icmp .ne 7, 3) := by decide +kernel
theorem dX7_isLetter_98 : decode cX7_isLetter 98 = .ok (.iconst 1, 1) := by decide +kernel
theorem dX7_isLetter_99 : decode cX7_isLetter 99 = .ok (.goto 4, 3) := by decide +kernel
theorem dX7_isLetter_102 : decode cX7_isLetter 102 = .ok (.iconst 0, 1) := by decide +kernel
theorem dX7_isLetter_103 : decode cX7_isLetter 103 = .ok (.ireturn, 1) := by decide +kernel
theorem dX7_isLetter_104 : decode cX7_isLetter 104 = .ok (.aload_n 0, 1) := by decide +kernel
theorem dX7_isLetter_105 : decode cX7_isLetter 105 = .ok (.iload_n 3, 1) := by decide +kernel
theorem dX7_isLetter_106 : decode cX7_isLetter 106 = .ok (.invokevirtual 87, 3) := by decide +kernel
theorem dX7_isLetter_109 : decode cX7_isLetter 109 = .ok (.iconst 0, 1) := by decide +kernel
theorem dX7_isLetter_110 : decode cX7_isLetter 110 = .ok (.bipush 6, 2) := by decide +kernel
theorem dX7_isLetter_112 : decode cX7_isLetter 112 = .ok (.invokestatic 68, 3) := by decide +kernel
theorem dX7_isLetter_115 : decode cX7_isLetter 115 = .ok (.ireturn, 1) := by decide +kernel
theorem dX7_isLetter_116 : decode cX7_isLetter 116 = .ok (.aload_n 0, 1) := by decide +kernel
theorem dX7_isLetter_117 : decode cX7_isLetter 117 = .ok (.iload_n 3, 1) := by decide +kernel
theorem dX7_isLetter_118 : decode cX7_isLetter 118 = .ok (.invokevirtual 87, 3) := by decide +kernel
theorem dX7_isLetter_121 : decode cX7_isLetter 121 = .ok (.iconst 0, 1) := by decide +kernel
theorem dX7_isLetter_122 : decode cX7_isLetter 122 = .ok (.aload_n 0, 1) := by decide +kernel
theorem dX7_isLetter_123 : decode cX7_isLetter 123 = .ok (.iload_n 3, 1) := by decide +kernel
theorem dX7_isLetter_124 : decode cX7_isLetter 124 = .ok (.iconst 1, 1) := by decide +kernel
theorem dX7_isLetter_125 : decode cX7_isLetter 125 = .ok (.isub, 1) := by decide +kernel
theorem dX7_isLetter_126 : decode cX7_isLetter 126 = .ok (.invokevirtual 87, 3) := by decide +kernel
theorem dX7_isLetter_129 : decode cX7_isLetter 129 = .ok (.bipush 6, 2) := by decide +kernel
theorem dX7_isLetter_131 : decode cX7_isLetter 131 = .ok (.if_icmp .ne 7, 3) := by decide +kernel
theorem dX7_isLetter_134 : decode cX7_isLetter 134 = .ok (.iconst 3, 1) := by decide +kernel
theorem dX7_isLetter_135 : decode cX7_isLetter 135 = .ok (.goto 5, 3) := by decide +kernel
theorem dX7_isLetter_138 : decode cX7_isLetter 138 = .ok (.bipush 9, 2) := by decide +kernel
theorem dX7_isLetter_140 : decode cX7_isLetter 140 = .ok (.invokestatic 68, 3) := by decide +kernel
theorem dX7_isLetter_143 : decode cX7_isLetter 143 = .ok (.ireturn, 1) := by decide +kernel
theorem dX7_isLetter_144 : decode cX7_isLetter 144 = .ok (.aload_n 0, 1) := by decide +kernel
theorem dX7_isLetter_145 : decode cX7_isLetter 145 = .ok (.iload_n 3, 1) := by decide +kernel
theorem dX7_isLetter_146 : decode cX7_isLetter 146 = .ok (.invokevirtual 87, 3) := by decide +kernel
theorem dX7_isLetter_149 : decode cX7_isLetter 149 = .ok (.aload_n 0, 1) := by decide +kernel
theorem dX7_isLetter_150 : decode cX7_isLetter 150 = .ok (.iload_n 3, 1) := by decide +kernel
theorem dX7_isLetter_151 : decode cX7_isLetter 151 = .ok (.iconst 2, 1) := by decide +kernel
theorem dX7_isLetter_152 : decode cX7_isLetter 152 = .ok (.isub, 1) := by decide +kernel
theorem dX7_isLetter_153 : decode cX7_isLetter 153 = .ok (.invokevirtual 87, 3) := by decide +kernel
theorem dX7_isLetter_156 : decode cX7_isLetter 156 = .ok (.bipush 6, 2) := by decide +kernel
theorem dX7_isLetter_158 : decode cX7_isLetter 158 = .ok (.invokestatic 68, 3) := by decide +kernel
theorem dX7_isLetter_161 : decode cX7_isLetter 161 = .ok (.ireturn, 1) := by decide +kernel
theorem dX7_isLetter_162 : decode cX7_isLetter 162 = .ok (.aload_n 0, 1) := by decide +kernel
theorem dX7_isLetter_163 : decode cX7_isLetter 163 = .ok (.iload_n 3, 1) := by decide +kernel
theorem dX7_isLetter_164 : decode cX7_isLetter 164 = .ok (.invokevirtual 87, 3) := by decide +kernel
theorem dX7_isLetter_167 : decode cX7_isLetter 167 = .ok (.aload_n 0, 1) := by decide +kernel
theorem dX7_isLetter_168 : decode cX7_isLetter 168 = .ok (.iload_n 3, 1) := by decide +kernel
theorem dX7_isLetter_169 : decode cX7_isLetter 169 = .ok (.iconst 1, 1) := by decide +kernel
theorem dX7_isLetter_170 : decode cX7_isLetter 170 = .ok (.isub, 1) := by decide +kernel
theorem dX7_isLetter_171 : decode cX7_isLetter 171 = .ok (.invokevirtual 87, 3) := by decide +kernel
theorem dX7_isLetter_174 : decode cX7_isLetter 174 = .ok (.aload_n 0, 1) := by decide +kernel
theorem dX7_isLetter_175 : decode cX7_isLetter 175 = .ok (.iload_n 3, 1) := by decide +kernel
theorem dX7_isLetter_176 : decode cX7_isLetter 176 = .ok (.iconst 3, 1) := by decide +kernel
theorem dX7_isLetter_177 : decode cX7_isLetter 177 = .ok (.isub, 1) := by decide +kernel
theorem dX7_isLetter_178 : decode cX7_isLetter 178 = .ok (.invokevirtual 87, 3) := by decide +kernel
theorem dX7_isLetter_181 : decode cX7_isLetter 181 = .ok (.if_icmp .ne 13, 3) := by decide +kernel
theorem dX7_isLetter_184 : decode cX7_isLetter 184 = .ok (.aload_n 0, 1) := by decide +kernel
theorem dX7_isLetter_185 : decode cX7_isLetter 185 = .ok (.iload_n 3, 1) := by decide +kernel
theorem dX7_isLetter_186 : decode cX7_isLetter 186 = .ok (.iconst 2, 1) := by decide +kernel
theorem dX7_isLetter_187 : decode cX7_isLetter 187 = .ok (.isub, 1) := by decide +kernel
theorem dX7_isLetter_188 : decode cX7_isLetter 188 = .ok (.invokevirtual 87, 3) := by decide +kernel
theorem dX7_isLetter_191 : decode cX7_isLetter 191 = .ok (.goto 4, 3) := by decide +kernel
theorem dX7_isLetter_194 : decode cX7_isLetter 194 = .ok (.iconst 0, 1) := by decide +kernel
theorem dX7_isLetter_195 : decode cX7_isLetter 195 = .ok (.aload_n 0, 1) := by decide +kernel
theorem dX7_isLetter_196 : decode cX7_isLetter 196 = .ok (.iload_n 3, 1) := by decide +kernel
theorem dX7_isLetter_197 : decode cX7_isLetter 197 = .ok (.iconst 1, 1) := by decide +kernel
theorem dX7_isLetter_198 : decode cX7_isLetter 198 = .ok (.isub, 1) := by decide +kernel
theorem dX7_isLetter_199 : decode cX7_isLetter 199 = .ok (.invokevirtual 87, 3) := by decide +kernel
theorem dX7_isLetter_202 : decode cX7_isLetter 202 = .ok (.bipush 6, 2) := by decide +kernel
theorem dX7_isLetter_204 : decode cX7_isLetter 204 = .ok (.if_icmp .ne 7, 3) := by decide +kernel
theorem dX7_isLetter_207 : decode cX7_isLetter 207 = .ok (.iconst 3, 1) := by decide +kernel
theorem dX7_isLetter_208 : decode cX7_isLetter 208 = .ok (.goto 5, 3) := by decide +kernel
theorem dX7_isLetter_211 : decode cX7_isLetter 211 = .ok (.bipush 9, 2) := by decide +kernel
theorem dX7_isLetter_213 : decode cX7_isLetter 213 = .ok (.invokestatic 68, 3) := by decide +kernel
theorem dX7_isLetter_216 : decode cX7_isLetter 216 = .ok (.ireturn, 1) := by decide +kernel
theorem dX7_isLetter_217 : decode cX7_isLetter 217 = .ok (.aload_n 0, 1) := by decide +kernel
theorem dX7_isLetter_218 : decode cX7_isLetter 218 = .ok (.iload_n 3, 1) := by decide +kernel
theorem dX7_isLetter_219 : decode cX7_isLetter 219 = .ok (.invokevirtual 87, 3) := by decide +kernel
theorem dX7_isLetter_222 : decode cX7_isLetter 222 = .ok (.iconst 0, 1) := by decide +kernel
theorem dX7_isLetter_223 : decode cX7_isLetter 223 = .ok (.bipush 9, 2) := by decide +kernel
theorem dX7_isLetter_225 : decode cX7_isLetter 225 = .ok (.invokestatic 68, 3) := by decide +kernel
theorem dX7_isLetter_228 : decode cX7_isLetter 228 = .ok (.ireturn, 1) := by decide +kernel
theorem dX7_readTariff_0 : decode cX7_readTariff 0 = .ok (.iconst 0, 1) := by decide +kernel
theorem dX7_readTariff_1 : decode cX7_readTariff 1 = .ok (.istore_n 2, 1) := by decide +kernel
theorem dX7_readTariff_2 : decode cX7_readTariff 2 = .ok (.iload_n 2, 1) := by decide +kernel
theorem dX7_readTariff_3 : decode cX7_readTariff 3 = .ok (.bipush 11, 2) := by decide +kernel
theorem dX7_readTariff_5 : decode cX7_readTariff 5 = .ok (.if_icmp .ge 18, 3) := by decide +kernel
theorem dX7_readTariff_8 : decode cX7_readTariff 8 = .ok (.aload_n 0, 1) := by decide +kernel
theorem dX7_readTariff_9 : decode cX7_readTariff 9 = .ok (.iload_n 1, 1) := by decide +kernel
theorem dX7_readTariff_10 : decode cX7_readTariff 10 = .ok (.iload_n 2, 1) := by decide +kernel
theorem dX7_readTariff_11 : decode cX7_readTariff 11 = .ok (.invokevirtual 90, 3) := by decide +kernel
theorem dX7_readTariff_14 : decode cX7_readTariff 14 = .ok (.ifCond .eq 9, 3) := by decide +kernel
theorem dX7_readTariff_17 : decode cX7_readTariff 17 = .ok (.iinc 2 1, 3) := by decide +kernel
theorem dX7_readTariff_20 : decode cX7_readTariff 20 = .ok (.goto (-18), 3) := by decide +kernel
theorem dX7_readTariff_23 : decode cX7_readTariff 23 = .ok (.iload_n 1, 1) := by decide +kernel
theorem dX7_readTariff_24 : decode cX7_readTariff 24 = .ok (.iload_n 2, 1) := by decide +kernel
theorem dX7_readTariff_25 : decode cX7_readTariff 25 = .ok (.iadd, 1) := by decide +kernel
theorem dX7_readTariff_26 : decode cX7_readTariff 26 = .ok (.ireturn, 1) := by decide +kernel
theorem dX7_read_0 : decode cX7_read 0 = .ok (.aload_n 0, 1) := by decide +kernel
theorem dX7_read_1 : decode cX7_read 1 = .ok (.iconst 0, 1) := by decide +kernel
theorem dX7_read_2 : decode cX7_read 2 = .ok (.putfield 94, 3) := by decide +kernel
theorem dX7_read_5 : decode cX7_read 5 = .ok (.aload_n 0, 1) := by decide +kernel
theorem dX7_read_6 : decode cX7_read 6 = .ok (.iconst 0, 1) := by decide +kernel
theorem dX7_read_7 : decode cX7_read 7 = .ok (.putfield 98, 3) := by decide +kernel
theorem dX7_read_10 : decode cX7_read 10 = .ok (.iconst 0, 1) := by decide +kernel
theorem dX7_read_11 : decode cX7_read 11 = .ok (.istore_n 1, 1) := by decide +kernel
theorem dX7_read_12 : decode cX7_read 12 = .ok (.aload_n 0, 1) := by decide +kernel
theorem dX7_read_13 : decode cX7_read 13 = .ok (.getfield 98, 3) := by decide +kernel
theorem dX7_read_16 : decode cX7_read 16 = .ok (.iconst 4, 1) := by decide +kernel
theorem dX7_read_17 : decode cX7_read 17 = .ok (.if_icmp .ge 74, 3) := by decide +kernel
theorem dX7_read_20 : decode cX7_read 20 = .ok (.aload_n 0, 1) := by decide +kernel
theorem dX7_read_21 : decode cX7_read 21 = .ok (.iload_n 1, 1) := by decide +kernel
theorem dX7_read_22 : decode cX7_read 22 = .ok (.invokevirtual 101, 3) := by decide +kernel
theorem dX7_read_25 : decode cX7_read 25 = .ok (.istore_n 2, 1) := by decide +kernel
theorem dX7_read_26 : decode cX7_read 26 = .ok (.iload_n 2, 1) := by decide +kernel
theorem dX7_read_27 : decode cX7_read 27 = .ok (.iload_n 1, 1) := by decide +kernel
theorem dX7_read_28 : decode cX7_read 28 = .ok (.bipush 11, 2) := by decide +kernel
theorem dX7_read_30 : decode cX7_read 30 = .ok (.iadd, 1) := by decide +kernel
theorem dX7_read_31 : decode cX7_read 31 = .ok (.if_icmp .eq 5, 3) := by decide +kernel
theorem dX7_read_34 : decode cX7_read 34 = .ok (.iload_n 2, 1) := by decide +kernel
theorem dX7_read_35 : decode cX7_read 35 = .ok (.ireturn, 1) := by decide +kernel
theorem dX7_read_36 : decode cX7_read 36 = .ok (.aload_n 0, 1) := by decide +kernel
theorem dX7_read_37 : decode cX7_read 37 = .ok (.dup, 1) := by decide +kernel
theorem dX7_read_38 : decode cX7_read 38 = .ok (.getfield 98, 3) := by decide +kernel
theorem dX7_read_41 : decode cX7_read 41 = .ok (.iconst 1, 1) := by decide +kernel
theorem dX7_read_42 : decode cX7_read 42 = .ok (.iadd, 1) := by decide +kernel
theorem dX7_read_43 : decode cX7_read 43 = .ok (.putfield 98, 3) := by decide +kernel
theorem dX7_read_46 : decode cX7_read 46 = .ok (.iload_n 2, 1) := by decide +kernel
theorem dX7_read_47 : decode cX7_read 47 = .ok (.istore_n 1, 1) := by decide +kernel
theorem dX7_read_48 : decode cX7_read 48 = .ok (.aload_n 0, 1) := by decide +kernel
theorem dX7_read_49 : decode cX7_read 49 = .ok (.iload_n 1, 1) := by decide +kernel
theorem dX7_read_50 : decode cX7_read 50 = .ok (.aload_n 0, 1) := by decide +kernel
theorem dX7_read_51 : decode cX7_read 51 = .ok (.getfield 72, 3) := by decide +kernel
theorem dX7_read_54 : decode cX7_read 54 = .ok (.if_icmp .ne 7, 3) := by decide +kernel
theorem dX7_read_57 : decode cX7_read 57 = .ok (.iconst 1, 1) := by decide +kernel
theorem dX7_read_58 : decode cX7_read 58 = .ok (.goto 4, 3) := by decide +kernel
theorem dX7_read_61 : decode cX7_read 61 = .ok (.iconst 0, 1) := by decide +kernel
theorem dX7_read_62 : decode cX7_read 62 = .ok (.putfield 94, 3) := by decide +kernel
theorem dX7_read_65 : decode cX7_read 65 = .ok (.aload_n 0, 1) := by decide +kernel
theorem dX7_read_66 : decode cX7_read 66 = .ok (.getfield 98, 3) := by decide +kernel
theorem dX7_read_69 : decode cX7_read 69 = .ok (.iconst 4, 1) := by decide +kernel
theorem dX7_read_70 : decode cX7_read 70 = .ok (.if_icmp .eq 13, 3) := by decide +kernel
theorem dX7_read_73 : decode cX7_read 73 = .ok (.aload_n 0, 1) := by decide +kernel
theorem dX7_read_74 : decode cX7_read 74 = .ok (.iload_n 1, 1) := by decide +kernel
theorem dX7_read_75 : decode cX7_read 75 = .ok (.invokevirtual 76, 3) := by decide +kernel
theorem dX7_read_78 : decode cX7_read 78 = .ok (.bipush 44, 2) := by decide +kernel
theorem dX7_read_80 : decode cX7_read 80 = .ok (.if_icmp .eq 5, 3) := by decide +kernel
theorem dX7_read_83 : decode cX7_read 83 = .ok (.iload_n 1, 1) := by decide +kernel
theorem dX7_read_84 : decode cX7_read 84 = .ok (.ireturn, 1) := by decide +kernel
theorem dX7_read_85 : decode cX7_read 85 = .ok (.iinc 1 1, 3) := by decide +kernel
theorem dX7_read_88 : decode cX7_read 88 = .ok (.goto (-76), 3) := by decide +kernel
theorem dX7_read_91 : decode cX7_read 91 = .ok (.iload_n 1, 1) := by decide +kernel
theorem dX7_read_92 : decode cX7_read 92 = .ok (.ireturn, 1) := by decide +kernel
theorem dX7_fault_0 : decode cX7_fault 0 = .ok (.aload_n 0, 1) := by decide +kernel
theorem dX7_fault_1 : decode cX7_fault 1 = .ok (.invokevirtual 104, 3) := by decide +kernel
theorem dX7_fault_4 : decode cX7_fault 4 = .ok (.ireturn, 1) := by decide +kernel
theorem dX7_signed_0 : decode cX7_signed 0 = .ok (.iconst 0, 1) := by decide +kernel
theorem dX7_signed_1 : decode cX7_signed 1 = .ok (.istore_n 3, 1) := by decide +kernel
theorem dX7_signed_2 : decode cX7_signed 2 = .ok (.iconst 1, 1) := by decide +kernel
theorem dX7_signed_3 : decode cX7_signed 3 = .ok (.istore 4, 2) := by decide +kernel
theorem dX7_signed_5 : decode cX7_signed 5 = .ok (.iload 4, 2) := by decide +kernel
theorem dX7_signed_7 : decode cX7_signed 7 = .ok (.iload_n 2, 1) := by decide +kernel
theorem dX7_signed_8 : decode cX7_signed 8 = .ok (.if_icmp .gt 23, 3) := by decide +kernel
theorem dX7_signed_11 : decode cX7_signed 11 = .ok (.bipush 10, 2) := by decide +kernel
theorem dX7_signed_13 : decode cX7_signed 13 = .ok (.iload_n 3, 1) := by decide +kernel
theorem dX7_signed_14 : decode cX7_signed 14 = .ok (.imul, 1) := by decide +kernel
theorem dX7_signed_15 : decode cX7_signed 15 = .ok (.aload_n 0, 1) := by decide +kernel
theorem dX7_signed_16 : decode cX7_signed 16 = .ok (.iload_n 1, 1) := by decide +kernel
theorem dX7_signed_17 : decode cX7_signed 17 = .ok (.iload 4, 2) := by decide +kernel
theorem dX7_signed_19 : decode cX7_signed 19 = .ok (.iadd, 1) := by decide +kernel
theorem dX7_signed_20 : decode cX7_signed 20 = .ok (.invokevirtual 87, 3) := by decide +kernel
theorem dX7_signed_23 : decode cX7_signed 23 = .ok (.iadd, 1) := by decide +kernel
theorem dX7_signed_24 : decode cX7_signed 24 = .ok (.istore_n 3, 1) := by decide +kernel
theorem dX7_signed_25 : decode cX7_signed 25 = .ok (.iinc 4 1, 3) := by decide +kernel
theorem dX7_signed_28 : decode cX7_signed 28 = .ok (.goto (-23), 3) := by decide +kernel
theorem dX7_signed_31 : decode cX7_signed 31 = .ok (.aload_n 0, 1) := by decide +kernel
theorem dX7_signed_32 : decode cX7_signed 32 = .ok (.iload_n 1, 1) := by decide +kernel
theorem dX7_signed_33 : decode cX7_signed 33 = .ok (.invokevirtual 76, 3) := by decide +kernel
theorem dX7_signed_36 : decode cX7_signed 36 = .ok (.bipush 45, 2) := by decide +kernel
theorem dX7_signed_38 : decode cX7_signed 38 = .ok (.if_icmp .ne 8, 3) := by decide +kernel
theorem dX7_signed_41 : decode cX7_signed 41 = .ok (.iload_n 3, 1) := by decide +kernel
theorem dX7_signed_42 : decode cX7_signed 42 = .ok (.ineg, 1) := by decide +kernel
theorem dX7_signed_43 : decode cX7_signed 43 = .ok (.goto 4, 3) := by decide +kernel
theorem dX7_signed_46 : decode cX7_signed 46 = .ok (.iload_n 3, 1) := by decide +kernel
theorem dX7_signed_47 : decode cX7_signed 47 = .ok (.ireturn, 1) := by decide +kernel
theorem dX7_desk_0 : decode cX7_desk 0 = .ok (.aload_n 0, 1) := by decide +kernel
theorem dX7_desk_1 : decode cX7_desk 1 = .ok (.invokevirtual 104, 3) := by decide +kernel
theorem dX7_desk_4 : decode cX7_desk 4 = .ok (.pop, 1) := by decide +kernel
theorem dX7_desk_5 : decode cX7_desk 5 = .ok (.aload_n 0, 1) := by decide +kernel
theorem dX7_desk_6 : decode cX7_desk 6 = .ok (.getfield 94, 3) := by decide +kernel
theorem dX7_desk_9 : decode cX7_desk 9 = .ok (.ifCond .ne 6, 3) := by decide +kernel
theorem dX7_desk_12 : decode cX7_desk 12 = .ok (.bipush (-103), 2) := by decide +kernel
theorem dX7_desk_14 : decode cX7_desk 14 = .ok (.ireturn, 1) := by decide +kernel
theorem dX7_desk_15 : decode cX7_desk 15 = .ok (.aload_n 0, 1) := by decide +kernel
theorem dX7_desk_16 : decode cX7_desk 16 = .ok (.iconst 0, 1) := by decide +kernel
theorem dX7_desk_17 : decode cX7_desk 17 = .ok (.putfield 108, 3) := by decide +kernel
theorem dX7_desk_20 : decode cX7_desk 20 = .ok (.iconst 0, 1) := by decide +kernel
theorem dX7_desk_21 : decode cX7_desk 21 = .ok (.istore_n 1, 1) := by decide +kernel
theorem dX7_desk_22 : decode cX7_desk 22 = .ok (.iload_n 1, 1) := by decide +kernel
theorem dX7_desk_23 : decode cX7_desk 23 = .ok (.sipush 128, 3) := by decide +kernel
theorem dX7_desk_26 : decode cX7_desk 26 = .ok (.if_icmp .ge 16, 3) := by decide +kernel
theorem dX7_desk_29 : decode cX7_desk 29 = .ok (.aload_n 0, 1) := by decide +kernel
theorem dX7_desk_30 : decode cX7_desk 30 = .ok (.getfield 25, 3) := by decide +kernel
theorem dX7_desk_33 : decode cX7_desk 33 = .ok (.iload_n 1, 1) := by decide +kernel
theorem dX7_desk_34 : decode cX7_desk 34 = .ok (.iconst (-1), 1) := by decide +kernel
theorem dX7_desk_35 : decode cX7_desk 35 = .ok (.iastore, 1) := by decide +kernel
theorem dX7_desk_36 : decode cX7_desk 36 = .ok (.iinc 1 1, 3) := by decide +kernel
theorem dX7_desk_39 : decode cX7_desk 39 = .ok (.goto (-17), 3) := by decide +kernel
theorem dX7_desk_42 : decode cX7_desk 42 = .ok (.iconst 0, 1) := by decide +kernel
theorem dX7_desk_43 : decode cX7_desk 43 = .ok (.istore_n 1, 1) := by decide +kernel
theorem dX7_desk_44 : decode cX7_desk 44 = .ok (.iload_n 1, 1) := by decide +kernel
theorem dX7_desk_45 : decode cX7_desk 45 = .ok (.aload_n 0, 1) := by decide +kernel
theorem dX7_desk_46 : decode cX7_desk 46 = .ok (.getfield 98, 3) := by decide +kernel
theorem dX7_desk_49 : decode cX7_desk 49 = .ok (.if_icmp .ge 83, 3) := by decide +kernel
theorem dX7_desk_52 : decode cX7_desk 52 = .ok (.bipush 12, 2) := by decide +kernel
theorem dX7_desk_54 : decode cX7_desk 54 = .ok (.iload_n 1, 1) := by decide +kernel
theorem dX7_desk_55 : decode cX7_desk 55 = .ok (.imul, 1) := by decide +kernel
theorem dX7_desk_56 : decode cX7_desk 56 = .ok (.istore_n 2, 1) := by decide +kernel
theorem dX7_desk_57 : decode cX7_desk 57 = .ok (.aload_n 0, 1) := by decide +kernel
theorem dX7_desk_58 : decode cX7_desk 58 = .ok (.aload_n 0, 1) := by decide +kernel
theorem dX7_desk_59 : decode cX7_desk 59 = .ok (.getfield 37, 3) := by decide +kernel
theorem dX7_desk_62 : decode cX7_desk 62 = .ok (.iload_n 2, 1) := by decide +kernel
theorem dX7_desk_63 : decode cX7_desk 63 = .ok (.baload, 1) := by decide +kernel
theorem dX7_desk_64 : decode cX7_desk 64 = .ok (.invokestatic 80, 3) := by decide +kernel
theorem dX7_desk_67 : decode cX7_desk 67 = .ok (.aload_n 0, 1) := by decide +kernel
theorem dX7_desk_68 : decode cX7_desk 68 = .ok (.iload_n 2, 1) := by decide +kernel
theorem dX7_desk_69 : decode cX7_desk 69 = .ok (.iconst 1, 1) := by decide +kernel
theorem dX7_desk_70 : decode cX7_desk 70 = .ok (.iadd, 1) := by decide +kernel
theorem dX7_desk_71 : decode cX7_desk 71 = .ok (.iconst 1, 1) := by decide +kernel
theorem dX7_desk_72 : decode cX7_desk 72 = .ok (.invokevirtual 111, 3) := by decide +kernel
theorem dX7_desk_75 : decode cX7_desk 75 = .ok (.aload_n 0, 1) := by decide +kernel
theorem dX7_desk_76 : decode cX7_desk 76 = .ok (.iload_n 2, 1) := by decide +kernel
theorem dX7_desk_77 : decode cX7_desk 77 = .ok (.iconst 3, 1) := by decide +kernel
theorem dX7_desk_78 : decode cX7_desk 78 = .ok (.iadd, 1) := by decide +kernel
theorem dX7_desk_79 : decode cX7_desk 79 = .ok (.iconst 2, 1) := by decide +kernel
theorem dX7_desk_80 : decode cX7_desk 80 = .ok (.invokevirtual 111, 3) := by decide +kernel
theorem dX7_desk_83 : decode cX7_desk 83 = .ok (.bipush 10, 2) := by decide +kernel
theorem dX7_desk_85 : decode cX7_desk 85 = .ok (.aload_n 0, 1) := by decide +kernel
theorem dX7_desk_86 : decode cX7_desk 86 = .ok (.iload_n 2, 1) := by decide +kernel
theorem dX7_desk_87 : decode cX7_desk 87 = .ok (.bipush 7, 2) := by decide +kernel
theorem dX7_desk_89 : decode cX7_desk 89 = .ok (.iadd, 1) := by decide +kernel
theorem dX7_desk_90 : decode cX7_desk 90 = .ok (.invokevirtual 87, 3) := by decide +kernel
theorem dX7_desk_93 : decode cX7_desk 93 = .ok (.imul, 1) := by decide +kernel
theorem dX7_desk_94 : decode cX7_desk 94 = .ok (.aload_n 0, 1) := by decide +kernel
theorem dX7_desk_95 : decode cX7_desk 95 = .ok (.iload_n 2, 1) := by decide +kernel
theorem dX7_desk_96 : decode cX7_desk 96 = .ok (.bipush 8, 2) := by decide +kernel
theorem dX7_desk_98 : decode cX7_desk 98 = .ok (.iadd, 1) := by decide +kernel
theorem dX7_desk_99 : decode cX7_desk 99 = .ok (.invokevirtual 87, 3) := by decide +kernel
theorem dX7_desk_102 : decode cX7_desk 102 = .ok (.iadd, 1) := by decide +kernel
theorem dX7_desk_103 : decode cX7_desk 103 = .ok (.bipush 10, 2) := by decide +kernel
theorem dX7_desk_105 : decode cX7_desk 105 = .ok (.aload_n 0, 1) := by decide +kernel
theorem dX7_desk_106 : decode cX7_desk 106 = .ok (.iload_n 2, 1) := by decide +kernel
theorem dX7_desk_107 : decode cX7_desk 107 = .ok (.bipush 9, 2) := by decide +kernel
theorem dX7_desk_109 : decode cX7_desk 109 = .ok (.iadd, 1) := by decide +kernel
theorem dX7_desk_110 : decode cX7_desk 110 = .ok (.invokevirtual 87, 3) := by decide +kernel
theorem dX7_desk_113 : decode cX7_desk 113 = .ok (.imul, 1) := by decide +kernel
theorem dX7_desk_114 : decode cX7_desk 114 = .ok (.aload_n 0, 1) := by decide +kernel
theorem dX7_desk_115 : decode cX7_desk 115 = .ok (.iload_n 2, 1) := by decide +kernel
theorem dX7_desk_116 : decode cX7_desk 116 = .ok (.bipush 10, 2) := by decide +kernel
theorem dX7_desk_118 : decode cX7_desk 118 = .ok (.iadd, 1) := by decide +kernel
theorem dX7_desk_119 : decode cX7_desk 119 = .ok (.invokevirtual 87, 3) := by decide +kernel
theorem dX7_desk_122 : decode cX7_desk 122 = .ok (.iadd, 1) := by decide +kernel
theorem dX7_desk_123 : decode cX7_desk 123 = .ok (.invokevirtual 115, 3) := by decide +kernel
theorem dX7_desk_126 : decode cX7_desk 126 = .ok (.iinc 1 1, 3) := by decide +kernel
theorem dX7_desk_129 : decode cX7_desk 129 = .ok (.goto (-85), 3) := by decide +kernel
theorem dX7_desk_132 : decode cX7_desk 132 = .ok (.aload_n 0, 1) := by decide +kernel
theorem dX7_desk_133 : decode cX7_desk 133 = .ok (.dup, 1) := by decide +kernel
theorem dX7_desk_134 : decode cX7_desk 134 = .ok (.getfield 119, 3) := by decide +kernel
theorem dX7_desk_137 : decode cX7_desk 137 = .ok (.iconst 1, 1) := by decide +kernel
theorem dX7_desk_138 : decode cX7_desk 138 = .ok (.iadd, 1) := by decide +kernel
theorem dX7_desk_139 : decode cX7_desk 139 = .ok (.putfield 119, 3) := by decide +kernel
theorem dX7_desk_142 : decode cX7_desk 142 = .ok (.aload_n 0, 1) := by decide +kernel
theorem dX7_desk_143 : decode cX7_desk 143 = .ok (.iconst 0, 1) := by decide +kernel
theorem dX7_desk_144 : decode cX7_desk 144 = .ok (.putfield 122, 3) := by decide +kernel
theorem dX7_desk_147 : decode cX7_desk 147 = .ok (.aload_n 0, 1) := by decide +kernel
theorem dX7_desk_148 : decode cX7_desk 148 = .ok (.iconst 0, 1) := by decide +kernel
theorem dX7_desk_149 : decode cX7_desk 149 = .ok (.putfield 72, 3) := by decide +kernel
theorem dX7_desk_152 : decode cX7_desk 152 = .ok (.aload_n 0, 1) := by decide +kernel
theorem dX7_desk_153 : decode cX7_desk 153 = .ok (.getfield 108, 3) := by decide +kernel
theorem dX7_desk_156 : decode cX7_desk 156 = .ok (.ireturn, 1) := by decide +kernel
theorem dX7_isTariff_0 : decode cX7_isTariff 0 = .ok (.iload_n 1, 1) := by decide +kernel
theorem dX7_isTariff_1 : decode cX7_isTariff 1 = .ok (.iconst 0, 1) := by decide +kernel
theorem dX7_isTariff_2 : decode cX7_isTariff 2 = .ok (.aload_n 0, 1) := by decide +kernel
theorem dX7_isTariff_3 : decode cX7_isTariff 3 = .ok (.getfield 108, 3) := by decide +kernel
theorem dX7_isTariff_6 : decode cX7_isTariff 6 = .ok (.iconst 1, 1) := by decide +kernel
theorem dX7_isTariff_7 : decode cX7_isTariff 7 = .ok (.isub, 1) := by decide +kernel
theorem dX7_isTariff_8 : decode cX7_isTariff 8 = .ok (.invokestatic 68, 3) := by decide +kernel
theorem dX7_isTariff_11 : decode cX7_isTariff 11 = .ok (.ireturn, 1) := by decide +kernel
theorem dX7_often_0 : decode cX7_often 0 = .ok (.iload_n 0, 1) := by decide +kernel
theorem dX7_often_1 : decode cX7_often 1 = .ok (.tableswitch 46 1 4 #[31, 33, 40, 40], 31) := by decide +kernel
theorem dX7_often_32 : decode cX7_often 32 = .ok (.lconst 0, 1) := by decide +kernel
theorem dX7_often_33 : decode cX7_often 33 = .ok (.lreturn, 1) := by decide +kernel
theorem dX7_often_34 : decode cX7_often 34 = .ok (.ldc2_w 125, 3) := by decide +kernel
theorem dX7_often_37 : decode cX7_often 37 = .ok (.iload_n 2, 1) := by decide +kernel
theorem dX7_often_38 : decode cX7_often 38 = .ok (.i2l, 1) := by decide +kernel
theorem dX7_often_39 : decode cX7_often 39 = .ok (.lmul, 1) := by decide +kernel
theorem dX7_often_40 : decode cX7_often 40 = .ok (.lreturn, 1) := by decide +kernel
theorem dX7_often_41 : decode cX7_often 41 = .ok (.iload_n 2, 1) := by decide +kernel
theorem dX7_often_42 : decode cX7_often 42 = .ok (.i2l, 1) := by decide +kernel
theorem dX7_often_43 : decode cX7_often 43 = .ok (.iload_n 1, 1) := by decide +kernel
theorem dX7_often_44 : decode cX7_often 44 = .ok (.i2l, 1) := by decide +kernel
theorem dX7_often_45 : decode cX7_often 45 = .ok (.lsub, 1) := by decide +kernel
theorem dX7_often_46 : decode cX7_often 46 = .ok (.lreturn, 1) := by decide +kernel
theorem dX7_often_47 : decode cX7_often 47 = .ok (.iload_n 2, 1) := by decide +kernel
theorem dX7_often_48 : decode cX7_often 48 = .ok (.i2l, 1) := by decide +kernel
theorem dX7_often_49 : decode cX7_often 49 = .ok (.lreturn, 1) := by decide +kernel
theorem dX7_asBase_0 : decode cX7_asBase 0 = .ok (.iload_n 0, 1) := by decide +kernel
theorem dX7_asBase_1 : decode cX7_asBase 1 = .ok (.iconst 4, 1) := by decide +kernel
theorem dX7_asBase_2 : decode cX7_asBase 2 = .ok (.if_icmp .ne 10, 3) := by decide +kernel
theorem dX7_asBase_5 : decode cX7_asBase 5 = .ok (.iload_n 1, 1) := by decide +kernel
theorem dX7_asBase_6 : decode cX7_asBase 6 = .ok (.iconst 1, 1) := by decide +kernel
theorem dX7_asBase_7 : decode cX7_asBase 7 = .ok (.ishr, 1) := by decide +kernel
theorem dX7_asBase_8 : decode cX7_asBase 8 = .ok (.i2l, 1) := by decide +kernel
theorem dX7_asBase_9 : decode cX7_asBase 9 = .ok (.goto 5, 3) := by decide +kernel
theorem dX7_asBase_12 : decode cX7_asBase 12 = .ok (.iload_n 1, 1) := by decide +kernel
theorem dX7_asBase_13 : decode cX7_asBase 13 = .ok (.i2l, 1) := by decide +kernel
theorem dX7_asBase_14 : decode cX7_asBase 14 = .ok (.lreturn, 1) := by decide +kernel
theorem dX7_priceBy_0 : decode cX7_priceBy 0 = .ok (.iload_n 0, 1) := by decide +kernel
theorem dX7_priceBy_1 : decode cX7_priceBy 1 = .ok (.iload_n 3, 1) := by decide +kernel
theorem dX7_priceBy_2 : decode cX7_priceBy 2 = .ok (.iload 4, 2) := by decide +kernel
theorem dX7_priceBy_4 : decode cX7_priceBy 4 = .ok (.invokestatic 127, 3) := by decide +kernel
theorem dX7_priceBy_7 : decode cX7_priceBy 7 = .ok (.iload_n 1, 1) := by decide +kernel
theorem dX7_priceBy_8 : decode cX7_priceBy 8 = .ok (.i2l, 1) := by decide +kernel
theorem dX7_priceBy_9 : decode cX7_priceBy 9 = .ok (.lmul, 1) := by decide +kernel
theorem dX7_priceBy_10 : decode cX7_priceBy 10 = .ok (.iload_n 0, 1) := by decide +kernel
theorem dX7_priceBy_11 : decode cX7_priceBy 11 = .ok (.iload_n 2, 1) := by decide +kernel
theorem dX7_priceBy_12 : decode cX7_priceBy 12 = .ok (.invokestatic 131, 3) := by decide +kernel
theorem dX7_priceBy_15 : decode cX7_priceBy 15 = .ok (.ladd, 1) := by decide +kernel
theorem dX7_priceBy_16 : decode cX7_priceBy 16 = .ok (.lreturn, 1) := by decide +kernel
theorem dX7_priceOf_0 : decode cX7_priceOf 0 = .ok (.aload_n 0, 1) := by decide +kernel
theorem dX7_priceOf_1 : decode cX7_priceOf 1 = .ok (.getfield 7, 3) := by decide +kernel
theorem dX7_priceOf_4 : decode cX7_priceOf 4 = .ok (.iload_n 1, 1) := by decide +kernel
theorem dX7_priceOf_5 : decode cX7_priceOf 5 = .ok (.iaload, 1) := by decide +kernel
theorem dX7_priceOf_6 : decode cX7_priceOf 6 = .ok (.aload_n 0, 1) := by decide +kernel
theorem dX7_priceOf_7 : decode cX7_priceOf 7 = .ok (.getfield 13, 3) := by decide +kernel
theorem dX7_priceOf_10 : decode cX7_priceOf 10 = .ok (.iload_n 1, 1) := by decide +kernel
theorem dX7_priceOf_11 : decode cX7_priceOf 11 = .ok (.iaload, 1) := by decide +kernel
theorem dX7_priceOf_12 : decode cX7_priceOf 12 = .ok (.aload_n 0, 1) := by decide +kernel
theorem dX7_priceOf_13 : decode cX7_priceOf 13 = .ok (.getfield 16, 3) := by decide +kernel
theorem dX7_priceOf_16 : decode cX7_priceOf 16 = .ok (.iload_n 1, 1) := by decide +kernel
theorem dX7_priceOf_17 : decode cX7_priceOf 17 = .ok (.iaload, 1) := by decide +kernel
theorem dX7_priceOf_18 : decode cX7_priceOf 18 = .ok (.aload_n 0, 1) := by decide +kernel
theorem dX7_priceOf_19 : decode cX7_priceOf 19 = .ok (.getfield 19, 3) := by decide +kernel
theorem dX7_priceOf_22 : decode cX7_priceOf 22 = .ok (.iload_n 1, 1) := by decide +kernel
theorem dX7_priceOf_23 : decode cX7_priceOf 23 = .ok (.iaload, 1) := by decide +kernel
theorem dX7_priceOf_24 : decode cX7_priceOf 24 = .ok (.iload_n 2, 1) := by decide +kernel
theorem dX7_priceOf_25 : decode cX7_priceOf 25 = .ok (.invokestatic 135, 3) := by decide +kernel
theorem dX7_priceOf_28 : decode cX7_priceOf 28 = .ok (.lreturn, 1) := by decide +kernel
theorem dX7_isGreat_0 : decode cX7_isGreat 0 = .ok (.lload_n 0, 1) := by decide +kernel
theorem dX7_isGreat_1 : decode cX7_isGreat 1 = .ok (.ldc2_w 139, 3) := by decide +kernel
theorem dX7_isGreat_4 : decode cX7_isGreat 4 = .ok (.lcmp, 1) := by decide +kernel
theorem dX7_isGreat_5 : decode cX7_isGreat 5 = .ok (.ifCond .lt 11, 3) := by decide +kernel
theorem dX7_isGreat_8 : decode cX7_isGreat 8 = .ok (.lload_n 0, 1) := by decide +kernel
theorem dX7_isGreat_9 : decode cX7_isGreat 9 = .ok (.ldc2_w 141, 3) := by decide +kernel
theorem dX7_isGreat_12 : decode cX7_isGreat 12 = .ok (.lcmp, 1) := by decide +kernel
theorem dX7_isGreat_13 : decode cX7_isGreat 13 = .ok (.ifCond .le 7, 3) := by decide +kernel
theorem dX7_isGreat_16 : decode cX7_isGreat 16 = .ok (.iconst 1, 1) := by decide +kernel
theorem dX7_isGreat_17 : decode cX7_isGreat 17 = .ok (.goto 4, 3) := by decide +kernel
theorem dX7_isGreat_20 : decode cX7_isGreat 20 = .ok (.iconst 0, 1) := by decide +kernel
theorem dX7_isGreat_21 : decode cX7_isGreat 21 = .ok (.ireturn, 1) := by decide +kernel
theorem dX7_isTooGreat_0 : decode cX7_isTooGreat 0 = .ok (.iload_n 0, 1) := by decide +kernel
theorem dX7_isTooGreat_1 : decode cX7_isTooGreat 1 = .ok (.iconst 2, 1) := by decide +kernel
theorem dX7_isTooGreat_2 : decode cX7_isTooGreat 2 = .ok (.if_icmp .ne 19, 3) := by decide +kernel
theorem dX7_isTooGreat_5 : decode cX7_isTooGreat 5 = .ok (.ldc2_w 125, 3) := by decide +kernel
theorem dX7_isTooGreat_8 : decode cX7_isTooGreat 8 = .ok (.iload_n 1, 1) := by decide +kernel
theorem dX7_isTooGreat_9 : decode cX7_isTooGreat 9 = .ok (.i2l, 1) := by decide +kernel
theorem dX7_isTooGreat_10 : decode cX7_isTooGreat 10 = .ok (.lmul, 1) := by decide +kernel
theorem dX7_isTooGreat_11 : decode cX7_isTooGreat 11 = .ok (.invokestatic 143, 3) := by decide +kernel
theorem dX7_isTooGreat_14 : decode cX7_isTooGreat 14 = .ok (.ifCond .eq 7, 3) := by decide +kernel
theorem dX7_isTooGreat_17 : decode cX7_isTooGreat 17 = .ok (.iconst 1, 1) := by decide +kernel
theorem dX7_isTooGreat_18 : decode cX7_isTooGreat 18 = .ok (.goto 4, 3) := by decide +kernel
theorem dX7_isTooGreat_21 : decode cX7_isTooGreat 21 = .ok (.iconst 0, 1) := by decide +kernel
theorem dX7_isTooGreat_22 : decode cX7_isTooGreat 22 = .ok (.istore 5, 2) := by decide +kernel
theorem dX7_isTooGreat_24 : decode cX7_isTooGreat 24 = .ok (.iload 5, 2) := by decide +kernel
theorem dX7_isTooGreat_26 : decode cX7_isTooGreat 26 = .ok (.ifCond .ne 34, 3) := by decide +kernel
theorem dX7_isTooGreat_29 : decode cX7_isTooGreat 29 = .ok (.iload_n 0, 1) := by decide +kernel
theorem dX7_isTooGreat_30 : decode cX7_isTooGreat 30 = .ok (.iload_n 3, 1) := by decide +kernel
theorem dX7_isTooGreat_31 : decode cX7_isTooGreat 31 = .ok (.iload_n 3, 1) := by decide +kernel
theorem dX7_isTooGreat_32 : decode cX7_isTooGreat 32 = .ok (.invokestatic 127, 3) := by decide +kernel
theorem dX7_isTooGreat_35 : decode cX7_isTooGreat 35 = .ok (.iload_n 1, 1) := by decide +kernel
theorem dX7_isTooGreat_36 : decode cX7_isTooGreat 36 = .ok (.i2l, 1) := by decide +kernel
theorem dX7_isTooGreat_37 : decode cX7_isTooGreat 37 = .ok (.lmul, 1) := by decide +kernel
theorem dX7_isTooGreat_38 : decode cX7_isTooGreat 38 = .ok (.invokestatic 143, 3) := by decide +kernel
theorem dX7_isTooGreat_41 : decode cX7_isTooGreat 41 = .ok (.ifCond .ne 19, 3) := by decide +kernel
theorem dX7_isTooGreat_44 : decode cX7_isTooGreat 44 = .ok (.iload_n 0, 1) := by decide +kernel
theorem dX7_isTooGreat_45 : decode cX7_isTooGreat 45 = .ok (.iload_n 3, 1) := by decide +kernel
theorem dX7_isTooGreat_46 : decode cX7_isTooGreat 46 = .ok (.iload 4, 2) := by decide +kernel
theorem dX7_isTooGreat_48 : decode cX7_isTooGreat 48 = .ok (.invokestatic 127, 3) := by decide +kernel
theorem dX7_isTooGreat_51 : decode cX7_isTooGreat 51 = .ok (.iload_n 1, 1) := by decide +kernel
theorem dX7_isTooGreat_52 : decode cX7_isTooGreat 52 = .ok (.i2l, 1) := by decide +kernel
theorem dX7_isTooGreat_53 : decode cX7_isTooGreat 53 = .ok (.lmul, 1) := by decide +kernel
theorem dX7_isTooGreat_54 : decode cX7_isTooGreat 54 = .ok (.invokestatic 143, 3) := by decide +kernel
theorem dX7_isTooGreat_57 : decode cX7_isTooGreat 57 = .ok (.ifCond .eq 7, 3) := by decide +kernel
theorem dX7_isTooGreat_60 : decode cX7_isTooGreat 60 = .ok (.iconst 1, 1) := by decide +kernel
theorem dX7_isTooGreat_61 : decode cX7_isTooGreat 61 = .ok (.goto 4, 3) := by decide +kernel
theorem dX7_isTooGreat_64 : decode cX7_isTooGreat 64 = .ok (.iconst 0, 1) := by decide +kernel
theorem dX7_isTooGreat_65 : decode cX7_isTooGreat 65 = .ok (.istore 5, 2) := by decide +kernel
