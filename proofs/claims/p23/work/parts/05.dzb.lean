theorem dX6_drawn_111 : decode cX6_drawn 111 = .ok (.iadd, 1) := by decide +kernel
theorem dX6_drawn_112 : decode cX6_drawn 112 = .ok (.iconst 1, 1) := by decide +kernel
theorem dX6_drawn_113 : decode cX6_drawn 113 = .ok (.isub, 1) := by decide +kernel
theorem dX6_drawn_114 : decode cX6_drawn 114 = .ok (.invokevirtual 122, 3) := by decide +kernel
theorem dX6_drawn_117 : decode cX6_drawn 117 = .ok (.istore 5, 2) := by decide +kernel
theorem dX6_drawn_119 : decode cX6_drawn 119 = .ok (.goto 25, 3) := by decide +kernel
theorem dX6_drawn_122 : decode cX6_drawn 122 = .ok (.iload_n 3, 1) := by decide +kernel
theorem dX6_drawn_123 : decode cX6_drawn 123 = .ok (.iconst 1, 1) := by decide +kernel
theorem dX6_drawn_124 : decode cX6_drawn 124 = .ok (.if_icmp .ne 20, 3) := by decide +kernel
theorem dX6_drawn_127 : decode cX6_drawn 127 = .ok (.aload_n 0, 1) := by decide +kernel
theorem dX6_drawn_128 : decode cX6_drawn 128 = .ok (.getfield 30, 3) := by decide +kernel
theorem dX6_drawn_131 : decode cX6_drawn 131 = .ok (.iload 4, 2) := by decide +kernel
theorem dX6_drawn_133 : decode cX6_drawn 133 = .ok (.iload 4, 2) := by decide +kernel
theorem dX6_drawn_135 : decode cX6_drawn 135 = .ok (.iload_n 1, 1) := by decide +kernel
theorem dX6_drawn_136 : decode cX6_drawn 136 = .ok (.iadd, 1) := by decide +kernel
theorem dX6_drawn_137 : decode cX6_drawn 137 = .ok (.iconst 1, 1) := by decide +kernel
theorem dX6_drawn_138 : decode cX6_drawn 138 = .ok (.isub, 1) := by decide +kernel
theorem dX6_drawn_139 : decode cX6_drawn 139 = .ok (.invokevirtual 118, 3) := by decide +kernel
theorem dX6_drawn_142 : decode cX6_drawn 142 = .ok (.istore 5, 2) := by decide +kernel
theorem dX6_drawn_144 : decode cX6_drawn 144 = .ok (.iconst 0, 1) := by decide +kernel
theorem dX6_drawn_145 : decode cX6_drawn 145 = .ok (.istore 6, 2) := by decide +kernel
theorem dX6_drawn_147 : decode cX6_drawn 147 = .ok (.iload 6, 2) := by decide +kernel
theorem dX6_drawn_149 : decode cX6_drawn 149 = .ok (.iload_n 1, 1) := by decide +kernel
theorem dX6_drawn_150 : decode cX6_drawn 150 = .ok (.if_icmp .ge 16, 3) := by decide +kernel
theorem dX6_drawn_153 : decode cX6_drawn 153 = .ok (.aload_n 0, 1) := by decide +kernel
theorem dX6_drawn_154 : decode cX6_drawn 154 = .ok (.getfield 30, 3) := by decide +kernel
theorem dX6_drawn_157 : decode cX6_drawn 157 = .ok (.invokevirtual 171, 3) := by decide +kernel
theorem dX6_drawn_160 : decode cX6_drawn 160 = .ok (.iinc 6 1, 3) := by decide +kernel
theorem dX6_drawn_163 : decode cX6_drawn 163 = .ok (.goto (-16), 3) := by decide +kernel
theorem dX6_drawn_166 : decode cX6_drawn 166 = .ok (.iload 5, 2) := by decide +kernel
theorem dX6_drawn_168 : decode cX6_drawn 168 = .ok (.ireturn, 1) := by decide +kernel
theorem dX6_image_0 : decode cX6_image 0 = .ok (.aload_n 0, 1) := by decide +kernel
theorem dX6_image_1 : decode cX6_image 1 = .ok (.getfield 87, 3) := by decide +kernel
theorem dX6_image_4 : decode cX6_image 4 = .ok (.ifCond .ne 6, 3) := by decide +kernel
theorem dX6_image_7 : decode cX6_image 7 = .ok (.bipush (-103), 2) := by decide +kernel
theorem dX6_image_9 : decode cX6_image 9 = .ok (.ireturn, 1) := by decide +kernel
theorem dX6_image_10 : decode cX6_image 10 = .ok (.aload_n 0, 1) := by decide +kernel
theorem dX6_image_11 : decode cX6_image 11 = .ok (.getfield 55, 3) := by decide +kernel
theorem dX6_image_14 : decode cX6_image 14 = .ok (.aload_n 0, 1) := by decide +kernel
theorem dX6_image_15 : decode cX6_image 15 = .ok (.getfield 21, 3) := by decide +kernel
theorem dX6_image_18 : decode cX6_image 18 = .ok (.invokevirtual 206, 3) := by decide +kernel
theorem dX6_image_21 : decode cX6_image 21 = .ok (.aload_n 0, 1) := by decide +kernel
theorem dX6_image_22 : decode cX6_image 22 = .ok (.getfield 58, 3) := by decide +kernel
theorem dX6_image_25 : decode cX6_image 25 = .ok (.aload_n 0, 1) := by decide +kernel
theorem dX6_image_26 : decode cX6_image 26 = .ok (.getfield 37, 3) := by decide +kernel
theorem dX6_image_29 : decode cX6_image 29 = .ok (.invokevirtual 209, 3) := by decide +kernel
theorem dX6_image_32 : decode cX6_image 32 = .ok (.aload_n 0, 1) := by decide +kernel
theorem dX6_image_33 : decode cX6_image 33 = .ok (.iconst 1, 1) := by decide +kernel
theorem dX6_image_34 : decode cX6_image 34 = .ok (.putfield 83, 3) := by decide +kernel
theorem dX6_image_37 : decode cX6_image 37 = .ok (.aload_n 0, 1) := by decide +kernel
theorem dX6_image_38 : decode cX6_image 38 = .ok (.getfield 21, 3) := by decide +kernel
theorem dX6_image_41 : decode cX6_image 41 = .ok (.getfield 101, 3) := by decide +kernel
theorem dX6_image_44 : decode cX6_image 44 = .ok (.ireturn, 1) := by decide +kernel
theorem dX6_restore_0 : decode cX6_restore 0 = .ok (.aload_n 0, 1) := by decide +kernel
theorem dX6_restore_1 : decode cX6_restore 1 = .ok (.getfield 83, 3) := by decide +kernel
theorem dX6_restore_4 : decode cX6_restore 4 = .ok (.ifCond .ne 6, 3) := by decide +kernel
theorem dX6_restore_7 : decode cX6_restore 7 = .ok (.bipush (-103), 2) := by decide +kernel
theorem dX6_restore_9 : decode cX6_restore 9 = .ok (.ireturn, 1) := by decide +kernel
theorem dX6_restore_10 : decode cX6_restore 10 = .ok (.aload_n 0, 1) := by decide +kernel
theorem dX6_restore_11 : decode cX6_restore 11 = .ok (.getfield 30, 3) := by decide +kernel
theorem dX6_restore_14 : decode cX6_restore 14 = .ok (.invokevirtual 77, 3) := by decide +kernel
theorem dX6_restore_17 : decode cX6_restore 17 = .ok (.iconst 0, 1) := by decide +kernel
theorem dX6_restore_18 : decode cX6_restore 18 = .ok (.istore_n 1, 1) := by decide +kernel
theorem dX6_restore_19 : decode cX6_restore 19 = .ok (.iload_n 1, 1) := by decide +kernel
theorem dX6_restore_20 : decode cX6_restore 20 = .ok (.aload_n 0, 1) := by decide +kernel
theorem dX6_restore_21 : decode cX6_restore 21 = .ok (.getfield 55, 3) := by decide +kernel
theorem dX6_restore_24 : decode cX6_restore 24 = .ok (.getfield 101, 3) := by decide +kernel
theorem dX6_restore_27 : decode cX6_restore 27 = .ok (.if_icmp .ge 25, 3) := by decide +kernel
theorem dX6_restore_30 : decode cX6_restore 30 = .ok (.aload_n 0, 1) := by decide +kernel
theorem dX6_restore_31 : decode cX6_restore 31 = .ok (.getfield 30, 3) := by decide +kernel
theorem dX6_restore_34 : decode cX6_restore 34 = .ok (.aload_n 0, 1) := by decide +kernel
theorem dX6_restore_35 : decode cX6_restore 35 = .ok (.getfield 55, 3) := by decide +kernel
theorem dX6_restore_38 : decode cX6_restore 38 = .ok (.iload_n 1, 1) := by decide +kernel
theorem dX6_restore_39 : decode cX6_restore 39 = .ok (.invokevirtual 105, 3) := by decide +kernel
theorem dX6_restore_42 : decode cX6_restore 42 = .ok (.invokevirtual 97, 3) := by decide +kernel
theorem dX6_restore_45 : decode cX6_restore 45 = .ok (.pop, 1) := by decide +kernel
theorem dX6_restore_46 : decode cX6_restore 46 = .ok (.iinc 1 1, 3) := by decide +kernel
theorem dX6_restore_49 : decode cX6_restore 49 = .ok (.goto (-30), 3) := by decide +kernel
theorem dX6_restore_52 : decode cX6_restore 52 = .ok (.aload_n 0, 1) := by decide +kernel
theorem dX6_restore_53 : decode cX6_restore 53 = .ok (.getfield 37, 3) := by decide +kernel
theorem dX6_restore_56 : decode cX6_restore 56 = .ok (.aload_n 0, 1) := by decide +kernel
theorem dX6_restore_57 : decode cX6_restore 57 = .ok (.getfield 58, 3) := by decide +kernel
theorem dX6_restore_60 : decode cX6_restore 60 = .ok (.invokevirtual 209, 3) := by decide +kernel
theorem dX6_restore_63 : decode cX6_restore 63 = .ok (.aload_n 0, 1) := by decide +kernel
theorem dX6_restore_64 : decode cX6_restore 64 = .ok (.getfield 21, 3) := by decide +kernel
theorem dX6_restore_67 : decode cX6_restore 67 = .ok (.getfield 101, 3) := by decide +kernel
theorem dX6_restore_70 : decode cX6_restore 70 = .ok (.ireturn, 1) := by decide +kernel
theorem dX6_count_0 : decode cX6_count 0 = .ok (.iload_n 1, 1) := by decide +kernel
theorem dX6_count_1 : decode cX6_count 1 = .ok (.tableswitch 122 0 7 #[47, 55, 73, 78, 96, 101, 109, 117], 47) := by decide +kernel
theorem dX6_count_48 : decode cX6_count 48 = .ok (.aload_n 0, 1) := by decide +kernel
theorem dX6_count_49 : decode cX6_count 49 = .ok (.getfield 21, 3) := by decide +kernel
theorem dX6_count_52 : decode cX6_count 52 = .ok (.getfield 101, 3) := by decide +kernel
theorem dX6_count_55 : decode cX6_count 55 = .ok (.ireturn, 1) := by decide +kernel
theorem dX6_count_56 : decode cX6_count 56 = .ok (.aload_n 0, 1) := by decide +kernel
theorem dX6_count_57 : decode cX6_count 57 = .ok (.getfield 30, 3) := by decide +kernel
theorem dX6_count_60 : decode cX6_count 60 = .ok (.iconst 0, 1) := by decide +kernel
theorem dX6_count_61 : decode cX6_count 61 = .ok (.aload_n 0, 1) := by decide +kernel
theorem dX6_count_62 : decode cX6_count 62 = .ok (.getfield 21, 3) := by decide +kernel
theorem dX6_count_65 : decode cX6_count 65 = .ok (.getfield 101, 3) := by decide +kernel
theorem dX6_count_68 : decode cX6_count 68 = .ok (.iconst 1, 1) := by decide +kernel
theorem dX6_count_69 : decode cX6_count 69 = .ok (.isub, 1) := by decide +kernel
theorem dX6_count_70 : decode cX6_count 70 = .ok (.invokevirtual 118, 3) := by decide +kernel
theorem dX6_count_73 : decode cX6_count 73 = .ok (.ireturn, 1) := by decide +kernel
theorem dX6_count_74 : decode cX6_count 74 = .ok (.aload_n 0, 1) := by decide +kernel
theorem dX6_count_75 : decode cX6_count 75 = .ok (.invokevirtual 212, 3) := by decide +kernel
theorem dX6_count_78 : decode cX6_count 78 = .ok (.ireturn, 1) := by decide +kernel
theorem dX6_count_79 : decode cX6_count 79 = .ok (.aload_n 0, 1) := by decide +kernel
theorem dX6_count_80 : decode cX6_count 80 = .ok (.getfield 87, 3) := by decide +kernel
theorem dX6_count_83 : decode cX6_count 83 = .ok (.ifCond .eq 12, 3) := by decide +kernel
theorem dX6_count_86 : decode cX6_count 86 = .ok (.aload_n 0, 1) := by decide +kernel
theorem dX6_count_87 : decode cX6_count 87 = .ok (.iconst (-1), 1) := by decide +kernel
theorem dX6_count_88 : decode cX6_count 88 = .ok (.iconst (-1), 1) := by decide +kernel
theorem dX6_count_89 : decode cX6_count 89 = .ok (.invokevirtual 122, 3) := by decide +kernel
theorem dX6_count_92 : decode cX6_count 92 = .ok (.goto 4, 3) := by decide +kernel
theorem dX6_count_95 : decode cX6_count 95 = .ok (.iconst 0, 1) := by decide +kernel
theorem dX6_count_96 : decode cX6_count 96 = .ok (.ireturn, 1) := by decide +kernel
theorem dX6_count_97 : decode cX6_count 97 = .ok (.aload_n 0, 1) := by decide +kernel
theorem dX6_count_98 : decode cX6_count 98 = .ok (.invokevirtual 215, 3) := by decide +kernel
theorem dX6_count_101 : decode cX6_count 101 = .ok (.ireturn, 1) := by decide +kernel
theorem dX6_count_102 : decode cX6_count 102 = .ok (.aload_n 0, 1) := by decide +kernel
theorem dX6_count_103 : decode cX6_count 103 = .ok (.getfield 37, 3) := by decide +kernel
theorem dX6_count_106 : decode cX6_count 106 = .ok (.getfield 80, 3) := by decide +kernel
theorem dX6_count_109 : decode cX6_count 109 = .ok (.ireturn, 1) := by decide +kernel
theorem dX6_count_110 : decode cX6_count 110 = .ok (.aload_n 0, 1) := by decide +kernel
theorem dX6_count_111 : decode cX6_count 111 = .ok (.getfield 10, 3) := by decide +kernel
theorem dX6_count_114 : decode cX6_count 114 = .ok (.getfield 65, 3) := by decide +kernel
theorem dX6_count_117 : decode cX6_count 117 = .ok (.ireturn, 1) := by decide +kernel
theorem dX6_count_118 : decode cX6_count 118 = .ok (.aload_n 0, 1) := by decide +kernel
theorem dX6_count_119 : decode cX6_count 119 = .ok (.getfield 90, 3) := by decide +kernel
theorem dX6_count_122 : decode cX6_count 122 = .ok (.ireturn, 1) := by decide +kernel
theorem dX6_count_123 : decode cX6_count 123 = .ok (.bipush (-102), 2) := by decide +kernel
theorem dX6_count_125 : decode cX6_count 125 = .ok (.ireturn, 1) := by decide +kernel
theorem dX6_digest_0 : decode cX6_digest 0 = .ok (.ldc2_w 218, 3) := by decide +kernel
theorem dX6_digest_3 : decode cX6_digest 3 = .ok (.lstore_n 1, 1) := by decide +kernel
theorem dX6_digest_4 : decode cX6_digest 4 = .ok (.iconst 0, 1) := by decide +kernel
theorem dX6_digest_5 : decode cX6_digest 5 = .ok (.istore_n 3, 1) := by decide +kernel
theorem dX6_digest_6 : decode cX6_digest 6 = .ok (.iload_n 3, 1) := by decide +kernel
theorem dX6_digest_7 : decode cX6_digest 7 = .ok (.aload_n 0, 1) := by decide +kernel
theorem dX6_digest_8 : decode cX6_digest 8 = .ok (.getfield 21, 3) := by decide +kernel
theorem dX6_digest_11 : decode cX6_digest 11 = .ok (.getfield 101, 3) := by decide +kernel
theorem dX6_digest_14 : decode cX6_digest 14 = .ok (.if_icmp .ge 38, 3) := by decide +kernel
theorem dX6_digest_17 : decode cX6_digest 17 = .ok (.iconst 0, 1) := by decide +kernel
theorem dX6_digest_18 : decode cX6_digest 18 = .ok (.istore 4, 2) := by decide +kernel
theorem dX6_digest_20 : decode cX6_digest 20 = .ok (.iload 4, 2) := by decide +kernel
theorem dX6_digest_22 : decode cX6_digest 22 = .ok (.bipush 6, 2) := by decide +kernel
theorem dX6_digest_24 : decode cX6_digest 24 = .ok (.if_icmp .gt 22, 3) := by decide +kernel
theorem dX6_digest_27 : decode cX6_digest 27 = .ok (.lload_n 1, 1) := by decide +kernel
theorem dX6_digest_28 : decode cX6_digest 28 = .ok (.aload_n 0, 1) := by decide +kernel
theorem dX6_digest_29 : decode cX6_digest 29 = .ok (.iload_n 3, 1) := by decide +kernel
theorem dX6_digest_30 : decode cX6_digest 30 = .ok (.iload 4, 2) := by decide +kernel
theorem dX6_digest_32 : decode cX6_digest 32 = .ok (.invokevirtual 220, 3) := by decide +kernel
theorem dX6_digest_35 : decode cX6_digest 35 = .ok (.i2l, 1) := by decide +kernel
theorem dX6_digest_36 : decode cX6_digest 36 = .ok (.invokestatic 223, 3) := by decide +kernel
theorem dX6_digest_39 : decode cX6_digest 39 = .ok (.lstore_n 1, 1) := by decide +kernel
theorem dX6_digest_40 : decode cX6_digest 40 = .ok (.iinc 4 1, 3) := by decide +kernel
theorem dX6_digest_43 : decode cX6_digest 43 = .ok (.goto (-23), 3) := by decide +kernel
theorem dX6_digest_46 : decode cX6_digest 46 = .ok (.iinc 3 1, 3) := by decide +kernel
theorem dX6_digest_49 : decode cX6_digest 49 = .ok (.goto (-43), 3) := by decide +kernel
theorem dX6_digest_52 : decode cX6_digest 52 = .ok (.aload_n 0, 1) := by decide +kernel
theorem dX6_digest_53 : decode cX6_digest 53 = .ok (.getfield 87, 3) := by decide +kernel
theorem dX6_digest_56 : decode cX6_digest 56 = .ok (.ifCond .eq 9, 3) := by decide +kernel
theorem dX6_digest_59 : decode cX6_digest 59 = .ok (.aload_n 0, 1) := by decide +kernel
theorem dX6_digest_60 : decode cX6_digest 60 = .ok (.lload_n 1, 1) := by decide +kernel
theorem dX6_digest_61 : decode cX6_digest 61 = .ok (.invokevirtual 227, 3) := by decide +kernel
theorem dX6_digest_64 : decode cX6_digest 64 = .ok (.lstore_n 1, 1) := by decide +kernel
theorem dX6_digest_65 : decode cX6_digest 65 = .ok (.iconst 0, 1) := by decide +kernel
theorem dX6_digest_66 : decode cX6_digest 66 = .ok (.istore_n 3, 1) := by decide +kernel
theorem dX6_digest_67 : decode cX6_digest 67 = .ok (.iload_n 3, 1) := by decide +kernel
theorem dX6_digest_68 : decode cX6_digest 68 = .ok (.aload_n 0, 1) := by decide +kernel
theorem dX6_digest_69 : decode cX6_digest 69 = .ok (.getfield 10, 3) := by decide +kernel
theorem dX6_digest_72 : decode cX6_digest 72 = .ok (.getfield 65, 3) := by decide +kernel
theorem dX6_digest_75 : decode cX6_digest 75 = .ok (.if_icmp .ge 23, 3) := by decide +kernel
theorem dX6_digest_78 : decode cX6_digest 78 = .ok (.lload_n 1, 1) := by decide +kernel
theorem dX6_digest_79 : decode cX6_digest 79 = .ok (.aload_n 0, 1) := by decide +kernel
theorem dX6_digest_80 : decode cX6_digest 80 = .ok (.getfield 10, 3) := by decide +kernel
theorem dX6_digest_83 : decode cX6_digest 83 = .ok (.iload_n 3, 1) := by decide +kernel
theorem dX6_digest_84 : decode cX6_digest 84 = .ok (.invokevirtual 231, 3) := by decide +kernel
theorem dX6_digest_87 : decode cX6_digest 87 = .ok (.i2l, 1) := by decide +kernel
theorem dX6_digest_88 : decode cX6_digest 88 = .ok (.invokestatic 223, 3) := by decide +kernel
theorem dX6_digest_91 : decode cX6_digest 91 = .ok (.lstore_n 1, 1) := by decide +kernel
theorem dX6_digest_92 : decode cX6_digest 92 = .ok (.iinc 3 1, 3) := by decide +kernel
theorem dX6_digest_95 : decode cX6_digest 95 = .ok (.goto (-28), 3) := by decide +kernel
theorem dX6_digest_98 : decode cX6_digest 98 = .ok (.iconst 0, 1) := by decide +kernel
theorem dX6_digest_99 : decode cX6_digest 99 = .ok (.istore_n 3, 1) := by decide +kernel
theorem dX6_digest_100 : decode cX6_digest 100 = .ok (.iload_n 3, 1) := by decide +kernel
theorem dX6_digest_101 : decode cX6_digest 101 = .ok (.bipush 7, 2) := by decide +kernel
theorem dX6_digest_103 : decode cX6_digest 103 = .ok (.if_icmp .gt 20, 3) := by decide +kernel
theorem dX6_digest_106 : decode cX6_digest 106 = .ok (.lload_n 1, 1) := by decide +kernel
theorem dX6_digest_107 : decode cX6_digest 107 = .ok (.aload_n 0, 1) := by decide +kernel
theorem dX6_digest_108 : decode cX6_digest 108 = .ok (.iload_n 3, 1) := by decide +kernel
theorem dX6_digest_109 : decode cX6_digest 109 = .ok (.invokevirtual 234, 3) := by decide +kernel
theorem dX6_digest_112 : decode cX6_digest 112 = .ok (.i2l, 1) := by decide +kernel
theorem dX6_digest_113 : decode cX6_digest 113 = .ok (.invokestatic 223, 3) := by decide +kernel
theorem dX6_digest_116 : decode cX6_digest 116 = .ok (.lstore_n 1, 1) := by decide +kernel
theorem dX6_digest_117 : decode cX6_digest 117 = .ok (.iinc 3 1, 3) := by decide +kernel
theorem dX6_digest_120 : decode cX6_digest 120 = .ok (.goto (-20), 3) := by decide +kernel
theorem dX6_digest_123 : decode cX6_digest 123 = .ok (.lload_n 1, 1) := by decide +kernel
theorem dX6_digest_124 : decode cX6_digest 124 = .ok (.lreturn, 1) := by decide +kernel
theorem dX6_mixedWithTree_0 : decode cX6_mixedWithTree 0 = .ok (.lload_n 1, 1) := by decide +kernel
theorem dX6_mixedWithTree_1 : decode cX6_mixedWithTree 1 = .ok (.lstore_n 3, 1) := by decide +kernel
theorem dX6_mixedWithTree_2 : decode cX6_mixedWithTree 2 = .ok (.iconst 0, 1) := by decide +kernel
theorem dX6_mixedWithTree_3 : decode cX6_mixedWithTree 3 = .ok (.istore 5, 2) := by decide +kernel
theorem dX6_mixedWithTree_5 : decode cX6_mixedWithTree 5 = .ok (.iload 5, 2) := by decide +kernel
theorem dX6_mixedWithTree_7 : decode cX6_mixedWithTree 7 = .ok (.bipush 64, 2) := by decide +kernel
theorem dX6_mixedWithTree_9 : decode cX6_mixedWithTree 9 = .ok (.if_icmp .ge 32, 3) := by decide +kernel
theorem dX6_mixedWithTree_12 : decode cX6_mixedWithTree 12 = .ok (.lload_n 3, 1) := by decide +kernel
theorem dX6_mixedWithTree_13 : decode cX6_mixedWithTree 13 = .ok (.aload_n 0, 1) := by decide +kernel
theorem dX6_mixedWithTree_14 : decode cX6_mixedWithTree 14 = .ok (.iload 5, 2) := by decide +kernel
theorem dX6_mixedWithTree_16 : decode cX6_mixedWithTree 16 = .ok (.invokevirtual 237, 3) := by decide +kernel
theorem dX6_mixedWithTree_19 : decode cX6_mixedWithTree 19 = .ok (.i2l, 1) := by decide +kernel
theorem dX6_mixedWithTree_20 : decode cX6_mixedWithTree 20 = .ok (.invokestatic 223, 3) := by decide +kernel
theorem dX6_mixedWithTree_23 : decode cX6_mixedWithTree 23 = .ok (.lstore_n 3, 1) := by decide +kernel
theorem dX6_mixedWithTree_24 : decode cX6_mixedWithTree 24 = .ok (.lload_n 3, 1) := by decide +kernel
theorem dX6_mixedWithTree_25 : decode cX6_mixedWithTree 25 = .ok (.aload_n 0, 1) := by decide +kernel
theorem dX6_mixedWithTree_26 : decode cX6_mixedWithTree 26 = .ok (.iload 5, 2) := by decide +kernel
theorem dX6_mixedWithTree_28 : decode cX6_mixedWithTree 28 = .ok (.invokevirtual 240, 3) := by decide +kernel
theorem dX6_mixedWithTree_31 : decode cX6_mixedWithTree 31 = .ok (.invokestatic 223, 3) := by decide +kernel
theorem dX6_mixedWithTree_34 : decode cX6_mixedWithTree 34 = .ok (.lstore_n 3, 1) := by decide +kernel
theorem dX6_mixedWithTree_35 : decode cX6_mixedWithTree 35 = .ok (.iinc 5 1, 3) := by decide +kernel
theorem dX6_mixedWithTree_38 : decode cX6_mixedWithTree 38 = .ok (.goto (-33), 3) := by decide +kernel
theorem dX6_mixedWithTree_41 : decode cX6_mixedWithTree 41 = .ok (.iconst 1, 1) := by decide +kernel
theorem dX6_mixedWithTree_42 : decode cX6_mixedWithTree 42 = .ok (.istore 5, 2) := by decide +kernel
theorem dX6_mixedWithTree_44 : decode cX6_mixedWithTree 44 = .ok (.iload 5, 2) := by decide +kernel
theorem dX6_mixedWithTree_46 : decode cX6_mixedWithTree 46 = .ok (.bipush 127, 2) := by decide +kernel
theorem dX6_mixedWithTree_48 : decode cX6_mixedWithTree 48 = .ok (.if_icmp .gt 24, 3) := by decide +kernel
theorem dX6_mixedWithTree_51 : decode cX6_mixedWithTree 51 = .ok (.lload_n 3, 1) := by decide +kernel
theorem dX6_mixedWithTree_52 : decode cX6_mixedWithTree 52 = .ok (.aload_n 0, 1) := by decide +kernel
theorem dX6_mixedWithTree_53 : decode cX6_mixedWithTree 53 = .ok (.getfield 30, 3) := by decide +kernel
theorem dX6_mixedWithTree_56 : decode cX6_mixedWithTree 56 = .ok (.iload 5, 2) := by decide +kernel
theorem dX6_mixedWithTree_58 : decode cX6_mixedWithTree 58 = .ok (.invokevirtual 154, 3) := by decide +kernel
theorem dX6_mixedWithTree_61 : decode cX6_mixedWithTree 61 = .ok (.i2l, 1) := by decide +kernel
theorem dX6_mixedWithTree_62 : decode cX6_mixedWithTree 62 = .ok (.invokestatic 223, 3) := by decide +kernel
theorem dX6_mixedWithTree_65 : decode cX6_mixedWithTree 65 = .ok (.lstore_n 3, 1) := by decide +kernel
theorem dX6_mixedWithTree_66 : decode cX6_mixedWithTree 66 = .ok (.iinc 5 1, 3) := by decide +kernel
theorem dX6_mixedWithTree_69 : decode cX6_mixedWithTree 69 = .ok (.goto (-25), 3) := by decide +kernel
theorem dX6_mixedWithTree_72 : decode cX6_mixedWithTree 72 = .ok (.lload_n 3, 1) := by decide +kernel
theorem dX6_mixedWithTree_73 : decode cX6_mixedWithTree 73 = .ok (.aload_n 0, 1) := by decide +kernel
theorem dX6_mixedWithTree_74 : decode cX6_mixedWithTree 74 = .ok (.iconst 0, 1) := by decide +kernel
theorem dX6_mixedWithTree_75 : decode cX6_mixedWithTree 75 = .ok (.bipush 63, 2) := by decide +kernel
theorem dX6_mixedWithTree_77 : decode cX6_mixedWithTree 77 = .ok (.invokevirtual 243, 3) := by decide +kernel
theorem dX6_mixedWithTree_80 : decode cX6_mixedWithTree 80 = .ok (.i2l, 1) := by decide +kernel
theorem dX6_mixedWithTree_81 : decode cX6_mixedWithTree 81 = .ok (.invokestatic 223, 3) := by decide +kernel
theorem dX6_mixedWithTree_84 : decode cX6_mixedWithTree 84 = .ok (.lreturn, 1) := by decide +kernel
theorem dX6_mixed_0 : decode cX6_mixed 0 = .ok (.ldc2_w 246, 3) := by decide +kernel
theorem dX6_mixed_3 : decode cX6_mixed 3 = .ok (.lload_n 0, 1) := by decide +kernel
theorem dX6_mixed_4 : decode cX6_mixed 4 = .ok (.lmul, 1) := by decide +kernel
theorem dX6_mixed_5 : decode cX6_mixed 5 = .ok (.lload_n 2, 1) := by decide +kernel
theorem dX6_mixed_6 : decode cX6_mixed 6 = .ok (.ladd, 1) := by decide +kernel
theorem dX6_mixed_7 : decode cX6_mixed 7 = .ok (.lreturn, 1) := by decide +kernel
theorem dX6_isQuantity_0 : decode cX6_isQuantity 0 = .ok (.iload_n 0, 1) := by decide +kernel
theorem dX6_isQuantity_1 : decode cX6_isQuantity 1 = .ok (.ifCond .lt 13, 3) := by decide +kernel
theorem dX6_isQuantity_4 : decode cX6_isQuantity 4 = .ok (.iload_n 0, 1) := by decide +kernel
theorem dX6_isQuantity_5 : decode cX6_isQuantity 5 = .ok (.bipush 64, 2) := by decide +kernel
theorem dX6_isQuantity_7 : decode cX6_isQuantity 7 = .ok (.if_icmp .ge 7, 3) := by decide +kernel
theorem dX6_isQuantity_10 : decode cX6_isQuantity 10 = .ok (.iconst 1, 1) := by decide +kernel
theorem dX6_isQuantity_11 : decode cX6_isQuantity 11 = .ok (.goto 4, 3) := by decide +kernel
theorem dX6_isQuantity_14 : decode cX6_isQuantity 14 = .ok (.iconst 0, 1) := by decide +kernel
theorem dX6_isQuantity_15 : decode cX6_isQuantity 15 = .ok (.ireturn, 1) := by decide +kernel
theorem dX6_isKind_0 : decode cX6_isKind 0 = .ok (.iload_n 0, 1) := by decide +kernel
theorem dX6_isKind_1 : decode cX6_isKind 1 = .ok (.ifCond .lt 12, 3) := by decide +kernel
theorem dX6_isKind_4 : decode cX6_isKind 4 = .ok (.iload_n 0, 1) := by decide +kernel
theorem dX6_isKind_5 : decode cX6_isKind 5 = .ok (.iconst 5, 1) := by decide +kernel
theorem dX6_isKind_6 : decode cX6_isKind 6 = .ok (.if_icmp .ge 7, 3) := by decide +kernel
theorem dX6_isKind_9 : decode cX6_isKind 9 = .ok (.iconst 1, 1) := by decide +kernel
theorem dX6_isKind_10 : decode cX6_isKind 10 = .ok (.goto 4, 3) := by decide +kernel
theorem dX6_isKind_13 : decode cX6_isKind 13 = .ok (.iconst 0, 1) := by decide +kernel
theorem dX6_isKind_14 : decode cX6_isKind 14 = .ok (.ireturn, 1) := by decide +kernel
theorem dX6_refusalOf_0 : decode cX6_refusalOf 0 = .ok (.iload 4, 2) := by decide +kernel
theorem dX6_refusalOf_2 : decode cX6_refusalOf 2 = .ok (.bipush 100, 2) := by decide +kernel
theorem dX6_refusalOf_4 : decode cX6_refusalOf 4 = .ok (.idiv, 1) := by decide +kernel
theorem dX6_refusalOf_5 : decode cX6_refusalOf 5 = .ok (.istore 5, 2) := by decide +kernel
theorem dX6_refusalOf_7 : decode cX6_refusalOf 7 = .ok (.iload 4, 2) := by decide +kernel
theorem dX6_refusalOf_9 : decode cX6_refusalOf 9 = .ok (.bipush 100, 2) := by decide +kernel
theorem dX6_refusalOf_11 : decode cX6_refusalOf 11 = .ok (.irem, 1) := by decide +kernel
theorem dX6_refusalOf_12 : decode cX6_refusalOf 12 = .ok (.istore 6, 2) := by decide +kernel
theorem dX6_refusalOf_14 : decode cX6_refusalOf 14 = .ok (.iload_n 1, 1) := by decide +kernel
theorem dX6_refusalOf_15 : decode cX6_refusalOf 15 = .ok (.invokestatic 132, 3) := by decide +kernel
theorem dX6_refusalOf_18 : decode cX6_refusalOf 18 = .ok (.ifCond .eq 31, 3) := by decide +kernel
theorem dX6_refusalOf_21 : decode cX6_refusalOf 21 = .ok (.iload 4, 2) := by decide +kernel
theorem dX6_refusalOf_23 : decode cX6_refusalOf 23 = .ok (.ifCond .lt 26, 3) := by decide +kernel
theorem dX6_refusalOf_26 : decode cX6_refusalOf 26 = .ok (.iload 5, 2) := by decide +kernel
theorem dX6_refusalOf_28 : decode cX6_refusalOf 28 = .ok (.invokestatic 138, 3) := by decide +kernel
theorem dX6_refusalOf_31 : decode cX6_refusalOf 31 = .ok (.ifCond .eq 18, 3) := by decide +kernel
theorem dX6_refusalOf_34 : decode cX6_refusalOf 34 = .ok (.iload 6, 2) := by decide +kernel
theorem dX6_refusalOf_36 : decode cX6_refusalOf 36 = .ok (.invokestatic 138, 3) := by decide +kernel
theorem dX6_refusalOf_39 : decode cX6_refusalOf 39 = .ok (.ifCond .eq 10, 3) := by decide +kernel
theorem dX6_refusalOf_42 : decode cX6_refusalOf 42 = .ok (.iload 5, 2) := by decide +kernel
theorem dX6_refusalOf_44 : decode cX6_refusalOf 44 = .ok (.iload 6, 2) := by decide +kernel
theorem dX6_refusalOf_46 : decode cX6_refusalOf 46 = .ok (.if_icmp .le 6, 3) := by decide +kernel
theorem dX6_refusalOf_49 : decode cX6_refusalOf 49 = .ok (.bipush (-102), 2) := by decide +kernel
theorem dX6_refusalOf_51 : decode cX6_refusalOf 51 = .ok (.ireturn, 1) := by decide +kernel
theorem dX6_refusalOf_52 : decode cX6_refusalOf 52 = .ok (.aload_n 0, 1) := by decide +kernel
theorem dX6_refusalOf_53 : decode cX6_refusalOf 53 = .ok (.getfield 51, 3) := by decide +kernel
theorem dX6_refusalOf_56 : decode cX6_refusalOf 56 = .ok (.iload_n 1, 1) := by decide +kernel
theorem dX6_refusalOf_57 : decode cX6_refusalOf 57 = .ok (.iload_n 2, 1) := by decide +kernel
theorem dX6_refusalOf_58 : decode cX6_refusalOf 58 = .ok (.iload_n 3, 1) := by decide +kernel
theorem dX6_refusalOf_59 : decode cX6_refusalOf 59 = .ok (.iload 5, 2) := by decide +kernel
theorem dX6_refusalOf_61 : decode cX6_refusalOf 61 = .ok (.iload 6, 2) := by decide +kernel
theorem dX6_refusalOf_63 : decode cX6_refusalOf 63 = .ok (.invokevirtual 248, 3) := by decide +kernel
theorem dX6_refusalOf_66 : decode cX6_refusalOf 66 = .ok (.aload_n 0, 1) := by decide +kernel
theorem dX6_refusalOf_67 : decode cX6_refusalOf 67 = .ok (.getfield 51, 3) := by decide +kernel
theorem dX6_refusalOf_70 : decode cX6_refusalOf 70 = .ok (.invokevirtual 251, 3) := by decide +kernel
theorem dX6_refusalOf_73 : decode cX6_refusalOf 73 = .ok (.ifCond .eq 6, 3) := by decide +kernel
theorem dX6_refusalOf_76 : decode cX6_refusalOf 76 = .ok (.bipush (-102), 2) := by decide +kernel
theorem dX6_refusalOf_78 : decode cX6_refusalOf 78 = .ok (.ireturn, 1) := by decide +kernel
theorem dX6_refusalOf_79 : decode cX6_refusalOf 79 = .ok (.aload_n 0, 1) := by decide +kernel
theorem dX6_refusalOf_80 : decode cX6_refusalOf 80 = .ok (.getfield 87, 3) := by decide +kernel
theorem dX6_refusalOf_83 : decode cX6_refusalOf 83 = .ok (.ifCond .ne 6, 3) := by decide +kernel
theorem dX6_refusalOf_86 : decode cX6_refusalOf 86 = .ok (.bipush (-103), 2) := by decide +kernel
theorem dX6_refusalOf_88 : decode cX6_refusalOf 88 = .ok (.ireturn, 1) := by decide +kernel
theorem dX6_refusalOf_89 : decode cX6_refusalOf 89 = .ok (.aload_n 0, 1) := by decide +kernel
theorem dX6_refusalOf_90 : decode cX6_refusalOf 90 = .ok (.getfield 21, 3) := by decide +kernel
theorem dX6_refusalOf_93 : decode cX6_refusalOf 93 = .ok (.getfield 101, 3) := by decide +kernel
theorem dX6_refusalOf_96 : decode cX6_refusalOf 96 = .ok (.bipush 40, 2) := by decide +kernel
theorem dX6_refusalOf_98 : decode cX6_refusalOf 98 = .ok (.if_icmp .lt 8, 3) := by decide +kernel
theorem dX6_refusalOf_101 : decode cX6_refusalOf 101 = .ok (.bipush (-104), 2) := by decide +kernel
theorem dX6_refusalOf_103 : decode cX6_refusalOf 103 = .ok (.goto 4, 3) := by decide +kernel
theorem dX6_refusalOf_106 : decode cX6_refusalOf 106 = .ok (.iconst 0, 1) := by decide +kernel
theorem dX6_refusalOf_107 : decode cX6_refusalOf 107 = .ok (.ireturn, 1) := by decide +kernel
theorem dX6_quantitiesOf_0 : decode cX6_quantitiesOf 0 = .ok (.iconst 0, 1) := by decide +kernel
theorem dX6_quantitiesOf_1 : decode cX6_quantitiesOf 1 = .ok (.istore_n 3, 1) := by decide +kernel
theorem dX6_quantitiesOf_2 : decode cX6_quantitiesOf 2 = .ok (.iconst 0, 1) := by decide +kernel
theorem dX6_quantitiesOf_3 : decode cX6_quantitiesOf 3 = .ok (.istore 4, 2) := by decide +kernel
theorem dX6_quantitiesOf_5 : decode cX6_quantitiesOf 5 = .ok (.iload 4, 2) := by decide +kernel
theorem dX6_quantitiesOf_7 : decode cX6_quantitiesOf 7 = .ok (.bipush 64, 2) := by decide +kernel
theorem dX6_quantitiesOf_9 : decode cX6_quantitiesOf 9 = .ok (.if_icmp .ge 35, 3) := by decide +kernel
theorem dX6_quantitiesOf_12 : decode cX6_quantitiesOf 12 = .ok (.aload_n 0, 1) := by decide +kernel
theorem dX6_quantitiesOf_13 : decode cX6_quantitiesOf 13 = .ok (.getfield 30, 3) := by decide +kernel
theorem dX6_quantitiesOf_16 : decode cX6_quantitiesOf 16 = .ok (.iload 4, 2) := by decide +kernel
theorem dX6_quantitiesOf_18 : decode cX6_quantitiesOf 18 = .ok (.invokevirtual 174, 3) := by decide +kernel
theorem dX6_quantitiesOf_21 : decode cX6_quantitiesOf 21 = .ok (.istore 5, 2) := by decide +kernel
theorem dX6_quantitiesOf_23 : decode cX6_quantitiesOf 23 = .ok (.iload 5, 2) := by decide +kernel
theorem dX6_quantitiesOf_25 : decode cX6_quantitiesOf 25 = .ok (.iload_n 1, 1) := by decide +kernel
theorem dX6_quantitiesOf_26 : decode cX6_quantitiesOf 26 = .ok (.if_icmp .lt 12, 3) := by decide +kernel
theorem dX6_quantitiesOf_29 : decode cX6_quantitiesOf 29 = .ok (.iload 5, 2) := by decide +kernel
theorem dX6_quantitiesOf_31 : decode cX6_quantitiesOf 31 = .ok (.iload_n 2, 1) := by decide +kernel
theorem dX6_quantitiesOf_32 : decode cX6_quantitiesOf 32 = .ok (.if_icmp .gt 6, 3) := by decide +kernel
theorem dX6_quantitiesOf_35 : decode cX6_quantitiesOf 35 = .ok (.iinc 3 1, 3) := by decide +kernel
theorem dX6_quantitiesOf_38 : decode cX6_quantitiesOf 38 = .ok (.iinc 4 1, 3) := by decide +kernel
theorem dX6_quantitiesOf_41 : decode cX6_quantitiesOf 41 = .ok (.goto (-36), 3) := by decide +kernel
theorem dX6_quantitiesOf_44 : decode cX6_quantitiesOf 44 = .ok (.iload_n 3, 1) := by decide +kernel
theorem dX6_quantitiesOf_45 : decode cX6_quantitiesOf 45 = .ok (.ireturn, 1) := by decide +kernel
theorem dX6_tariffsNeverLowest_0 : decode cX6_tariffsNeverLowest 0 = .ok (.iconst 0, 1) := by decide +kernel
theorem dX6_tariffsNeverLowest_1 : decode cX6_tariffsNeverLowest 1 = .ok (.istore_n 1, 1) := by decide +kernel
theorem dX6_tariffsNeverLowest_2 : decode cX6_tariffsNeverLowest 2 = .ok (.iconst 0, 1) := by decide +kernel
theorem dX6_tariffsNeverLowest_3 : decode cX6_tariffsNeverLowest 3 = .ok (.istore_n 2, 1) := by decide +kernel
theorem dX6_tariffsNeverLowest_4 : decode cX6_tariffsNeverLowest 4 = .ok (.iload_n 2, 1) := by decide +kernel
theorem dX6_tariffsNeverLowest_5 : decode cX6_tariffsNeverLowest 5 = .ok (.aload_n 0, 1) := by decide +kernel
theorem dX6_tariffsNeverLowest_6 : decode cX6_tariffsNeverLowest 6 = .ok (.getfield 21, 3) := by decide +kernel
theorem dX6_tariffsNeverLowest_9 : decode cX6_tariffsNeverLowest 9 = .ok (.getfield 101, 3) := by decide +kernel
theorem dX6_tariffsNeverLowest_12 : decode cX6_tariffsNeverLowest 12 = .ok (.if_icmp .ge 21, 3) := by decide +kernel
theorem dX6_tariffsNeverLowest_15 : decode cX6_tariffsNeverLowest 15 = .ok (.aload_n 0, 1) := by decide +kernel
theorem dX6_tariffsNeverLowest_16 : decode cX6_tariffsNeverLowest 16 = .ok (.iload_n 2, 1) := by decide +kernel
theorem dX6_tariffsNeverLowest_17 : decode cX6_tariffsNeverLowest 17 = .ok (.iload_n 2, 1) := by decide +kernel
theorem dX6_tariffsNeverLowest_18 : decode cX6_tariffsNeverLowest 18 = .ok (.invokevirtual 122, 3) := by decide +kernel
theorem dX6_tariffsNeverLowest_21 : decode cX6_tariffsNeverLowest 21 = .ok (.ifCond .ne 6, 3) := by decide +kernel
theorem dX6_tariffsNeverLowest_24 : decode cX6_tariffsNeverLowest 24 = .ok (.iinc 1 1, 3) := by decide +kernel
theorem dX6_tariffsNeverLowest_27 : decode cX6_tariffsNeverLowest 27 = .ok (.iinc 2 1, 3) := by decide +kernel
theorem dX6_tariffsNeverLowest_30 : decode cX6_tariffsNeverLowest 30 = .ok (.goto (-26), 3) := by decide +kernel
theorem dX6_tariffsNeverLowest_33 : decode cX6_tariffsNeverLowest 33 = .ok (.iload_n 1, 1) := by decide +kernel
theorem dX6_tariffsNeverLowest_34 : decode cX6_tariffsNeverLowest 34 = .ok (.ireturn, 1) := by decide +kernel
theorem dX6_beginsPiece_0 : decode cX6_beginsPiece 0 = .ok (.aload_n 0, 1) := by decide +kernel
theorem dX6_beginsPiece_1 : decode cX6_beginsPiece 1 = .ok (.getfield 30, 3) := by decide +kernel
theorem dX6_beginsPiece_4 : decode cX6_beginsPiece 4 = .ok (.iload_n 1, 1) := by decide +kernel
theorem dX6_beginsPiece_5 : decode cX6_beginsPiece 5 = .ok (.invokevirtual 174, 3) := by decide +kernel
theorem dX6_beginsPiece_8 : decode cX6_beginsPiece 8 = .ok (.istore_n 2, 1) := by decide +kernel
theorem dX6_beginsPiece_9 : decode cX6_beginsPiece 9 = .ok (.iload_n 2, 1) := by decide +kernel
theorem dX6_beginsPiece_10 : decode cX6_beginsPiece 10 = .ok (.iconst (-1), 1) := by decide +kernel
theorem dX6_beginsPiece_11 : decode cX6_beginsPiece 11 = .ok (.if_icmp .eq 25, 3) := by decide +kernel
theorem dX6_beginsPiece_14 : decode cX6_beginsPiece 14 = .ok (.iload_n 1, 1) := by decide +kernel
theorem dX6_beginsPiece_15 : decode cX6_beginsPiece 15 = .ok (.ifCond .eq 17, 3) := by decide +kernel
theorem dX6_beginsPiece_18 : decode cX6_beginsPiece 18 = .ok (.aload_n 0, 1) := by decide +kernel
theorem dX6_beginsPiece_19 : decode cX6_beginsPiece 19 = .ok (.getfield 30, 3) := by decide +kernel
theorem dX6_beginsPiece_22 : decode cX6_beginsPiece 22 = .ok (.iload_n 1, 1) := by decide +kernel
theorem dX6_beginsPiece_23 : decode cX6_beginsPiece 23 = .ok (.iconst 1, 1) := by decide +kernel
theorem dX6_beginsPiece_24 : decode cX6_beginsPiece 24 = .ok (.isub, 1) := by decide +kernel
theorem dX6_beginsPiece_25 : decode cX6_beginsPiece 25 = .ok (.invokevirtual 174, 3) := by decide +kernel
theorem dX6_beginsPiece_28 : decode cX6_beginsPiece 28 = .ok (.iload_n 2, 1) := by decide +kernel
theorem dX6_beginsPiece_29 : decode cX6_beginsPiece 29 = .ok (.if_icmp .eq 7, 3) := by decide +kernel
theorem dX6_beginsPiece_32 : decode cX6_beginsPiece 32 = .ok (.iconst 1, 1) := by decide +kernel
theorem dX6_beginsPiece_33 : decode cX6_beginsPiece 33 = .ok (.goto 4, 3) := by decide +kernel
theorem dX6_beginsPiece_36 : decode cX6_beginsPiece 36 = .ok (.iconst 0, 1) := by decide +kernel
theorem dX6_beginsPiece_37 : decode cX6_beginsPiece 37 = .ok (.ireturn, 1) := by decide +kernel
theorem dX6_pieces_0 : decode cX6_pieces 0 = .ok (.iconst 0, 1) := by decide +kernel
theorem dX6_pieces_1 : decode cX6_pieces 1 = .ok (.istore_n 1, 1) := by decide +kernel
theorem dX6_pieces_2 : decode cX6_pieces 2 = .ok (.iconst 0, 1) := by decide +kernel
theorem dX6_pieces_3 : decode cX6_pieces 3 = .ok (.istore_n 2, 1) := by decide +kernel
theorem dX6_pieces_4 : decode cX6_pieces 4 = .ok (.iload_n 2, 1) := by decide +kernel
theorem dX6_pieces_5 : decode cX6_pieces 5 = .ok (.bipush 64, 2) := by decide +kernel
theorem dX6_pieces_7 : decode cX6_pieces 7 = .ok (.if_icmp .ge 20, 3) := by decide +kernel
theorem dX6_pieces_10 : decode cX6_pieces 10 = .ok (.aload_n 0, 1) := by decide +kernel
theorem dX6_pieces_11 : decode cX6_pieces 11 = .ok (.iload_n 2, 1) := by decide +kernel
theorem dX6_pieces_12 : decode cX6_pieces 12 = .ok (.invokevirtual 254, 3) := by decide +kernel
theorem dX6_pieces_15 : decode cX6_pieces 15 = .ok (.ifCond .eq 6, 3) := by decide +kernel
theorem dX6_pieces_18 : decode cX6_pieces 18 = .ok (.iinc 1 1, 3) := by decide +kernel
theorem dX6_pieces_21 : decode cX6_pieces 21 = .ok (.iinc 2 1, 3) := by decide +kernel
theorem dX6_pieces_24 : decode cX6_pieces 24 = .ok (.goto (-20), 3) := by decide +kernel
theorem dX6_pieces_27 : decode cX6_pieces 27 = .ok (.iload_n 1, 1) := by decide +kernel
theorem dX6_pieces_28 : decode cX6_pieces 28 = .ok (.ireturn, 1) := by decide +kernel
theorem dX6_firstOfPiece_0 : decode cX6_firstOfPiece 0 = .ok (.iconst 0, 1) := by decide +kernel
theorem dX6_firstOfPiece_1 : decode cX6_firstOfPiece 1 = .ok (.istore_n 2, 1) := by decide +kernel
theorem dX6_firstOfPiece_2 : decode cX6_firstOfPiece 2 = .ok (.iconst 0, 1) := by decide +kernel
theorem dX6_firstOfPiece_3 : decode cX6_firstOfPiece 3 = .ok (.istore_n 3, 1) := by decide +kernel
theorem dX6_firstOfPiece_4 : decode cX6_firstOfPiece 4 = .ok (.iload_n 3, 1) := by decide +kernel
theorem dX6_firstOfPiece_5 : decode cX6_firstOfPiece 5 = .ok (.bipush 64, 2) := by decide +kernel
theorem dX6_firstOfPiece_7 : decode cX6_firstOfPiece 7 = .ok (.if_icmp .ge 27, 3) := by decide +kernel
theorem dX6_firstOfPiece_10 : decode cX6_firstOfPiece 10 = .ok (.aload_n 0, 1) := by decide +kernel
theorem dX6_firstOfPiece_11 : decode cX6_firstOfPiece 11 = .ok (.iload_n 3, 1) := by decide +kernel
theorem dX6_firstOfPiece_12 : decode cX6_firstOfPiece 12 = .ok (.invokevirtual 254, 3) := by decide +kernel
theorem dX6_firstOfPiece_15 : decode cX6_firstOfPiece 15 = .ok (.ifCond .eq 13, 3) := by decide +kernel
theorem dX6_firstOfPiece_18 : decode cX6_firstOfPiece 18 = .ok (.iload_n 2, 1) := by decide +kernel
theorem dX6_firstOfPiece_19 : decode cX6_firstOfPiece 19 = .ok (.iload_n 1, 1) := by decide +kernel
theorem dX6_firstOfPiece_20 : decode cX6_firstOfPiece 20 = .ok (.if_icmp .ne 5, 3) := by decide +kernel
theorem dX6_firstOfPiece_23 : decode cX6_firstOfPiece 23 = .ok (.iload_n 3, 1) := by decide +kernel
theorem dX6_firstOfPiece_24 : decode cX6_firstOfPiece 24 = .ok (.ireturn, 1) := by decide +kernel
theorem dX6_firstOfPiece_25 : decode cX6_firstOfPiece 25 = .ok (.iinc 2 1, 3) := by decide +kernel
theorem dX6_firstOfPiece_28 : decode cX6_firstOfPiece 28 = .ok (.iinc 3 1, 3) := by decide +kernel
theorem dX6_firstOfPiece_31 : decode cX6_firstOfPiece 31 = .ok (.goto (-27), 3) := by decide +kernel
theorem dX6_firstOfPiece_34 : decode cX6_firstOfPiece 34 = .ok (.iconst (-1), 1) := by decide +kernel
theorem dX6_firstOfPiece_35 : decode cX6_firstOfPiece 35 = .ok (.ireturn, 1) := by decide +kernel
theorem dX6_lastOfPiece_0 : decode cX6_lastOfPiece 0 = .ok (.aload_n 0, 1) := by decide +kernel
theorem dX6_lastOfPiece_1 : decode cX6_lastOfPiece 1 = .ok (.getfield 30, 3) := by decide +kernel
theorem dX6_lastOfPiece_4 : decode cX6_lastOfPiece 4 = .ok (.iload_n 1, 1) := by decide +kernel
theorem dX6_lastOfPiece_5 : decode cX6_lastOfPiece 5 = .ok (.invokevirtual 174, 3) := by decide +kernel
theorem dX6_lastOfPiece_8 : decode cX6_lastOfPiece 8 = .ok (.istore_n 2, 1) := by decide +kernel
theorem dX6_lastOfPiece_9 : decode cX6_lastOfPiece 9 = .ok (.iload_n 1, 1) := by decide +kernel
theorem dX6_lastOfPiece_10 : decode cX6_lastOfPiece 10 = .ok (.istore_n 3, 1) := by decide +kernel
theorem dX6_lastOfPiece_11 : decode cX6_lastOfPiece 11 = .ok (.iload_n 3, 1) := by decide +kernel
theorem dX6_lastOfPiece_12 : decode cX6_lastOfPiece 12 = .ok (.bipush 63, 2) := by decide +kernel
theorem dX6_lastOfPiece_14 : decode cX6_lastOfPiece 14 = .ok (.if_icmp .ge 23, 3) := by decide +kernel
theorem dX6_lastOfPiece_17 : decode cX6_lastOfPiece 17 = .ok (.aload_n 0, 1) := by decide +kernel
theorem dX6_lastOfPiece_18 : decode cX6_lastOfPiece 18 = .ok (.getfield 30, 3) := by decide +kernel
theorem dX6_lastOfPiece_21 : decode cX6_lastOfPiece 21 = .ok (.iload_n 3, 1) := by decide +kernel
theorem dX6_lastOfPiece_22 : decode cX6_lastOfPiece 22 = .ok (.iconst 1, 1) := by decide +kernel
theorem dX6_lastOfPiece_23 : decode cX6_lastOfPiece 23 = .ok (.iadd, 1) := by decide +kernel
theorem dX6_lastOfPiece_24 : decode cX6_lastOfPiece 24 = .ok (.invokevirtual 174, 3) := by decide +kernel
theorem dX6_lastOfPiece_27 : decode cX6_lastOfPiece 27 = .ok (.iload_n 2, 1) := by decide +kernel
theorem dX6_lastOfPiece_28 : decode cX6_lastOfPiece 28 = .ok (.if_icmp .ne 9, 3) := by decide +kernel
theorem dX6_lastOfPiece_31 : decode cX6_lastOfPiece 31 = .ok (.iinc 3 1, 3) := by decide +kernel
theorem dX6_lastOfPiece_34 : decode cX6_lastOfPiece 34 = .ok (.goto (-23), 3) := by decide +kernel
theorem dX6_lastOfPiece_37 : decode cX6_lastOfPiece 37 = .ok (.iload_n 3, 1) := by decide +kernel
theorem dX6_lastOfPiece_38 : decode cX6_lastOfPiece 38 = .ok (.ireturn, 1) := by decide +kernel
