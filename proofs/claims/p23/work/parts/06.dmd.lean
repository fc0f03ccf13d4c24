theorem dX7_askOf_59 : decode cX7_askOf 59 = .ok (.istore_n 3, 1) := by decide +kernel
theorem dX7_askOf_60 : decode cX7_askOf 60 = .ok (.iload 6, 2) := by decide +kernel
theorem dX7_askOf_62 : decode cX7_askOf 62 = .ok (.iload 4, 2) := by decide +kernel
theorem dX7_askOf_64 : decode cX7_askOf 64 = .ok (.if_icmp .ge 8, 3) := by decide +kernel
theorem dX7_askOf_67 : decode cX7_askOf 67 = .ok (.iload 6, 2) := by decide +kernel
theorem dX7_askOf_69 : decode cX7_askOf 69 = .ok (.goto 5, 3) := by decide +kernel
theorem dX7_askOf_72 : decode cX7_askOf 72 = .ok (.iload 4, 2) := by decide +kernel
theorem dX7_askOf_74 : decode cX7_askOf 74 = .ok (.istore 4, 2) := by decide +kernel
theorem dX7_askOf_76 : decode cX7_askOf 76 = .ok (.iinc 5 1, 3) := by decide +kernel
theorem dX7_askOf_79 : decode cX7_askOf 79 = .ok (.goto (-58), 3) := by decide +kernel
theorem dX7_askOf_82 : decode cX7_askOf 82 = .ok (.iload_n 3, 1) := by decide +kernel
theorem dX7_askOf_83 : decode cX7_askOf 83 = .ok (.ireturn, 1) := by decide +kernel
theorem dX7_draw_0 : decode cX7_draw 0 = .ok (.aload_n 0, 1) := by decide +kernel
theorem dX7_draw_1 : decode cX7_draw 1 = .ok (.ldc2_w 261, 3) := by decide +kernel
theorem dX7_draw_4 : decode cX7_draw 4 = .ok (.aload_n 0, 1) := by decide +kernel
theorem dX7_draw_5 : decode cX7_draw 5 = .ok (.getfield 263, 3) := by decide +kernel
theorem dX7_draw_8 : decode cX7_draw 8 = .ok (.lmul, 1) := by decide +kernel
theorem dX7_draw_9 : decode cX7_draw 9 = .ok (.ldc2_w 267, 3) := by decide +kernel
theorem dX7_draw_12 : decode cX7_draw 12 = .ok (.ladd, 1) := by decide +kernel
theorem dX7_draw_13 : decode cX7_draw 13 = .ok (.ldc2_w 141, 3) := by decide +kernel
theorem dX7_draw_16 : decode cX7_draw 16 = .ok (.land, 1) := by decide +kernel
theorem dX7_draw_17 : decode cX7_draw 17 = .ok (.putfield 263, 3) := by decide +kernel
theorem dX7_draw_20 : decode cX7_draw 20 = .ok (.aload_n 0, 1) := by decide +kernel
theorem dX7_draw_21 : decode cX7_draw 21 = .ok (.getfield 263, 3) := by decide +kernel
theorem dX7_draw_24 : decode cX7_draw 24 = .ok (.ldc2_w 269, 3) := by decide +kernel
theorem dX7_draw_27 : decode cX7_draw 27 = .ok (.ldiv, 1) := by decide +kernel
theorem dX7_draw_28 : decode cX7_draw 28 = .ok (.iload_n 1, 1) := by decide +kernel
theorem dX7_draw_29 : decode cX7_draw 29 = .ok (.i2l, 1) := by decide +kernel
theorem dX7_draw_30 : decode cX7_draw 30 = .ok (.lrem, 1) := by decide +kernel
theorem dX7_draw_31 : decode cX7_draw 31 = .ok (.l2i, 1) := by decide +kernel
theorem dX7_draw_32 : decode cX7_draw 32 = .ok (.ireturn, 1) := by decide +kernel
theorem dX7_drawOne_0 : decode cX7_drawOne 0 = .ok (.aload_n 0, 1) := by decide +kernel
theorem dX7_drawOne_1 : decode cX7_drawOne 1 = .ok (.iconst 5, 1) := by decide +kernel
theorem dX7_drawOne_2 : decode cX7_drawOne 2 = .ok (.invokevirtual 271, 3) := by decide +kernel
theorem dX7_drawOne_5 : decode cX7_drawOne 5 = .ok (.istore_n 1, 1) := by decide +kernel
theorem dX7_drawOne_6 : decode cX7_drawOne 6 = .ok (.aload_n 0, 1) := by decide +kernel
theorem dX7_drawOne_7 : decode cX7_drawOne 7 = .ok (.bipush 19, 2) := by decide +kernel
theorem dX7_drawOne_9 : decode cX7_drawOne 9 = .ok (.invokevirtual 271, 3) := by decide +kernel
theorem dX7_drawOne_12 : decode cX7_drawOne 12 = .ok (.bipush 9, 2) := by decide +kernel
theorem dX7_drawOne_14 : decode cX7_drawOne 14 = .ok (.isub, 1) := by decide +kernel
theorem dX7_drawOne_15 : decode cX7_drawOne 15 = .ok (.istore_n 2, 1) := by decide +kernel
theorem dX7_drawOne_16 : decode cX7_drawOne 16 = .ok (.aload_n 0, 1) := by decide +kernel
theorem dX7_drawOne_17 : decode cX7_drawOne 17 = .ok (.sipush 199, 3) := by decide +kernel
theorem dX7_drawOne_20 : decode cX7_drawOne 20 = .ok (.invokevirtual 271, 3) := by decide +kernel
theorem dX7_drawOne_23 : decode cX7_drawOne 23 = .ok (.bipush 99, 2) := by decide +kernel
theorem dX7_drawOne_25 : decode cX7_drawOne 25 = .ok (.isub, 1) := by decide +kernel
theorem dX7_drawOne_26 : decode cX7_drawOne 26 = .ok (.istore_n 3, 1) := by decide +kernel
theorem dX7_drawOne_27 : decode cX7_drawOne 27 = .ok (.aload_n 0, 1) := by decide +kernel
theorem dX7_drawOne_28 : decode cX7_drawOne 28 = .ok (.bipush 64, 2) := by decide +kernel
theorem dX7_drawOne_30 : decode cX7_drawOne 30 = .ok (.invokevirtual 271, 3) := by decide +kernel
theorem dX7_drawOne_33 : decode cX7_drawOne 33 = .ok (.istore 4, 2) := by decide +kernel
theorem dX7_drawOne_35 : decode cX7_drawOne 35 = .ok (.aload_n 0, 1) := by decide +kernel
theorem dX7_drawOne_36 : decode cX7_drawOne 36 = .ok (.iload_n 1, 1) := by decide +kernel
theorem dX7_drawOne_37 : decode cX7_drawOne 37 = .ok (.iload_n 2, 1) := by decide +kernel
theorem dX7_drawOne_38 : decode cX7_drawOne 38 = .ok (.iload_n 3, 1) := by decide +kernel
theorem dX7_drawOne_39 : decode cX7_drawOne 39 = .ok (.iload 4, 2) := by decide +kernel
theorem dX7_drawOne_41 : decode cX7_drawOne 41 = .ok (.iload 4, 2) := by decide +kernel
theorem dX7_drawOne_43 : decode cX7_drawOne 43 = .ok (.aload_n 0, 1) := by decide +kernel
theorem dX7_drawOne_44 : decode cX7_drawOne 44 = .ok (.bipush 64, 2) := by decide +kernel
theorem dX7_drawOne_46 : decode cX7_drawOne 46 = .ok (.iload 4, 2) := by decide +kernel
theorem dX7_drawOne_48 : decode cX7_drawOne 48 = .ok (.isub, 1) := by decide +kernel
theorem dX7_drawOne_49 : decode cX7_drawOne 49 = .ok (.invokevirtual 271, 3) := by decide +kernel
theorem dX7_drawOne_52 : decode cX7_drawOne 52 = .ok (.iadd, 1) := by decide +kernel
theorem dX7_drawOne_53 : decode cX7_drawOne 53 = .ok (.invokevirtual 115, 3) := by decide +kernel
theorem dX7_drawOne_56 : decode cX7_drawOne 56 = .ok (.return_, 1) := by decide +kernel
theorem dX7_drawnNow_0 : decode cX7_drawnNow 0 = .ok (.aload_n 0, 1) := by decide +kernel
theorem dX7_drawnNow_1 : decode cX7_drawnNow 1 = .ok (.getfield 108, 3) := by decide +kernel
theorem dX7_drawnNow_4 : decode cX7_drawnNow 4 = .ok (.istore 4, 2) := by decide +kernel
theorem dX7_drawnNow_6 : decode cX7_drawnNow 6 = .ok (.aload_n 0, 1) := by decide +kernel
theorem dX7_drawnNow_7 : decode cX7_drawnNow 7 = .ok (.iload_n 2, 1) := by decide +kernel
theorem dX7_drawnNow_8 : decode cX7_drawnNow 8 = .ok (.i2l, 1) := by decide +kernel
theorem dX7_drawnNow_9 : decode cX7_drawnNow 9 = .ok (.putfield 263, 3) := by decide +kernel
theorem dX7_drawnNow_12 : decode cX7_drawnNow 12 = .ok (.iconst 0, 1) := by decide +kernel
theorem dX7_drawnNow_13 : decode cX7_drawnNow 13 = .ok (.istore 5, 2) := by decide +kernel
theorem dX7_drawnNow_15 : decode cX7_drawnNow 15 = .ok (.iload 5, 2) := by decide +kernel
theorem dX7_drawnNow_17 : decode cX7_drawnNow 17 = .ok (.iload_n 1, 1) := by decide +kernel
theorem dX7_drawnNow_18 : decode cX7_drawnNow 18 = .ok (.if_icmp .ge 13, 3) := by decide +kernel
theorem dX7_drawnNow_21 : decode cX7_drawnNow 21 = .ok (.aload_n 0, 1) := by decide +kernel
theorem dX7_drawnNow_22 : decode cX7_drawnNow 22 = .ok (.invokevirtual 274, 3) := by decide +kernel
theorem dX7_drawnNow_25 : decode cX7_drawnNow 25 = .ok (.iinc 5 1, 3) := by decide +kernel
theorem dX7_drawnNow_28 : decode cX7_drawnNow 28 = .ok (.goto (-13), 3) := by decide +kernel
theorem dX7_drawnNow_31 : decode cX7_drawnNow 31 = .ok (.iconst 0, 1) := by decide +kernel
theorem dX7_drawnNow_32 : decode cX7_drawnNow 32 = .ok (.istore 5, 2) := by decide +kernel
theorem dX7_drawnNow_34 : decode cX7_drawnNow 34 = .ok (.iconst 0, 1) := by decide +kernel
theorem dX7_drawnNow_35 : decode cX7_drawnNow 35 = .ok (.istore 6, 2) := by decide +kernel
theorem dX7_drawnNow_37 : decode cX7_drawnNow 37 = .ok (.iload 6, 2) := by decide +kernel
theorem dX7_drawnNow_39 : decode cX7_drawnNow 39 = .ok (.bipush 64, 2) := by decide +kernel
theorem dX7_drawnNow_41 : decode cX7_drawnNow 41 = .ok (.if_icmp .ge 30, 3) := by decide +kernel
theorem dX7_drawnNow_44 : decode cX7_drawnNow 44 = .ok (.iload 5, 2) := by decide +kernel
theorem dX7_drawnNow_46 : decode cX7_drawnNow 46 = .ok (.aload_n 0, 1) := by decide +kernel
theorem dX7_drawnNow_47 : decode cX7_drawnNow 47 = .ok (.iload 6, 2) := by decide +kernel
theorem dX7_drawnNow_49 : decode cX7_drawnNow 49 = .ok (.invokevirtual 176, 3) := by decide +kernel
theorem dX7_drawnNow_52 : decode cX7_drawnNow 52 = .ok (.iload 4, 2) := by decide +kernel
theorem dX7_drawnNow_54 : decode cX7_drawnNow 54 = .ok (.if_icmp .lt 7, 3) := by decide +kernel
theorem dX7_drawnNow_57 : decode cX7_drawnNow 57 = .ok (.iconst 1, 1) := by decide +kernel
theorem dX7_drawnNow_58 : decode cX7_drawnNow 58 = .ok (.goto 4, 3) := by decide +kernel
theorem dX7_drawnNow_61 : decode cX7_drawnNow 61 = .ok (.iconst 0, 1) := by decide +kernel
theorem dX7_drawnNow_62 : decode cX7_drawnNow 62 = .ok (.iadd, 1) := by decide +kernel
theorem dX7_drawnNow_63 : decode cX7_drawnNow 63 = .ok (.istore 5, 2) := by decide +kernel
theorem dX7_drawnNow_65 : decode cX7_drawnNow 65 = .ok (.iinc 6 1, 3) := by decide +kernel
theorem dX7_drawnNow_68 : decode cX7_drawnNow 68 = .ok (.goto (-31), 3) := by decide +kernel
theorem dX7_drawnNow_71 : decode cX7_drawnNow 71 = .ok (.iconst 0, 1) := by decide +kernel
theorem dX7_drawnNow_72 : decode cX7_drawnNow 72 = .ok (.istore 6, 2) := by decide +kernel
theorem dX7_drawnNow_74 : decode cX7_drawnNow 74 = .ok (.iconst 1, 1) := by decide +kernel
theorem dX7_drawnNow_75 : decode cX7_drawnNow 75 = .ok (.istore 7, 2) := by decide +kernel
theorem dX7_drawnNow_77 : decode cX7_drawnNow 77 = .ok (.iload 7, 2) := by decide +kernel
theorem dX7_drawnNow_79 : decode cX7_drawnNow 79 = .ok (.sipush 128, 3) := by decide +kernel
theorem dX7_drawnNow_82 : decode cX7_drawnNow 82 = .ok (.if_icmp .ge 31, 3) := by decide +kernel
theorem dX7_drawnNow_85 : decode cX7_drawnNow 85 = .ok (.iload 6, 2) := by decide +kernel
theorem dX7_drawnNow_87 : decode cX7_drawnNow 87 = .ok (.aload_n 0, 1) := by decide +kernel
theorem dX7_drawnNow_88 : decode cX7_drawnNow 88 = .ok (.getfield 25, 3) := by decide +kernel
theorem dX7_drawnNow_91 : decode cX7_drawnNow 91 = .ok (.iload 7, 2) := by decide +kernel
theorem dX7_drawnNow_93 : decode cX7_drawnNow 93 = .ok (.iaload, 1) := by decide +kernel
theorem dX7_drawnNow_94 : decode cX7_drawnNow 94 = .ok (.iload 4, 2) := by decide +kernel
theorem dX7_drawnNow_96 : decode cX7_drawnNow 96 = .ok (.if_icmp .lt 7, 3) := by decide +kernel
theorem dX7_drawnNow_99 : decode cX7_drawnNow 99 = .ok (.iconst 1, 1) := by decide +kernel
theorem dX7_drawnNow_100 : decode cX7_drawnNow 100 = .ok (.goto 4, 3) := by decide +kernel
theorem dX7_drawnNow_103 : decode cX7_drawnNow 103 = .ok (.iconst 0, 1) := by decide +kernel
theorem dX7_drawnNow_104 : decode cX7_drawnNow 104 = .ok (.iadd, 1) := by decide +kernel
theorem dX7_drawnNow_105 : decode cX7_drawnNow 105 = .ok (.istore 6, 2) := by decide +kernel
theorem dX7_drawnNow_107 : decode cX7_drawnNow 107 = .ok (.iinc 7 1, 3) := by decide +kernel
theorem dX7_drawnNow_110 : decode cX7_drawnNow 110 = .ok (.goto (-33), 3) := by decide +kernel
theorem dX7_drawnNow_113 : decode cX7_drawnNow 113 = .ok (.aload_n 0, 1) := by decide +kernel
theorem dX7_drawnNow_114 : decode cX7_drawnNow 114 = .ok (.iload 4, 2) := by decide +kernel
theorem dX7_drawnNow_116 : decode cX7_drawnNow 116 = .ok (.invokevirtual 226, 3) := by decide +kernel
theorem dX7_drawnNow_119 : decode cX7_drawnNow 119 = .ok (.iload_n 3, 1) := by decide +kernel
theorem dX7_drawnNow_120 : decode cX7_drawnNow 120 = .ok (.ifCond .ne 8, 3) := by decide +kernel
theorem dX7_drawnNow_123 : decode cX7_drawnNow 123 = .ok (.iload 5, 2) := by decide +kernel
theorem dX7_drawnNow_125 : decode cX7_drawnNow 125 = .ok (.goto 18, 3) := by decide +kernel
theorem dX7_drawnNow_128 : decode cX7_drawnNow 128 = .ok (.iload_n 3, 1) := by decide +kernel
theorem dX7_drawnNow_129 : decode cX7_drawnNow 129 = .ok (.iconst 1, 1) := by decide +kernel
theorem dX7_drawnNow_130 : decode cX7_drawnNow 130 = .ok (.if_icmp .ne 8, 3) := by decide +kernel
theorem dX7_drawnNow_133 : decode cX7_drawnNow 133 = .ok (.iload 6, 2) := by decide +kernel
theorem dX7_drawnNow_135 : decode cX7_drawnNow 135 = .ok (.goto 8, 3) := by decide +kernel
theorem dX7_drawnNow_138 : decode cX7_drawnNow 138 = .ok (.aload_n 0, 1) := by decide +kernel
theorem dX7_drawnNow_139 : decode cX7_drawnNow 139 = .ok (.getfield 263, 3) := by decide +kernel
theorem dX7_drawnNow_142 : decode cX7_drawnNow 142 = .ok (.l2i, 1) := by decide +kernel
theorem dX7_drawnNow_143 : decode cX7_drawnNow 143 = .ok (.ireturn, 1) := by decide +kernel
theorem dX7_drawn_0 : decode cX7_drawn 0 = .ok (.iload_n 1, 1) := by decide +kernel
theorem dX7_drawn_1 : decode cX7_drawn 1 = .ok (.iconst 1, 1) := by decide +kernel
theorem dX7_drawn_2 : decode cX7_drawn 2 = .ok (.bipush 30, 2) := by decide +kernel
theorem dX7_drawn_4 : decode cX7_drawn 4 = .ok (.invokestatic 68, 3) := by decide +kernel
theorem dX7_drawn_7 : decode cX7_drawn 7 = .ok (.ifCond .eq 16, 3) := by decide +kernel
theorem dX7_drawn_10 : decode cX7_drawn 10 = .ok (.iload_n 2, 1) := by decide +kernel
theorem dX7_drawn_11 : decode cX7_drawn 11 = .ok (.ifCond .lt 12, 3) := by decide +kernel
theorem dX7_drawn_14 : decode cX7_drawn 14 = .ok (.iload_n 3, 1) := by decide +kernel
theorem dX7_drawn_15 : decode cX7_drawn 15 = .ok (.iconst 0, 1) := by decide +kernel
theorem dX7_drawn_16 : decode cX7_drawn 16 = .ok (.iconst 2, 1) := by decide +kernel
theorem dX7_drawn_17 : decode cX7_drawn 17 = .ok (.invokestatic 68, 3) := by decide +kernel
theorem dX7_drawn_20 : decode cX7_drawn 20 = .ok (.ifCond .ne 6, 3) := by decide +kernel
theorem dX7_drawn_23 : decode cX7_drawn 23 = .ok (.bipush (-102), 2) := by decide +kernel
theorem dX7_drawn_25 : decode cX7_drawn 25 = .ok (.ireturn, 1) := by decide +kernel
theorem dX7_drawn_26 : decode cX7_drawn 26 = .ok (.aload_n 0, 1) := by decide +kernel
theorem dX7_drawn_27 : decode cX7_drawn 27 = .ok (.getfield 119, 3) := by decide +kernel
theorem dX7_drawn_30 : decode cX7_drawn 30 = .ok (.ifCond .ne 8, 3) := by decide +kernel
theorem dX7_drawn_33 : decode cX7_drawn 33 = .ok (.bipush (-103), 2) := by decide +kernel
theorem dX7_drawn_35 : decode cX7_drawn 35 = .ok (.goto 10, 3) := by decide +kernel
theorem dX7_drawn_38 : decode cX7_drawn 38 = .ok (.aload_n 0, 1) := by decide +kernel
theorem dX7_drawn_39 : decode cX7_drawn 39 = .ok (.iload_n 1, 1) := by decide +kernel
theorem dX7_drawn_40 : decode cX7_drawn 40 = .ok (.iload_n 2, 1) := by decide +kernel
theorem dX7_drawn_41 : decode cX7_drawn 41 = .ok (.iload_n 3, 1) := by decide +kernel
theorem dX7_drawn_42 : decode cX7_drawn 42 = .ok (.invokevirtual 277, 3) := by decide +kernel
theorem dX7_drawn_45 : decode cX7_drawn 45 = .ok (.ireturn, 1) := by decide +kernel
theorem dX7_image_0 : decode cX7_image 0 = .ok (.aload_n 0, 1) := by decide +kernel
theorem dX7_image_1 : decode cX7_image 1 = .ok (.getfield 119, 3) := by decide +kernel
theorem dX7_image_4 : decode cX7_image 4 = .ok (.ifCond .ne 6, 3) := by decide +kernel
theorem dX7_image_7 : decode cX7_image 7 = .ok (.bipush (-103), 2) := by decide +kernel
theorem dX7_image_9 : decode cX7_image 9 = .ok (.ireturn, 1) := by decide +kernel
theorem dX7_image_10 : decode cX7_image 10 = .ok (.aload_n 0, 1) := by decide +kernel
theorem dX7_image_11 : decode cX7_image 11 = .ok (.iconst 1, 1) := by decide +kernel
theorem dX7_image_12 : decode cX7_image 12 = .ok (.putfield 280, 3) := by decide +kernel
theorem dX7_image_15 : decode cX7_image 15 = .ok (.aload_n 0, 1) := by decide +kernel
theorem dX7_image_16 : decode cX7_image 16 = .ok (.aload_n 0, 1) := by decide +kernel
theorem dX7_image_17 : decode cX7_image 17 = .ok (.getfield 119, 3) := by decide +kernel
theorem dX7_image_20 : decode cX7_image 20 = .ok (.putfield 283, 3) := by decide +kernel
theorem dX7_image_23 : decode cX7_image 23 = .ok (.aload_n 0, 1) := by decide +kernel
theorem dX7_image_24 : decode cX7_image 24 = .ok (.aload_n 0, 1) := by decide +kernel
theorem dX7_image_25 : decode cX7_image 25 = .ok (.getfield 108, 3) := by decide +kernel
theorem dX7_image_28 : decode cX7_image 28 = .ok (.putfield 286, 3) := by decide +kernel
theorem dX7_image_31 : decode cX7_image 31 = .ok (.aload_n 0, 1) := by decide +kernel
theorem dX7_image_32 : decode cX7_image 32 = .ok (.aload_n 0, 1) := by decide +kernel
theorem dX7_image_33 : decode cX7_image 33 = .ok (.getfield 122, 3) := by decide +kernel
theorem dX7_image_36 : decode cX7_image 36 = .ok (.putfield 289, 3) := by decide +kernel
theorem dX7_image_39 : decode cX7_image 39 = .ok (.iconst 0, 1) := by decide +kernel
theorem dX7_image_40 : decode cX7_image 40 = .ok (.istore_n 1, 1) := by decide +kernel
theorem dX7_image_41 : decode cX7_image 41 = .ok (.iload_n 1, 1) := by decide +kernel
theorem dX7_image_42 : decode cX7_image 42 = .ok (.bipush 40, 2) := by decide +kernel
theorem dX7_image_44 : decode cX7_image 44 = .ok (.if_icmp .ge 69, 3) := by decide +kernel
theorem dX7_image_47 : decode cX7_image 47 = .ok (.aload_n 0, 1) := by decide +kernel
theorem dX7_image_48 : decode cX7_image 48 = .ok (.getfield 44, 3) := by decide +kernel
theorem dX7_image_51 : decode cX7_image 51 = .ok (.iload_n 1, 1) := by decide +kernel
theorem dX7_image_52 : decode cX7_image 52 = .ok (.aload_n 0, 1) := by decide +kernel
theorem dX7_image_53 : decode cX7_image 53 = .ok (.getfield 7, 3) := by decide +kernel
theorem dX7_image_56 : decode cX7_image 56 = .ok (.iload_n 1, 1) := by decide +kernel
theorem dX7_image_57 : decode cX7_image 57 = .ok (.iaload, 1) := by decide +kernel
theorem dX7_image_58 : decode cX7_image 58 = .ok (.iastore, 1) := by decide +kernel
theorem dX7_image_59 : decode cX7_image 59 = .ok (.aload_n 0, 1) := by decide +kernel
theorem dX7_image_60 : decode cX7_image 60 = .ok (.getfield 47, 3) := by decide +kernel
theorem dX7_image_63 : decode cX7_image 63 = .ok (.iload_n 1, 1) := by decide +kernel
theorem dX7_image_64 : decode cX7_image 64 = .ok (.aload_n 0, 1) := by decide +kernel
theorem dX7_image_65 : decode cX7_image 65 = .ok (.getfield 13, 3) := by decide +kernel
theorem dX7_image_68 : decode cX7_image 68 = .ok (.iload_n 1, 1) := by decide +kernel
theorem dX7_image_69 : decode cX7_image 69 = .ok (.iaload, 1) := by decide +kernel
theorem dX7_image_70 : decode cX7_image 70 = .ok (.iastore, 1) := by decide +kernel
theorem dX7_image_71 : decode cX7_image 71 = .ok (.aload_n 0, 1) := by decide +kernel
theorem dX7_image_72 : decode cX7_image 72 = .ok (.getfield 50, 3) := by decide +kernel
theorem dX7_image_75 : decode cX7_image 75 = .ok (.iload_n 1, 1) := by decide +kernel
theorem dX7_image_76 : decode cX7_image 76 = .ok (.aload_n 0, 1) := by decide +kernel
theorem dX7_image_77 : decode cX7_image 77 = .ok (.getfield 16, 3) := by decide +kernel
theorem dX7_image_80 : decode cX7_image 80 = .ok (.iload_n 1, 1) := by decide +kernel
theorem dX7_image_81 : decode cX7_image 81 = .ok (.iaload, 1) := by decide +kernel
theorem dX7_image_82 : decode cX7_image 82 = .ok (.iastore, 1) := by decide +kernel
theorem dX7_image_83 : decode cX7_image 83 = .ok (.aload_n 0, 1) := by decide +kernel
theorem dX7_image_84 : decode cX7_image 84 = .ok (.getfield 53, 3) := by decide +kernel
theorem dX7_image_87 : decode cX7_image 87 = .ok (.iload_n 1, 1) := by decide +kernel
theorem dX7_image_88 : decode cX7_image 88 = .ok (.aload_n 0, 1) := by decide +kernel
theorem dX7_image_89 : decode cX7_image 89 = .ok (.getfield 19, 3) := by decide +kernel
theorem dX7_image_92 : decode cX7_image 92 = .ok (.iload_n 1, 1) := by decide +kernel
theorem dX7_image_93 : decode cX7_image 93 = .ok (.iaload, 1) := by decide +kernel
theorem dX7_image_94 : decode cX7_image 94 = .ok (.iastore, 1) := by decide +kernel
theorem dX7_image_95 : decode cX7_image 95 = .ok (.aload_n 0, 1) := by decide +kernel
theorem dX7_image_96 : decode cX7_image 96 = .ok (.getfield 56, 3) := by decide +kernel
theorem dX7_image_99 : decode cX7_image 99 = .ok (.iload_n 1, 1) := by decide +kernel
theorem dX7_image_100 : decode cX7_image 100 = .ok (.aload_n 0, 1) := by decide +kernel
theorem dX7_image_101 : decode cX7_image 101 = .ok (.getfield 22, 3) := by decide +kernel
theorem dX7_image_104 : decode cX7_image 104 = .ok (.iload_n 1, 1) := by decide +kernel
theorem dX7_image_105 : decode cX7_image 105 = .ok (.iaload, 1) := by decide +kernel
theorem dX7_image_106 : decode cX7_image 106 = .ok (.iastore, 1) := by decide +kernel
theorem dX7_image_107 : decode cX7_image 107 = .ok (.iinc 1 1, 3) := by decide +kernel
theorem dX7_image_110 : decode cX7_image 110 = .ok (.goto (-69), 3) := by decide +kernel
theorem dX7_image_113 : decode cX7_image 113 = .ok (.iconst 0, 1) := by decide +kernel
theorem dX7_image_114 : decode cX7_image 114 = .ok (.istore_n 1, 1) := by decide +kernel
theorem dX7_image_115 : decode cX7_image 115 = .ok (.iload_n 1, 1) := by decide +kernel
theorem dX7_image_116 : decode cX7_image 116 = .ok (.bipush 6, 2) := by decide +kernel
theorem dX7_image_118 : decode cX7_image 118 = .ok (.if_icmp .ge 45, 3) := by decide +kernel
theorem dX7_image_121 : decode cX7_image 121 = .ok (.aload_n 0, 1) := by decide +kernel
theorem dX7_image_122 : decode cX7_image 122 = .ok (.getfield 59, 3) := by decide +kernel
theorem dX7_image_125 : decode cX7_image 125 = .ok (.iload_n 1, 1) := by decide +kernel
theorem dX7_image_126 : decode cX7_image 126 = .ok (.aload_n 0, 1) := by decide +kernel
theorem dX7_image_127 : decode cX7_image 127 = .ok (.getfield 28, 3) := by decide +kernel
theorem dX7_image_130 : decode cX7_image 130 = .ok (.iload_n 1, 1) := by decide +kernel
theorem dX7_image_131 : decode cX7_image 131 = .ok (.iaload, 1) := by decide +kernel
theorem dX7_image_132 : decode cX7_image 132 = .ok (.iastore, 1) := by decide +kernel
theorem dX7_image_133 : decode cX7_image 133 = .ok (.aload_n 0, 1) := by decide +kernel
theorem dX7_image_134 : decode cX7_image 134 = .ok (.getfield 62, 3) := by decide +kernel
theorem dX7_image_137 : decode cX7_image 137 = .ok (.iload_n 1, 1) := by decide +kernel
theorem dX7_image_138 : decode cX7_image 138 = .ok (.aload_n 0, 1) := by decide +kernel
theorem dX7_image_139 : decode cX7_image 139 = .ok (.getfield 31, 3) := by decide +kernel
theorem dX7_image_142 : decode cX7_image 142 = .ok (.iload_n 1, 1) := by decide +kernel
theorem dX7_image_143 : decode cX7_image 143 = .ok (.iaload, 1) := by decide +kernel
theorem dX7_image_144 : decode cX7_image 144 = .ok (.iastore, 1) := by decide +kernel
theorem dX7_image_145 : decode cX7_image 145 = .ok (.aload_n 0, 1) := by decide +kernel
theorem dX7_image_146 : decode cX7_image 146 = .ok (.getfield 65, 3) := by decide +kernel
theorem dX7_image_149 : decode cX7_image 149 = .ok (.iload_n 1, 1) := by decide +kernel
theorem dX7_image_150 : decode cX7_image 150 = .ok (.aload_n 0, 1) := by decide +kernel
theorem dX7_image_151 : decode cX7_image 151 = .ok (.getfield 34, 3) := by decide +kernel
theorem dX7_image_154 : decode cX7_image 154 = .ok (.iload_n 1, 1) := by decide +kernel
theorem dX7_image_155 : decode cX7_image 155 = .ok (.iaload, 1) := by decide +kernel
theorem dX7_image_156 : decode cX7_image 156 = .ok (.iastore, 1) := by decide +kernel
theorem dX7_image_157 : decode cX7_image 157 = .ok (.iinc 1 1, 3) := by decide +kernel
theorem dX7_image_160 : decode cX7_image 160 = .ok (.goto (-45), 3) := by decide +kernel
theorem dX7_image_163 : decode cX7_image 163 = .ok (.aload_n 0, 1) := by decide +kernel
theorem dX7_image_164 : decode cX7_image 164 = .ok (.getfield 108, 3) := by decide +kernel
theorem dX7_image_167 : decode cX7_image 167 = .ok (.ireturn, 1) := by decide +kernel
theorem dX7_restore_0 : decode cX7_restore 0 = .ok (.aload_n 0, 1) := by decide +kernel
theorem dX7_restore_1 : decode cX7_restore 1 = .ok (.getfield 280, 3) := by decide +kernel
theorem dX7_restore_4 : decode cX7_restore 4 = .ok (.ifCond .eq 14, 3) := by decide +kernel
theorem dX7_restore_7 : decode cX7_restore 7 = .ok (.aload_n 0, 1) := by decide +kernel
theorem dX7_restore_8 : decode cX7_restore 8 = .ok (.getfield 283, 3) := by decide +kernel
theorem dX7_restore_11 : decode cX7_restore 11 = .ok (.aload_n 0, 1) := by decide +kernel
theorem dX7_restore_12 : decode cX7_restore 12 = .ok (.getfield 119, 3) := by decide +kernel
theorem dX7_restore_15 : decode cX7_restore 15 = .ok (.if_icmp .eq 6, 3) := by decide +kernel
theorem dX7_restore_18 : decode cX7_restore 18 = .ok (.bipush (-103), 2) := by decide +kernel
theorem dX7_restore_20 : decode cX7_restore 20 = .ok (.ireturn, 1) := by decide +kernel
theorem dX7_restore_21 : decode cX7_restore 21 = .ok (.aload_n 0, 1) := by decide +kernel
theorem dX7_restore_22 : decode cX7_restore 22 = .ok (.aload_n 0, 1) := by decide +kernel
theorem dX7_restore_23 : decode cX7_restore 23 = .ok (.getfield 289, 3) := by decide +kernel
theorem dX7_restore_26 : decode cX7_restore 26 = .ok (.putfield 122, 3) := by decide +kernel
theorem dX7_restore_29 : decode cX7_restore 29 = .ok (.iconst 0, 1) := by decide +kernel
theorem dX7_restore_30 : decode cX7_restore 30 = .ok (.istore_n 1, 1) := by decide +kernel
theorem dX7_restore_31 : decode cX7_restore 31 = .ok (.iload_n 1, 1) := by decide +kernel
theorem dX7_restore_32 : decode cX7_restore 32 = .ok (.bipush 40, 2) := by decide +kernel
theorem dX7_restore_34 : decode cX7_restore 34 = .ok (.if_icmp .ge 69, 3) := by decide +kernel
theorem dX7_restore_37 : decode cX7_restore 37 = .ok (.aload_n 0, 1) := by decide +kernel
theorem dX7_restore_38 : decode cX7_restore 38 = .ok (.getfield 7, 3) := by decide +kernel
theorem dX7_restore_41 : decode cX7_restore 41 = .ok (.iload_n 1, 1) := by decide +kernel
theorem dX7_restore_42 : decode cX7_restore 42 = .ok (.aload_n 0, 1) := by decide +kernel
theorem dX7_restore_43 : decode cX7_restore 43 = .ok (.getfield 44, 3) := by decide +kernel
theorem dX7_restore_46 : decode cX7_restore 46 = .ok (.iload_n 1, 1) := by decide +kernel
theorem dX7_restore_47 : decode cX7_restore 47 = .ok (.iaload, 1) := by decide +kernel
theorem dX7_restore_48 : decode cX7_restore 48 = .ok (.iastore, 1) := by decide +kernel
theorem dX7_restore_49 : decode cX7_restore 49 = .ok (.aload_n 0, 1) := by decide +kernel
theorem dX7_restore_50 : decode cX7_restore 50 = .ok (.getfield 13, 3) := by decide +kernel
theorem dX7_restore_53 : decode cX7_restore 53 = .ok (.iload_n 1, 1) := by decide +kernel
theorem dX7_restore_54 : decode cX7_restore 54 = .ok (.aload_n 0, 1) := by decide +kernel
theorem dX7_restore_55 : decode cX7_restore 55 = .ok (.getfield 47, 3) := by decide +kernel
theorem dX7_restore_58 : decode cX7_restore 58 = .ok (.iload_n 1, 1) := by decide +kernel
theorem dX7_restore_59 : decode cX7_restore 59 = .ok (.iaload, 1) := by decide +kernel
theorem dX7_restore_60 : decode cX7_restore 60 = .ok (.iastore, 1) := by decide +kernel
theorem dX7_restore_61 : decode cX7_restore 61 = .ok (.aload_n 0, 1) := by decide +kernel
theorem dX7_restore_62 : decode cX7_restore 62 = .ok (.getfield 16, 3) := by decide +kernel
theorem dX7_restore_65 : decode cX7_restore 65 = .ok (.iload_n 1, 1) := by decide +kernel
theorem dX7_restore_66 : decode cX7_restore 66 = .ok (.aload_n 0, 1) := by decide +kernel
theorem dX7_restore_67 : decode cX7_restore 67 = .ok (.getfield 50, 3) := by decide +kernel
theorem dX7_restore_70 : decode cX7_restore 70 = .ok (.iload_n 1, 1) := by decide +kernel
theorem dX7_restore_71 : decode cX7_restore 71 = .ok (.iaload, 1) := by decide +kernel
theorem dX7_restore_72 : decode cX7_restore 72 = .ok (.iastore, 1) := by decide +kernel
theorem dX7_restore_73 : decode cX7_restore 73 = .ok (.aload_n 0, 1) := by decide +kernel
theorem dX7_restore_74 : decode cX7_restore 74 = .ok (.getfield 19, 3) := by decide +kernel
theorem dX7_restore_77 : decode cX7_restore 77 = .ok (.iload_n 1, 1) := by decide +kernel
theorem dX7_restore_78 : decode cX7_restore 78 = .ok (.aload_n 0, 1) := by decide +kernel
theorem dX7_restore_79 : decode cX7_restore 79 = .ok (.getfield 53, 3) := by decide +kernel
theorem dX7_restore_82 : decode cX7_restore 82 = .ok (.iload_n 1, 1) := by decide +kernel
theorem dX7_restore_83 : decode cX7_restore 83 = .ok (.iaload, 1) := by decide +kernel
theorem dX7_restore_84 : decode cX7_restore 84 = .ok (.iastore, 1) := by decide +kernel
theorem dX7_restore_85 : decode cX7_restore 85 = .ok (.aload_n 0, 1) := by decide +kernel
theorem dX7_restore_86 : decode cX7_restore 86 = .ok (.getfield 22, 3) := by decide +kernel
theorem dX7_restore_89 : decode cX7_restore 89 = .ok (.iload_n 1, 1) := by decide +kernel
theorem dX7_restore_90 : decode cX7_restore 90 = .ok (.aload_n 0, 1) := by decide +kernel
theorem dX7_restore_91 : decode cX7_restore 91 = .ok (.getfield 56, 3) := by decide +kernel
theorem dX7_restore_94 : decode cX7_restore 94 = .ok (.iload_n 1, 1) := by decide +kernel
theorem dX7_restore_95 : decode cX7_restore 95 = .ok (.iaload, 1) := by decide +kernel
theorem dX7_restore_96 : decode cX7_restore 96 = .ok (.iastore, 1) := by decide +kernel
theorem dX7_restore_97 : decode cX7_restore 97 = .ok (.iinc 1 1, 3) := by decide +kernel
theorem dX7_restore_100 : decode cX7_restore 100 = .ok (.goto (-69), 3) := by decide +kernel
theorem dX7_restore_103 : decode cX7_restore 103 = .ok (.iconst 0, 1) := by decide +kernel
theorem dX7_restore_104 : decode cX7_restore 104 = .ok (.istore_n 1, 1) := by decide +kernel
theorem dX7_restore_105 : decode cX7_restore 105 = .ok (.iload_n 1, 1) := by decide +kernel
theorem dX7_restore_106 : decode cX7_restore 106 = .ok (.bipush 6, 2) := by decide +kernel
theorem dX7_restore_108 : decode cX7_restore 108 = .ok (.if_icmp .ge 45, 3) := by decide +kernel
theorem dX7_restore_111 : decode cX7_restore 111 = .ok (.aload_n 0, 1) := by decide +kernel
theorem dX7_restore_112 : decode cX7_restore 112 = .ok (.getfield 28, 3) := by decide +kernel
theorem dX7_restore_115 : decode cX7_restore 115 = .ok (.iload_n 1, 1) := by decide +kernel
theorem dX7_restore_116 : decode cX7_restore 116 = .ok (.aload_n 0, 1) := by decide +kernel
theorem dX7_restore_117 : decode cX7_restore 117 = .ok (.getfield 59, 3) := by decide +kernel
theorem dX7_restore_120 : decode cX7_restore 120 = .ok (.iload_n 1, 1) := by decide +kernel
theorem dX7_restore_121 : decode cX7_restore 121 = .ok (.iaload, 1) := by decide +kernel
theorem dX7_restore_122 : decode cX7_restore 122 = .ok (.iastore, 1) := by decide +kernel
theorem dX7_restore_123 : decode cX7_restore 123 = .ok (.aload_n 0, 1) := by decide +kernel
theorem dX7_restore_124 : decode cX7_restore 124 = .ok (.getfield 31, 3) := by decide +kernel
theorem dX7_restore_127 : decode cX7_restore 127 = .ok (.iload_n 1, 1) := by decide +kernel
theorem dX7_restore_128 : decode cX7_restore 128 = .ok (.aload_n 0, 1) := by decide +kernel
theorem dX7_restore_129 : decode cX7_restore 129 = .ok (.getfield 62, 3) := by decide +kernel
theorem dX7_restore_132 : decode cX7_restore 132 = .ok (.iload_n 1, 1) := by decide +kernel
theorem dX7_restore_133 : decode cX7_restore 133 = .ok (.iaload, 1) := by decide +kernel
theorem dX7_restore_134 : decode cX7_restore 134 = .ok (.iastore, 1) := by decide +kernel
theorem dX7_restore_135 : decode cX7_restore 135 = .ok (.aload_n 0, 1) := by decide +kernel
theorem dX7_restore_136 : decode cX7_restore 136 = .ok (.getfield 34, 3) := by decide +kernel
theorem dX7_restore_139 : decode cX7_restore 139 = .ok (.iload_n 1, 1) := by decide +kernel
theorem dX7_restore_140 : decode cX7_restore 140 = .ok (.aload_n 0, 1) := by decide +kernel
theorem dX7_restore_141 : decode cX7_restore 141 = .ok (.getfield 65, 3) := by decide +kernel
theorem dX7_restore_144 : decode cX7_restore 144 = .ok (.iload_n 1, 1) := by decide +kernel
theorem dX7_restore_145 : decode cX7_restore 145 = .ok (.iaload, 1) := by decide +kernel
theorem dX7_restore_146 : decode cX7_restore 146 = .ok (.iastore, 1) := by decide +kernel
theorem dX7_restore_147 : decode cX7_restore 147 = .ok (.iinc 1 1, 3) := by decide +kernel
theorem dX7_restore_150 : decode cX7_restore 150 = .ok (.goto (-45), 3) := by decide +kernel
theorem dX7_restore_153 : decode cX7_restore 153 = .ok (.aload_n 0, 1) := by decide +kernel
theorem dX7_restore_154 : decode cX7_restore 154 = .ok (.aload_n 0, 1) := by decide +kernel
theorem dX7_restore_155 : decode cX7_restore 155 = .ok (.getfield 286, 3) := by decide +kernel
theorem dX7_restore_158 : decode cX7_restore 158 = .ok (.invokevirtual 226, 3) := by decide +kernel
theorem dX7_restore_161 : decode cX7_restore 161 = .ok (.aload_n 0, 1) := by decide +kernel
theorem dX7_restore_162 : decode cX7_restore 162 = .ok (.getfield 108, 3) := by decide +kernel
theorem dX7_restore_165 : decode cX7_restore 165 = .ok (.ireturn, 1) := by decide +kernel
theorem dX7_gaps_0 : decode cX7_gaps 0 = .ok (.iconst 0, 1) := by decide +kernel
theorem dX7_gaps_1 : decode cX7_gaps 1 = .ok (.istore_n 1, 1) := by decide +kernel
theorem dX7_gaps_2 : decode cX7_gaps 2 = .ok (.iconst 0, 1) := by decide +kernel
theorem dX7_gaps_3 : decode cX7_gaps 3 = .ok (.istore_n 2, 1) := by decide +kernel
theorem dX7_gaps_4 : decode cX7_gaps 4 = .ok (.iload_n 2, 1) := by decide +kernel
theorem dX7_gaps_5 : decode cX7_gaps 5 = .ok (.bipush 64, 2) := by decide +kernel
theorem dX7_gaps_7 : decode cX7_gaps 7 = .ok (.if_icmp .ge 33, 3) := by decide +kernel
theorem dX7_gaps_10 : decode cX7_gaps 10 = .ok (.aload_n 0, 1) := by decide +kernel
theorem dX7_gaps_11 : decode cX7_gaps 11 = .ok (.getfield 119, 3) := by decide +kernel
theorem dX7_gaps_14 : decode cX7_gaps 14 = .ok (.ifCond .le 26, 3) := by decide +kernel
theorem dX7_gaps_17 : decode cX7_gaps 17 = .ok (.iload_n 1, 1) := by decide +kernel
theorem dX7_gaps_18 : decode cX7_gaps 18 = .ok (.aload_n 0, 1) := by decide +kernel
theorem dX7_gaps_19 : decode cX7_gaps 19 = .ok (.iload_n 2, 1) := by decide +kernel
theorem dX7_gaps_20 : decode cX7_gaps 20 = .ok (.invokevirtual 176, 3) := by decide +kernel
theorem dX7_gaps_23 : decode cX7_gaps 23 = .ok (.iconst (-1), 1) := by decide +kernel
theorem dX7_gaps_24 : decode cX7_gaps 24 = .ok (.if_icmp .ne 7, 3) := by decide +kernel
theorem dX7_gaps_27 : decode cX7_gaps 27 = .ok (.iconst 1, 1) := by decide +kernel
theorem dX7_gaps_28 : decode cX7_gaps 28 = .ok (.goto 4, 3) := by decide +kernel
theorem dX7_gaps_31 : decode cX7_gaps 31 = .ok (.iconst 0, 1) := by decide +kernel
theorem dX7_gaps_32 : decode cX7_gaps 32 = .ok (.iadd, 1) := by decide +kernel
theorem dX7_gaps_33 : decode cX7_gaps 33 = .ok (.istore_n 1, 1) := by decide +kernel
theorem dX7_gaps_34 : decode cX7_gaps 34 = .ok (.iinc 2 1, 3) := by decide +kernel
theorem dX7_gaps_37 : decode cX7_gaps 37 = .ok (.goto (-33), 3) := by decide +kernel
theorem dX7_gaps_40 : decode cX7_gaps 40 = .ok (.iload_n 1, 1) := by decide +kernel
theorem dX7_gaps_41 : decode cX7_gaps 41 = .ok (.ireturn, 1) := by decide +kernel
theorem dX7_idle_0 : decode cX7_idle 0 = .ok (.iconst 0, 1) := by decide +kernel
theorem dX7_idle_1 : decode cX7_idle 1 = .ok (.istore_n 1, 1) := by decide +kernel
theorem dX7_idle_2 : decode cX7_idle 2 = .ok (.iconst 0, 1) := by decide +kernel
theorem dX7_idle_3 : decode cX7_idle 3 = .ok (.istore_n 2, 1) := by decide +kernel
theorem dX7_idle_4 : decode cX7_idle 4 = .ok (.iload_n 2, 1) := by decide +kernel
theorem dX7_idle_5 : decode cX7_idle 5 = .ok (.aload_n 0, 1) := by decide +kernel
theorem dX7_idle_6 : decode cX7_idle 6 = .ok (.getfield 108, 3) := by decide +kernel
theorem dX7_idle_9 : decode cX7_idle 9 = .ok (.if_icmp .ge 25, 3) := by decide +kernel
theorem dX7_idle_12 : decode cX7_idle 12 = .ok (.iload_n 1, 1) := by decide +kernel
theorem dX7_idle_13 : decode cX7_idle 13 = .ok (.aload_n 0, 1) := by decide +kernel
theorem dX7_idle_14 : decode cX7_idle 14 = .ok (.iload_n 2, 1) := by decide +kernel
theorem dX7_idle_15 : decode cX7_idle 15 = .ok (.invokevirtual 182, 3) := by decide +kernel
theorem dX7_idle_18 : decode cX7_idle 18 = .ok (.ifCond .ne 7, 3) := by decide +kernel
theorem dX7_idle_21 : decode cX7_idle 21 = .ok (.iconst 1, 1) := by decide +kernel
theorem dX7_idle_22 : decode cX7_idle 22 = .ok (.goto 4, 3) := by decide +kernel
theorem dX7_idle_25 : decode cX7_idle 25 = .ok (.iconst 0, 1) := by decide +kernel
theorem dX7_idle_26 : decode cX7_idle 26 = .ok (.iadd, 1) := by decide +kernel
theorem dX7_idle_27 : decode cX7_idle 27 = .ok (.istore_n 1, 1) := by decide +kernel
theorem dX7_idle_28 : decode cX7_idle 28 = .ok (.iinc 2 1, 3) := by decide +kernel
theorem dX7_idle_31 : decode cX7_idle 31 = .ok (.goto (-27), 3) := by decide +kernel
theorem dX7_idle_34 : decode cX7_idle 34 = .ok (.iload_n 1, 1) := by decide +kernel
theorem dX7_idle_35 : decode cX7_idle 35 = .ok (.ireturn, 1) := by decide +kernel
theorem dX7_howMany_0 : decode cX7_howMany 0 = .ok (.iload_n 1, 1) := by decide +kernel
theorem dX7_howMany_1 : decode cX7_howMany 1 = .ok (.tableswitch 102 0 7 #[47, 52, 72, 77, 82, 87, 92, 97], 47) := by decide +kernel
theorem dX7_howMany_48 : decode cX7_howMany 48 = .ok (.aload_n 0, 1) := by decide +kernel
theorem dX7_howMany_49 : decode cX7_howMany 49 = .ok (.getfield 108, 3) := by decide +kernel
theorem dX7_howMany_52 : decode cX7_howMany 52 = .ok (.ireturn, 1) := by decide +kernel
theorem dX7_howMany_53 : decode cX7_howMany 53 = .ok (.aload_n 0, 1) := by decide +kernel
theorem dX7_howMany_54 : decode cX7_howMany 54 = .ok (.getfield 119, 3) := by decide +kernel
theorem dX7_howMany_57 : decode cX7_howMany 57 = .ok (.ifCond .ne 7, 3) := by decide +kernel
theorem dX7_howMany_60 : decode cX7_howMany 60 = .ok (.iconst 0, 1) := by decide +kernel
theorem dX7_howMany_61 : decode cX7_howMany 61 = .ok (.goto 11, 3) := by decide +kernel
theorem dX7_howMany_64 : decode cX7_howMany 64 = .ok (.bipush 127, 2) := by decide +kernel
theorem dX7_howMany_66 : decode cX7_howMany 66 = .ok (.aload_n 0, 1) := by decide +kernel
theorem dX7_howMany_67 : decode cX7_howMany 67 = .ok (.iconst (-1), 1) := by decide +kernel
theorem dX7_howMany_68 : decode cX7_howMany 68 = .ok (.invokevirtual 179, 3) := by decide +kernel
theorem dX7_howMany_71 : decode cX7_howMany 71 = .ok (.isub, 1) := by decide +kernel
theorem dX7_howMany_72 : decode cX7_howMany 72 = .ok (.ireturn, 1) := by decide +kernel
theorem dX7_howMany_73 : decode cX7_howMany 73 = .ok (.aload_n 0, 1) := by decide +kernel
theorem dX7_howMany_74 : decode cX7_howMany 74 = .ok (.invokevirtual 238, 3) := by decide +kernel
theorem dX7_howMany_77 : decode cX7_howMany 77 = .ok (.ireturn, 1) := by decide +kernel
theorem dX7_howMany_78 : decode cX7_howMany 78 = .ok (.aload_n 0, 1) := by decide +kernel
theorem dX7_howMany_79 : decode cX7_howMany 79 = .ok (.invokevirtual 292, 3) := by decide +kernel
theorem dX7_howMany_82 : decode cX7_howMany 82 = .ok (.ireturn, 1) := by decide +kernel
theorem dX7_howMany_83 : decode cX7_howMany 83 = .ok (.aload_n 0, 1) := by decide +kernel
theorem dX7_howMany_84 : decode cX7_howMany 84 = .ok (.invokevirtual 295, 3) := by decide +kernel
theorem dX7_howMany_87 : decode cX7_howMany 87 = .ok (.ireturn, 1) := by decide +kernel
theorem dX7_howMany_88 : decode cX7_howMany 88 = .ok (.aload_n 0, 1) := by decide +kernel
theorem dX7_howMany_89 : decode cX7_howMany 89 = .ok (.getfield 122, 3) := by decide +kernel
theorem dX7_howMany_92 : decode cX7_howMany 92 = .ok (.ireturn, 1) := by decide +kernel
theorem dX7_howMany_93 : decode cX7_howMany 93 = .ok (.aload_n 0, 1) := by decide +kernel
theorem dX7_howMany_94 : decode cX7_howMany 94 = .ok (.getfield 72, 3) := by decide +kernel
theorem dX7_howMany_97 : decode cX7_howMany 97 = .ok (.ireturn, 1) := by decide +kernel
theorem dX7_howMany_98 : decode cX7_howMany 98 = .ok (.aload_n 0, 1) := by decide +kernel
theorem dX7_howMany_99 : decode cX7_howMany 99 = .ok (.getfield 119, 3) := by decide +kernel
theorem dX7_howMany_102 : decode cX7_howMany 102 = .ok (.ireturn, 1) := by decide +kernel
theorem dX7_howMany_103 : decode cX7_howMany 103 = .ok (.bipush (-102), 2) := by decide +kernel
theorem dX7_howMany_105 : decode cX7_howMany 105 = .ok (.ireturn, 1) := by decide +kernel
theorem dX7_count_0 : decode cX7_count 0 = .ok (.aload_n 0, 1) := by decide +kernel
theorem dX7_count_1 : decode cX7_count 1 = .ok (.iload_n 1, 1) := by decide +kernel
theorem dX7_count_2 : decode cX7_count 2 = .ok (.invokevirtual 298, 3) := by decide +kernel
theorem dX7_count_5 : decode cX7_count 5 = .ok (.ireturn, 1) := by decide +kernel
theorem dX7_mix_0 : decode cX7_mix 0 = .ok (.aload_n 0, 1) := by decide +kernel
theorem dX7_mix_1 : decode cX7_mix 1 = .ok (.ldc2_w 301, 3) := by decide +kernel
theorem dX7_mix_4 : decode cX7_mix 4 = .ok (.aload_n 0, 1) := by decide +kernel
theorem dX7_mix_5 : decode cX7_mix 5 = .ok (.getfield 303, 3) := by decide +kernel
theorem dX7_mix_8 : decode cX7_mix 8 = .ok (.lmul, 1) := by decide +kernel
theorem dX7_mix_9 : decode cX7_mix 9 = .ok (.lload_n 1, 1) := by decide +kernel
theorem dX7_mix_10 : decode cX7_mix 10 = .ok (.ladd, 1) := by decide +kernel
theorem dX7_mix_11 : decode cX7_mix 11 = .ok (.putfield 303, 3) := by decide +kernel
theorem dX7_mix_14 : decode cX7_mix 14 = .ok (.return_, 1) := by decide +kernel
theorem dX7_mixDesk_0 : decode cX7_mixDesk 0 = .ok (.iconst 0, 1) := by decide +kernel
theorem dX7_mixDesk_1 : decode cX7_mixDesk 1 = .ok (.istore_n 1, 1) := by decide +kernel
theorem dX7_mixDesk_2 : decode cX7_mixDesk 2 = .ok (.iload_n 1, 1) := by decide +kernel
theorem dX7_mixDesk_3 : decode cX7_mixDesk 3 = .ok (.bipush 64, 2) := by decide +kernel
theorem dX7_mixDesk_5 : decode cX7_mixDesk 5 = .ok (.if_icmp .ge 28, 3) := by decide +kernel
theorem dX7_mixDesk_8 : decode cX7_mixDesk 8 = .ok (.aload_n 0, 1) := by decide +kernel
theorem dX7_mixDesk_9 : decode cX7_mixDesk 9 = .ok (.aload_n 0, 1) := by decide +kernel
theorem dX7_mixDesk_10 : decode cX7_mixDesk 10 = .ok (.iload_n 1, 1) := by decide +kernel
theorem dX7_mixDesk_11 : decode cX7_mixDesk 11 = .ok (.invokevirtual 176, 3) := by decide +kernel
theorem dX7_mixDesk_14 : decode cX7_mixDesk 14 = .ok (.i2l, 1) := by decide +kernel
theorem dX7_mixDesk_15 : decode cX7_mixDesk 15 = .ok (.invokevirtual 306, 3) := by decide +kernel
theorem dX7_mixDesk_18 : decode cX7_mixDesk 18 = .ok (.aload_n 0, 1) := by decide +kernel
theorem dX7_mixDesk_19 : decode cX7_mixDesk 19 = .ok (.aload_n 0, 1) := by decide +kernel
theorem dX7_mixDesk_20 : decode cX7_mixDesk 20 = .ok (.iload_n 1, 1) := by decide +kernel
theorem dX7_mixDesk_21 : decode cX7_mixDesk 21 = .ok (.invokevirtual 231, 3) := by decide +kernel
theorem dX7_mixDesk_24 : decode cX7_mixDesk 24 = .ok (.invokevirtual 306, 3) := by decide +kernel
theorem dX7_mixDesk_27 : decode cX7_mixDesk 27 = .ok (.iinc 1 1, 3) := by decide +kernel
theorem dX7_mixDesk_30 : decode cX7_mixDesk 30 = .ok (.goto (-28), 3) := by decide +kernel
theorem dX7_mixDesk_33 : decode cX7_mixDesk 33 = .ok (.iconst 1, 1) := by decide +kernel
theorem dX7_mixDesk_34 : decode cX7_mixDesk 34 = .ok (.istore_n 1, 1) := by decide +kernel
theorem dX7_mixDesk_35 : decode cX7_mixDesk 35 = .ok (.iload_n 1, 1) := by decide +kernel
theorem dX7_mixDesk_36 : decode cX7_mixDesk 36 = .ok (.sipush 128, 3) := by decide +kernel
theorem dX7_mixDesk_39 : decode cX7_mixDesk 39 = .ok (.if_icmp .ge 20, 3) := by decide +kernel
theorem dX7_mixDesk_42 : decode cX7_mixDesk 42 = .ok (.aload_n 0, 1) := by decide +kernel
theorem dX7_mixDesk_43 : decode cX7_mixDesk 43 = .ok (.aload_n 0, 1) := by decide +kernel
theorem dX7_mixDesk_44 : decode cX7_mixDesk 44 = .ok (.getfield 25, 3) := by decide +kernel
theorem dX7_mixDesk_47 : decode cX7_mixDesk 47 = .ok (.iload_n 1, 1) := by decide +kernel
theorem dX7_mixDesk_48 : decode cX7_mixDesk 48 = .ok (.iaload, 1) := by decide +kernel
theorem dX7_mixDesk_49 : decode cX7_mixDesk 49 = .ok (.i2l, 1) := by decide +kernel
theorem dX7_mixDesk_50 : decode cX7_mixDesk 50 = .ok (.invokevirtual 306, 3) := by decide +kernel
theorem dX7_mixDesk_53 : decode cX7_mixDesk 53 = .ok (.iinc 1 1, 3) := by decide +kernel
theorem dX7_mixDesk_56 : decode cX7_mixDesk 56 = .ok (.goto (-21), 3) := by decide +kernel
theorem dX7_mixDesk_59 : decode cX7_mixDesk 59 = .ok (.aload_n 0, 1) := by decide +kernel
theorem dX7_mixDesk_60 : decode cX7_mixDesk 60 = .ok (.aload_n 0, 1) := by decide +kernel
theorem dX7_mixDesk_61 : decode cX7_mixDesk 61 = .ok (.iconst 0, 1) := by decide +kernel
theorem dX7_mixDesk_62 : decode cX7_mixDesk 62 = .ok (.bipush 63, 2) := by decide +kernel
theorem dX7_mixDesk_64 : decode cX7_mixDesk 64 = .ok (.invokevirtual 244, 3) := by decide +kernel
theorem dX7_mixDesk_67 : decode cX7_mixDesk 67 = .ok (.i2l, 1) := by decide +kernel
theorem dX7_mixDesk_68 : decode cX7_mixDesk 68 = .ok (.invokevirtual 306, 3) := by decide +kernel
theorem dX7_mixDesk_71 : decode cX7_mixDesk 71 = .ok (.return_, 1) := by decide +kernel
theorem dX7_digest_0 : decode cX7_digest 0 = .ok (.aload_n 0, 1) := by decide +kernel
theorem dX7_digest_1 : decode cX7_digest 1 = .ok (.ldc2_w 310, 3) := by decide +kernel
theorem dX7_digest_4 : decode cX7_digest 4 = .ok (.putfield 303, 3) := by decide +kernel
theorem dX7_digest_7 : decode cX7_digest 7 = .ok (.iconst 0, 1) := by decide +kernel
theorem dX7_digest_8 : decode cX7_digest 8 = .ok (.istore_n 1, 1) := by decide +kernel
theorem dX7_digest_9 : decode cX7_digest 9 = .ok (.iload_n 1, 1) := by decide +kernel
theorem dX7_digest_10 : decode cX7_digest 10 = .ok (.aload_n 0, 1) := by decide +kernel
theorem dX7_digest_11 : decode cX7_digest 11 = .ok (.getfield 108, 3) := by decide +kernel
theorem dX7_digest_14 : decode cX7_digest 14 = .ok (.if_icmp .ge 34, 3) := by decide +kernel
theorem dX7_digest_17 : decode cX7_digest 17 = .ok (.iconst 0, 1) := by decide +kernel
theorem dX7_digest_18 : decode cX7_digest 18 = .ok (.istore_n 2, 1) := by decide +kernel
theorem dX7_digest_19 : decode cX7_digest 19 = .ok (.iload_n 2, 1) := by decide +kernel
theorem dX7_digest_20 : decode cX7_digest 20 = .ok (.bipush 7, 2) := by decide +kernel
theorem dX7_digest_22 : decode cX7_digest 22 = .ok (.if_icmp .ge 20, 3) := by decide +kernel
theorem dX7_digest_25 : decode cX7_digest 25 = .ok (.aload_n 0, 1) := by decide +kernel
theorem dX7_digest_26 : decode cX7_digest 26 = .ok (.aload_n 0, 1) := by decide +kernel
theorem dX7_digest_27 : decode cX7_digest 27 = .ok (.iload_n 1, 1) := by decide +kernel
theorem dX7_digest_28 : decode cX7_digest 28 = .ok (.iload_n 2, 1) := by decide +kernel
theorem dX7_digest_29 : decode cX7_digest 29 = .ok (.invokevirtual 194, 3) := by decide +kernel
theorem dX7_digest_32 : decode cX7_digest 32 = .ok (.i2l, 1) := by decide +kernel
theorem dX7_digest_33 : decode cX7_digest 33 = .ok (.invokevirtual 306, 3) := by decide +kernel
theorem dX7_digest_36 : decode cX7_digest 36 = .ok (.iinc 2 1, 3) := by decide +kernel
theorem dX7_digest_39 : decode cX7_digest 39 = .ok (.goto (-20), 3) := by decide +kernel
theorem dX7_digest_42 : decode cX7_digest 42 = .ok (.iinc 1 1, 3) := by decide +kernel
theorem dX7_digest_45 : decode cX7_digest 45 = .ok (.goto (-36), 3) := by decide +kernel
theorem dX7_digest_48 : decode cX7_digest 48 = .ok (.aload_n 0, 1) := by decide +kernel
theorem dX7_digest_49 : decode cX7_digest 49 = .ok (.getfield 119, 3) := by decide +kernel
theorem dX7_digest_52 : decode cX7_digest 52 = .ok (.ifCond .le 7, 3) := by decide +kernel
theorem dX7_digest_55 : decode cX7_digest 55 = .ok (.aload_n 0, 1) := by decide +kernel
theorem dX7_digest_56 : decode cX7_digest 56 = .ok (.invokevirtual 312, 3) := by decide +kernel
theorem dX7_digest_59 : decode cX7_digest 59 = .ok (.iconst 0, 1) := by decide +kernel
theorem dX7_digest_60 : decode cX7_digest 60 = .ok (.istore_n 1, 1) := by decide +kernel
theorem dX7_digest_61 : decode cX7_digest 61 = .ok (.iload_n 1, 1) := by decide +kernel
theorem dX7_digest_62 : decode cX7_digest 62 = .ok (.aload_n 0, 1) := by decide +kernel
theorem dX7_digest_63 : decode cX7_digest 63 = .ok (.getfield 72, 3) := by decide +kernel
theorem dX7_digest_66 : decode cX7_digest 66 = .ok (.if_icmp .ge 20, 3) := by decide +kernel
theorem dX7_digest_69 : decode cX7_digest 69 = .ok (.aload_n 0, 1) := by decide +kernel
theorem dX7_digest_70 : decode cX7_digest 70 = .ok (.aload_n 0, 1) := by decide +kernel
theorem dX7_digest_71 : decode cX7_digest 71 = .ok (.getfield 37, 3) := by decide +kernel
theorem dX7_digest_74 : decode cX7_digest 74 = .ok (.iload_n 1, 1) := by decide +kernel
theorem dX7_digest_75 : decode cX7_digest 75 = .ok (.baload, 1) := by decide +kernel
theorem dX7_digest_76 : decode cX7_digest 76 = .ok (.i2l, 1) := by decide +kernel
theorem dX7_digest_77 : decode cX7_digest 77 = .ok (.invokevirtual 306, 3) := by decide +kernel
theorem dX7_digest_80 : decode cX7_digest 80 = .ok (.iinc 1 1, 3) := by decide +kernel
theorem dX7_digest_83 : decode cX7_digest 83 = .ok (.goto (-22), 3) := by decide +kernel
theorem dX7_digest_86 : decode cX7_digest 86 = .ok (.iconst 0, 1) := by decide +kernel
theorem dX7_digest_87 : decode cX7_digest 87 = .ok (.istore_n 1, 1) := by decide +kernel
theorem dX7_digest_88 : decode cX7_digest 88 = .ok (.iload_n 1, 1) := by decide +kernel
theorem dX7_digest_89 : decode cX7_digest 89 = .ok (.bipush 8, 2) := by decide +kernel
theorem dX7_digest_91 : decode cX7_digest 91 = .ok (.if_icmp .ge 19, 3) := by decide +kernel
theorem dX7_digest_94 : decode cX7_digest 94 = .ok (.aload_n 0, 1) := by decide +kernel
theorem dX7_digest_95 : decode cX7_digest 95 = .ok (.aload_n 0, 1) := by decide +kernel
theorem dX7_digest_96 : decode cX7_digest 96 = .ok (.iload_n 1, 1) := by decide +kernel
theorem dX7_digest_97 : decode cX7_digest 97 = .ok (.invokevirtual 298, 3) := by decide +kernel
theorem dX7_digest_100 : decode cX7_digest 100 = .ok (.i2l, 1) := by decide +kernel
theorem dX7_digest_101 : decode cX7_digest 101 = .ok (.invokevirtual 306, 3) := by decide +kernel
theorem dX7_digest_104 : decode cX7_digest 104 = .ok (.iinc 1 1, 3) := by decide +kernel
theorem dX7_digest_107 : decode cX7_digest 107 = .ok (.goto (-19), 3) := by decide +kernel
theorem dX7_digest_110 : decode cX7_digest 110 = .ok (.aload_n 0, 1) := by decide +kernel
theorem dX7_digest_111 : decode cX7_digest 111 = .ok (.getfield 303, 3) := by decide +kernel
theorem dX7_digest_114 : decode cX7_digest 114 = .ok (.lreturn, 1) := by decide +kernel
