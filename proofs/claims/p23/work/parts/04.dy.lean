theorem dX5_init_0 : decode cX5_init 0 = .ok (.aload_n 0, 1) := by decide +kernel
theorem dX5_init_1 : decode cX5_init 1 = .ok (.invokespecial 3, 3) := by decide +kernel
theorem dX5_init_4 : decode cX5_init 4 = .ok (.aload_n 0, 1) := by decide +kernel
theorem dX5_init_5 : decode cX5_init 5 = .ok (.sipush 128, 3) := by decide +kernel
theorem dX5_init_8 : decode cX5_init 8 = .ok (.newarray .int, 2) := by decide +kernel
theorem dX5_init_10 : decode cX5_init 10 = .ok (.putfield 9, 3) := by decide +kernel
theorem dX5_init_13 : decode cX5_init 13 = .ok (.aload_n 0, 1) := by decide +kernel
theorem dX5_init_14 : decode cX5_init 14 = .ok (.sipush 2100, 3) := by decide +kernel
theorem dX5_init_17 : decode cX5_init 17 = .ok (.newarray .int, 2) := by decide +kernel
theorem dX5_init_19 : decode cX5_init 19 = .ok (.putfield 15, 3) := by decide +kernel
theorem dX5_init_22 : decode cX5_init 22 = .ok (.aload_n 0, 1) := by decide +kernel
theorem dX5_init_23 : decode cX5_init 23 = .ok (.sipush 2100, 3) := by decide +kernel
theorem dX5_init_26 : decode cX5_init 26 = .ok (.newarray .int, 2) := by decide +kernel
theorem dX5_init_28 : decode cX5_init 28 = .ok (.putfield 18, 3) := by decide +kernel
theorem dX5_init_31 : decode cX5_init 31 = .ok (.aload_n 0, 1) := by decide +kernel
theorem dX5_init_32 : decode cX5_init 32 = .ok (.bipush 70, 2) := by decide +kernel
theorem dX5_init_34 : decode cX5_init 34 = .ok (.newarray .int, 2) := by decide +kernel
theorem dX5_init_36 : decode cX5_init 36 = .ok (.putfield 21, 3) := by decide +kernel
theorem dX5_init_39 : decode cX5_init 39 = .ok (.aload_n 0, 1) := by decide +kernel
theorem dX5_init_40 : decode cX5_init 40 = .ok (.bipush 64, 2) := by decide +kernel
theorem dX5_init_42 : decode cX5_init 42 = .ok (.newarray .int, 2) := by decide +kernel
theorem dX5_init_44 : decode cX5_init 44 = .ok (.putfield 24, 3) := by decide +kernel
theorem dX5_init_47 : decode cX5_init 47 = .ok (.aload_n 0, 1) := by decide +kernel
theorem dX5_init_48 : decode cX5_init 48 = .ok (.aload_n 1, 1) := by decide +kernel
theorem dX5_init_49 : decode cX5_init 49 = .ok (.putfield 27, 3) := by decide +kernel
theorem dX5_init_52 : decode cX5_init 52 = .ok (.aload_n 0, 1) := by decide +kernel
theorem dX5_init_53 : decode cX5_init 53 = .ok (.getfield 9, 3) := by decide +kernel
theorem dX5_init_56 : decode cX5_init 56 = .ok (.iconst (-1), 1) := by decide +kernel
theorem dX5_init_57 : decode cX5_init 57 = .ok (.invokestatic 31, 3) := by decide +kernel
theorem dX5_init_60 : decode cX5_init 60 = .ok (.aload_n 0, 1) := by decide +kernel
theorem dX5_init_61 : decode cX5_init 61 = .ok (.getfield 24, 3) := by decide +kernel
theorem dX5_init_64 : decode cX5_init 64 = .ok (.iconst (-1), 1) := by decide +kernel
theorem dX5_init_65 : decode cX5_init 65 = .ok (.invokestatic 31, 3) := by decide +kernel
theorem dX5_init_68 : decode cX5_init 68 = .ok (.return_, 1) := by decide +kernel
theorem dX5_empty_0 : decode cX5_empty 0 = .ok (.aload_n 0, 1) := by decide +kernel
theorem dX5_empty_1 : decode cX5_empty 1 = .ok (.getfield 9, 3) := by decide +kernel
theorem dX5_empty_4 : decode cX5_empty 4 = .ok (.iconst (-1), 1) := by decide +kernel
theorem dX5_empty_5 : decode cX5_empty 5 = .ok (.invokestatic 31, 3) := by decide +kernel
theorem dX5_empty_8 : decode cX5_empty 8 = .ok (.aload_n 0, 1) := by decide +kernel
theorem dX5_empty_9 : decode cX5_empty 9 = .ok (.getfield 24, 3) := by decide +kernel
theorem dX5_empty_12 : decode cX5_empty 12 = .ok (.iconst (-1), 1) := by decide +kernel
theorem dX5_empty_13 : decode cX5_empty 13 = .ok (.invokestatic 31, 3) := by decide +kernel
theorem dX5_empty_16 : decode cX5_empty 16 = .ok (.aload_n 0, 1) := by decide +kernel
theorem dX5_empty_17 : decode cX5_empty 17 = .ok (.getfield 27, 3) := by decide +kernel
theorem dX5_empty_20 : decode cX5_empty 20 = .ok (.iconst 0, 1) := by decide +kernel
theorem dX5_empty_21 : decode cX5_empty 21 = .ok (.putfield 37, 3) := by decide +kernel
theorem dX5_empty_24 : decode cX5_empty 24 = .ok (.aload_n 0, 1) := by decide +kernel
theorem dX5_empty_25 : decode cX5_empty 25 = .ok (.iconst 0, 1) := by decide +kernel
theorem dX5_empty_26 : decode cX5_empty 26 = .ok (.putfield 43, 3) := by decide +kernel
theorem dX5_empty_29 : decode cX5_empty 29 = .ok (.return_, 1) := by decide +kernel
theorem dX5_take_0 : decode cX5_take 0 = .ok (.aload_n 0, 1) := by decide +kernel
theorem dX5_take_1 : decode cX5_take 1 = .ok (.getfield 27, 3) := by decide +kernel
theorem dX5_take_4 : decode cX5_take 4 = .ok (.getfield 37, 3) := by decide +kernel
theorem dX5_take_7 : decode cX5_take 7 = .ok (.istore_n 2, 1) := by decide +kernel
theorem dX5_take_8 : decode cX5_take 8 = .ok (.iload_n 2, 1) := by decide +kernel
theorem dX5_take_9 : decode cX5_take 9 = .ok (.ifCond .lt 12, 3) := by decide +kernel
theorem dX5_take_12 : decode cX5_take 12 = .ok (.iload_n 2, 1) := by decide +kernel
theorem dX5_take_13 : decode cX5_take 13 = .ok (.aload_n 0, 1) := by decide +kernel
theorem dX5_take_14 : decode cX5_take 14 = .ok (.getfield 21, 3) := by decide +kernel
theorem dX5_take_17 : decode cX5_take 17 = .ok (.arraylength, 1) := by decide +kernel
theorem dX5_take_18 : decode cX5_take 18 = .ok (.if_icmp .lt 5, 3) := by decide +kernel
theorem dX5_take_21 : decode cX5_take 21 = .ok (.iconst 0, 1) := by decide +kernel
theorem dX5_take_22 : decode cX5_take 22 = .ok (.ireturn, 1) := by decide +kernel
theorem dX5_take_23 : decode cX5_take 23 = .ok (.aload_n 0, 1) := by decide +kernel
theorem dX5_take_24 : decode cX5_take 24 = .ok (.getfield 43, 3) := by decide +kernel
theorem dX5_take_27 : decode cX5_take 27 = .ok (.istore_n 3, 1) := by decide +kernel
theorem dX5_take_28 : decode cX5_take 28 = .ok (.aload_n 0, 1) := by decide +kernel
theorem dX5_take_29 : decode cX5_take 29 = .ok (.getfield 21, 3) := by decide +kernel
theorem dX5_take_32 : decode cX5_take 32 = .ok (.iload_n 2, 1) := by decide +kernel
theorem dX5_take_33 : decode cX5_take 33 = .ok (.iload_n 3, 1) := by decide +kernel
theorem dX5_take_34 : decode cX5_take 34 = .ok (.iastore, 1) := by decide +kernel
theorem dX5_take_35 : decode cX5_take 35 = .ok (.aload_n 0, 1) := by decide +kernel
theorem dX5_take_36 : decode cX5_take 36 = .ok (.getfield 27, 3) := by decide +kernel
theorem dX5_take_39 : decode cX5_take 39 = .ok (.aload_n 1, 1) := by decide +kernel
theorem dX5_take_40 : decode cX5_take 40 = .ok (.invokevirtual 46, 3) := by decide +kernel
theorem dX5_take_43 : decode cX5_take 43 = .ok (.aload_n 1, 1) := by decide +kernel
theorem dX5_take_44 : decode cX5_take 44 = .ok (.getfield 50, 3) := by decide +kernel
theorem dX5_take_47 : decode cX5_take 47 = .ok (.istore 4, 2) := by decide +kernel
theorem dX5_take_49 : decode cX5_take 49 = .ok (.iconst 0, 1) := by decide +kernel
theorem dX5_take_50 : decode cX5_take 50 = .ok (.istore 5, 2) := by decide +kernel
theorem dX5_take_52 : decode cX5_take 52 = .ok (.iload 5, 2) := by decide +kernel
theorem dX5_take_54 : decode cX5_take 54 = .ok (.bipush 64, 2) := by decide +kernel
theorem dX5_take_56 : decode cX5_take 56 = .ok (.if_icmp .ge 45, 3) := by decide +kernel
theorem dX5_take_59 : decode cX5_take 59 = .ok (.iload 4, 2) := by decide +kernel
theorem dX5_take_61 : decode cX5_take 61 = .ok (.aload_n 1, 1) := by decide +kernel
theorem dX5_take_62 : decode cX5_take 62 = .ok (.getfield 55, 3) := by decide +kernel
theorem dX5_take_65 : decode cX5_take 65 = .ok (.if_icmp .gt 36, 3) := by decide +kernel
theorem dX5_take_68 : decode cX5_take 68 = .ok (.iload 4, 2) := by decide +kernel
theorem dX5_take_70 : decode cX5_take 70 = .ok (.aload_n 1, 1) := by decide +kernel
theorem dX5_take_71 : decode cX5_take 71 = .ok (.getfield 55, 3) := by decide +kernel
theorem dX5_take_74 : decode cX5_take 74 = .ok (.invokestatic 58, 3) := by decide +kernel
theorem dX5_take_77 : decode cX5_take 77 = .ok (.istore 6, 2) := by decide +kernel
theorem dX5_take_79 : decode cX5_take 79 = .ok (.aload_n 0, 1) := by decide +kernel
theorem dX5_take_80 : decode cX5_take 80 = .ok (.iload_n 2, 1) := by decide +kernel
theorem dX5_take_81 : decode cX5_take 81 = .ok (.iload 6, 2) := by decide +kernel
theorem dX5_take_83 : decode cX5_take 83 = .ok (.invokevirtual 62, 3) := by decide +kernel
theorem dX5_take_86 : decode cX5_take 86 = .ok (.iload 6, 2) := by decide +kernel
theorem dX5_take_88 : decode cX5_take 88 = .ok (.invokestatic 66, 3) := by decide +kernel
theorem dX5_take_91 : decode cX5_take 91 = .ok (.iconst 1, 1) := by decide +kernel
theorem dX5_take_92 : decode cX5_take 92 = .ok (.iadd, 1) := by decide +kernel
theorem dX5_take_93 : decode cX5_take 93 = .ok (.istore 4, 2) := by decide +kernel
theorem dX5_take_95 : decode cX5_take 95 = .ok (.iinc 5 1, 3) := by decide +kernel
theorem dX5_take_98 : decode cX5_take 98 = .ok (.goto (-46), 3) := by decide +kernel
theorem dX5_take_101 : decode cX5_take 101 = .ok (.aload_n 0, 1) := by decide +kernel
theorem dX5_take_102 : decode cX5_take 102 = .ok (.iload_n 2, 1) := by decide +kernel
theorem dX5_take_103 : decode cX5_take 103 = .ok (.aload_n 1, 1) := by decide +kernel
theorem dX5_take_104 : decode cX5_take 104 = .ok (.invokevirtual 70, 3) := by decide +kernel
theorem dX5_take_107 : decode cX5_take 107 = .ok (.aload_n 0, 1) := by decide +kernel
theorem dX5_take_108 : decode cX5_take 108 = .ok (.getfield 43, 3) := by decide +kernel
theorem dX5_take_111 : decode cX5_take 111 = .ok (.iload_n 3, 1) := by decide +kernel
theorem dX5_take_112 : decode cX5_take 112 = .ok (.isub, 1) := by decide +kernel
theorem dX5_take_113 : decode cX5_take 113 = .ok (.ireturn, 1) := by decide +kernel
theorem dX5_takeBack_0 : decode cX5_takeBack 0 = .ok (.aload_n 0, 1) := by decide +kernel
theorem dX5_takeBack_1 : decode cX5_takeBack 1 = .ok (.getfield 27, 3) := by decide +kernel
theorem dX5_takeBack_4 : decode cX5_takeBack 4 = .ok (.getfield 37, 3) := by decide +kernel
theorem dX5_takeBack_7 : decode cX5_takeBack 7 = .ok (.iconst 1, 1) := by decide +kernel
theorem dX5_takeBack_8 : decode cX5_takeBack 8 = .ok (.isub, 1) := by decide +kernel
theorem dX5_takeBack_9 : decode cX5_takeBack 9 = .ok (.istore_n 1, 1) := by decide +kernel
theorem dX5_takeBack_10 : decode cX5_takeBack 10 = .ok (.iload_n 1, 1) := by decide +kernel
theorem dX5_takeBack_11 : decode cX5_takeBack 11 = .ok (.ifCond .lt 12, 3) := by decide +kernel
theorem dX5_takeBack_14 : decode cX5_takeBack 14 = .ok (.iload_n 1, 1) := by decide +kernel
theorem dX5_takeBack_15 : decode cX5_takeBack 15 = .ok (.aload_n 0, 1) := by decide +kernel
theorem dX5_takeBack_16 : decode cX5_takeBack 16 = .ok (.getfield 21, 3) := by decide +kernel
theorem dX5_takeBack_19 : decode cX5_takeBack 19 = .ok (.arraylength, 1) := by decide +kernel
theorem dX5_takeBack_20 : decode cX5_takeBack 20 = .ok (.if_icmp .lt 4, 3) := by decide +kernel
theorem dX5_takeBack_23 : decode cX5_takeBack 23 = .ok (.return_, 1) := by decide +kernel
theorem dX5_takeBack_24 : decode cX5_takeBack 24 = .ok (.aload_n 0, 1) := by decide +kernel
theorem dX5_takeBack_25 : decode cX5_takeBack 25 = .ok (.getfield 43, 3) := by decide +kernel
theorem dX5_takeBack_28 : decode cX5_takeBack 28 = .ok (.aload_n 0, 1) := by decide +kernel
theorem dX5_takeBack_29 : decode cX5_takeBack 29 = .ok (.getfield 21, 3) := by decide +kernel
theorem dX5_takeBack_32 : decode cX5_takeBack 32 = .ok (.iload_n 1, 1) := by decide +kernel
theorem dX5_takeBack_33 : decode cX5_takeBack 33 = .ok (.iaload, 1) := by decide +kernel
theorem dX5_takeBack_34 : decode cX5_takeBack 34 = .ok (.if_icmp .le 24, 3) := by decide +kernel
theorem dX5_takeBack_37 : decode cX5_takeBack 37 = .ok (.aload_n 0, 1) := by decide +kernel
theorem dX5_takeBack_38 : decode cX5_takeBack 38 = .ok (.dup, 1) := by decide +kernel
theorem dX5_takeBack_39 : decode cX5_takeBack 39 = .ok (.getfield 43, 3) := by decide +kernel
theorem dX5_takeBack_42 : decode cX5_takeBack 42 = .ok (.iconst 1, 1) := by decide +kernel
theorem dX5_takeBack_43 : decode cX5_takeBack 43 = .ok (.isub, 1) := by decide +kernel
theorem dX5_takeBack_44 : decode cX5_takeBack 44 = .ok (.putfield 43, 3) := by decide +kernel
theorem dX5_takeBack_47 : decode cX5_takeBack 47 = .ok (.aload_n 0, 1) := by decide +kernel
theorem dX5_takeBack_48 : decode cX5_takeBack 48 = .ok (.aload_n 0, 1) := by decide +kernel
theorem dX5_takeBack_49 : decode cX5_takeBack 49 = .ok (.getfield 43, 3) := by decide +kernel
theorem dX5_takeBack_52 : decode cX5_takeBack 52 = .ok (.invokevirtual 74, 3) := by decide +kernel
theorem dX5_takeBack_55 : decode cX5_takeBack 55 = .ok (.goto (-31), 3) := by decide +kernel
theorem dX5_takeBack_58 : decode cX5_takeBack 58 = .ok (.iconst 0, 1) := by decide +kernel
theorem dX5_takeBack_59 : decode cX5_takeBack 59 = .ok (.istore_n 2, 1) := by decide +kernel
theorem dX5_takeBack_60 : decode cX5_takeBack 60 = .ok (.iload_n 2, 1) := by decide +kernel
theorem dX5_takeBack_61 : decode cX5_takeBack 61 = .ok (.bipush 64, 2) := by decide +kernel
theorem dX5_takeBack_63 : decode cX5_takeBack 63 = .ok (.if_icmp .ge 30, 3) := by decide +kernel
theorem dX5_takeBack_66 : decode cX5_takeBack 66 = .ok (.aload_n 0, 1) := by decide +kernel
theorem dX5_takeBack_67 : decode cX5_takeBack 67 = .ok (.getfield 24, 3) := by decide +kernel
theorem dX5_takeBack_70 : decode cX5_takeBack 70 = .ok (.iload_n 2, 1) := by decide +kernel
theorem dX5_takeBack_71 : decode cX5_takeBack 71 = .ok (.iaload, 1) := by decide +kernel
theorem dX5_takeBack_72 : decode cX5_takeBack 72 = .ok (.iload_n 1, 1) := by decide +kernel
theorem dX5_takeBack_73 : decode cX5_takeBack 73 = .ok (.if_icmp .ne 14, 3) := by decide +kernel
theorem dX5_takeBack_76 : decode cX5_takeBack 76 = .ok (.aload_n 0, 1) := by decide +kernel
theorem dX5_takeBack_77 : decode cX5_takeBack 77 = .ok (.getfield 24, 3) := by decide +kernel
theorem dX5_takeBack_80 : decode cX5_takeBack 80 = .ok (.iload_n 2, 1) := by decide +kernel
theorem dX5_takeBack_81 : decode cX5_takeBack 81 = .ok (.aload_n 0, 1) := by decide +kernel
theorem dX5_takeBack_82 : decode cX5_takeBack 82 = .ok (.iload_n 2, 1) := by decide +kernel
theorem dX5_takeBack_83 : decode cX5_takeBack 83 = .ok (.invokevirtual 78, 3) := by decide +kernel
theorem dX5_takeBack_86 : decode cX5_takeBack 86 = .ok (.iastore, 1) := by decide +kernel
theorem dX5_takeBack_87 : decode cX5_takeBack 87 = .ok (.iinc 2 1, 3) := by decide +kernel
theorem dX5_takeBack_90 : decode cX5_takeBack 90 = .ok (.goto (-30), 3) := by decide +kernel
theorem dX5_takeBack_93 : decode cX5_takeBack 93 = .ok (.aload_n 0, 1) := by decide +kernel
theorem dX5_takeBack_94 : decode cX5_takeBack 94 = .ok (.getfield 27, 3) := by decide +kernel
theorem dX5_takeBack_97 : decode cX5_takeBack 97 = .ok (.iload_n 1, 1) := by decide +kernel
theorem dX5_takeBack_98 : decode cX5_takeBack 98 = .ok (.putfield 37, 3) := by decide +kernel
theorem dX5_takeBack_101 : decode cX5_takeBack 101 = .ok (.return_, 1) := by decide +kernel
theorem dX5_standingAt_0 : decode cX5_standingAt 0 = .ok (.iload_n 1, 1) := by decide +kernel
theorem dX5_standingAt_1 : decode cX5_standingAt 1 = .ok (.iconst 1, 1) := by decide +kernel
theorem dX5_standingAt_2 : decode cX5_standingAt 2 = .ok (.if_icmp .lt 18, 3) := by decide +kernel
theorem dX5_standingAt_5 : decode cX5_standingAt 5 = .ok (.iload_n 1, 1) := by decide +kernel
theorem dX5_standingAt_6 : decode cX5_standingAt 6 = .ok (.bipush 127, 2) := by decide +kernel
theorem dX5_standingAt_8 : decode cX5_standingAt 8 = .ok (.if_icmp .gt 12, 3) := by decide +kernel
theorem dX5_standingAt_11 : decode cX5_standingAt 11 = .ok (.aload_n 0, 1) := by decide +kernel
theorem dX5_standingAt_12 : decode cX5_standingAt 12 = .ok (.getfield 9, 3) := by decide +kernel
theorem dX5_standingAt_15 : decode cX5_standingAt 15 = .ok (.iload_n 1, 1) := by decide +kernel
theorem dX5_standingAt_16 : decode cX5_standingAt 16 = .ok (.iaload, 1) := by decide +kernel
theorem dX5_standingAt_17 : decode cX5_standingAt 17 = .ok (.goto 4, 3) := by decide +kernel
theorem dX5_standingAt_20 : decode cX5_standingAt 20 = .ok (.iconst (-1), 1) := by decide +kernel
theorem dX5_standingAt_21 : decode cX5_standingAt 21 = .ok (.ireturn, 1) := by decide +kernel
theorem dX5_nodesOf_0 : decode cX5_nodesOf 0 = .ok (.iconst 0, 1) := by decide +kernel
theorem dX5_nodesOf_1 : decode cX5_nodesOf 1 = .ok (.istore_n 3, 1) := by decide +kernel
theorem dX5_nodesOf_2 : decode cX5_nodesOf 2 = .ok (.iconst 1, 1) := by decide +kernel
theorem dX5_nodesOf_3 : decode cX5_nodesOf 3 = .ok (.istore 4, 2) := by decide +kernel
theorem dX5_nodesOf_5 : decode cX5_nodesOf 5 = .ok (.iload 4, 2) := by decide +kernel
theorem dX5_nodesOf_7 : decode cX5_nodesOf 7 = .ok (.bipush 127, 2) := by decide +kernel
theorem dX5_nodesOf_9 : decode cX5_nodesOf 9 = .ok (.if_icmp .gt 34, 3) := by decide +kernel
theorem dX5_nodesOf_12 : decode cX5_nodesOf 12 = .ok (.aload_n 0, 1) := by decide +kernel
theorem dX5_nodesOf_13 : decode cX5_nodesOf 13 = .ok (.getfield 9, 3) := by decide +kernel
theorem dX5_nodesOf_16 : decode cX5_nodesOf 16 = .ok (.iload 4, 2) := by decide +kernel
theorem dX5_nodesOf_18 : decode cX5_nodesOf 18 = .ok (.iaload, 1) := by decide +kernel
theorem dX5_nodesOf_19 : decode cX5_nodesOf 19 = .ok (.iload_n 1, 1) := by decide +kernel
theorem dX5_nodesOf_20 : decode cX5_nodesOf 20 = .ok (.if_icmp .lt 17, 3) := by decide +kernel
theorem dX5_nodesOf_23 : decode cX5_nodesOf 23 = .ok (.aload_n 0, 1) := by decide +kernel
theorem dX5_nodesOf_24 : decode cX5_nodesOf 24 = .ok (.getfield 9, 3) := by decide +kernel
theorem dX5_nodesOf_27 : decode cX5_nodesOf 27 = .ok (.iload 4, 2) := by decide +kernel
theorem dX5_nodesOf_29 : decode cX5_nodesOf 29 = .ok (.iaload, 1) := by decide +kernel
theorem dX5_nodesOf_30 : decode cX5_nodesOf 30 = .ok (.iload_n 2, 1) := by decide +kernel
theorem dX5_nodesOf_31 : decode cX5_nodesOf 31 = .ok (.if_icmp .gt 6, 3) := by decide +kernel
theorem dX5_nodesOf_34 : decode cX5_nodesOf 34 = .ok (.iinc 3 1, 3) := by decide +kernel
theorem dX5_nodesOf_37 : decode cX5_nodesOf 37 = .ok (.iinc 4 1, 3) := by decide +kernel
theorem dX5_nodesOf_40 : decode cX5_nodesOf 40 = .ok (.goto (-35), 3) := by decide +kernel
theorem dX5_nodesOf_43 : decode cX5_nodesOf 43 = .ok (.iload_n 3, 1) := by decide +kernel
theorem dX5_nodesOf_44 : decode cX5_nodesOf 44 = .ok (.ireturn, 1) := by decide +kernel
theorem dX5_lowestFor_0 : decode cX5_lowestFor 0 = .ok (.iload_n 1, 1) := by decide +kernel
theorem dX5_lowestFor_1 : decode cX5_lowestFor 1 = .ok (.invokestatic 81, 3) := by decide +kernel
theorem dX5_lowestFor_4 : decode cX5_lowestFor 4 = .ok (.ifCond .eq 12, 3) := by decide +kernel
theorem dX5_lowestFor_7 : decode cX5_lowestFor 7 = .ok (.aload_n 0, 1) := by decide +kernel
theorem dX5_lowestFor_8 : decode cX5_lowestFor 8 = .ok (.getfield 24, 3) := by decide +kernel
theorem dX5_lowestFor_11 : decode cX5_lowestFor 11 = .ok (.iload_n 1, 1) := by decide +kernel
theorem dX5_lowestFor_12 : decode cX5_lowestFor 12 = .ok (.iaload, 1) := by decide +kernel
theorem dX5_lowestFor_13 : decode cX5_lowestFor 13 = .ok (.goto 4, 3) := by decide +kernel
theorem dX5_lowestFor_16 : decode cX5_lowestFor 16 = .ok (.iconst (-1), 1) := by decide +kernel
theorem dX5_lowestFor_17 : decode cX5_lowestFor 17 = .ok (.ireturn, 1) := by decide +kernel
theorem dX5_firstOf_0 : decode cX5_firstOf 0 = .ok (.iload_n 0, 1) := by decide +kernel
theorem dX5_firstOf_1 : decode cX5_firstOf 1 = .ok (.iload_n 0, 1) := by decide +kernel
theorem dX5_firstOf_2 : decode cX5_firstOf 2 = .ok (.invokestatic 85, 3) := by decide +kernel
theorem dX5_firstOf_5 : decode cX5_firstOf 5 = .ok (.imul, 1) := by decide +kernel
theorem dX5_firstOf_6 : decode cX5_firstOf 6 = .ok (.bipush 64, 2) := by decide +kernel
theorem dX5_firstOf_8 : decode cX5_firstOf 8 = .ok (.isub, 1) := by decide +kernel
theorem dX5_firstOf_9 : decode cX5_firstOf 9 = .ok (.ireturn, 1) := by decide +kernel
theorem dX5_lastOf_0 : decode cX5_lastOf 0 = .ok (.iload_n 0, 1) := by decide +kernel
theorem dX5_lastOf_1 : decode cX5_lastOf 1 = .ok (.invokestatic 88, 3) := by decide +kernel
theorem dX5_lastOf_4 : decode cX5_lastOf 4 = .ok (.iload_n 0, 1) := by decide +kernel
theorem dX5_lastOf_5 : decode cX5_lastOf 5 = .ok (.invokestatic 85, 3) := by decide +kernel
theorem dX5_lastOf_8 : decode cX5_lastOf 8 = .ok (.iadd, 1) := by decide +kernel
theorem dX5_lastOf_9 : decode cX5_lastOf 9 = .ok (.iconst 1, 1) := by decide +kernel
theorem dX5_lastOf_10 : decode cX5_lastOf 10 = .ok (.isub, 1) := by decide +kernel
theorem dX5_lastOf_11 : decode cX5_lastOf 11 = .ok (.ireturn, 1) := by decide +kernel
theorem dX5_middleOf_0 : decode cX5_middleOf 0 = .ok (.iload_n 0, 1) := by decide +kernel
theorem dX5_middleOf_1 : decode cX5_middleOf 1 = .ok (.invokestatic 88, 3) := by decide +kernel
theorem dX5_middleOf_4 : decode cX5_middleOf 4 = .ok (.iload_n 0, 1) := by decide +kernel
theorem dX5_middleOf_5 : decode cX5_middleOf 5 = .ok (.invokestatic 85, 3) := by decide +kernel
theorem dX5_middleOf_8 : decode cX5_middleOf 8 = .ok (.iconst 1, 1) := by decide +kernel
theorem dX5_middleOf_9 : decode cX5_middleOf 9 = .ok (.isub, 1) := by decide +kernel
theorem dX5_middleOf_10 : decode cX5_middleOf 10 = .ok (.iconst 2, 1) := by decide +kernel
theorem dX5_middleOf_11 : decode cX5_middleOf 11 = .ok (.idiv, 1) := by decide +kernel
theorem dX5_middleOf_12 : decode cX5_middleOf 12 = .ok (.iadd, 1) := by decide +kernel
theorem dX5_middleOf_13 : decode cX5_middleOf 13 = .ok (.ireturn, 1) := by decide +kernel
theorem dX5_sizeOf_0 : decode cX5_sizeOf 0 = .ok (.bipush 64, 2) := by decide +kernel
theorem dX5_sizeOf_2 : decode cX5_sizeOf 2 = .ok (.istore_n 1, 1) := by decide +kernel
theorem dX5_sizeOf_3 : decode cX5_sizeOf 3 = .ok (.iload_n 0, 1) := by decide +kernel
theorem dX5_sizeOf_4 : decode cX5_sizeOf 4 = .ok (.istore_n 2, 1) := by decide +kernel
theorem dX5_sizeOf_5 : decode cX5_sizeOf 5 = .ok (.iload_n 2, 1) := by decide +kernel
theorem dX5_sizeOf_6 : decode cX5_sizeOf 6 = .ok (.iconst 1, 1) := by decide +kernel
theorem dX5_sizeOf_7 : decode cX5_sizeOf 7 = .ok (.if_icmp .le 14, 3) := by decide +kernel
theorem dX5_sizeOf_10 : decode cX5_sizeOf 10 = .ok (.iload_n 1, 1) := by decide +kernel
theorem dX5_sizeOf_11 : decode cX5_sizeOf 11 = .ok (.iconst 2, 1) := by decide +kernel
theorem dX5_sizeOf_12 : decode cX5_sizeOf 12 = .ok (.idiv, 1) := by decide +kernel
theorem dX5_sizeOf_13 : decode cX5_sizeOf 13 = .ok (.istore_n 1, 1) := by decide +kernel
theorem dX5_sizeOf_14 : decode cX5_sizeOf 14 = .ok (.iload_n 2, 1) := by decide +kernel
theorem dX5_sizeOf_15 : decode cX5_sizeOf 15 = .ok (.iconst 2, 1) := by decide +kernel
theorem dX5_sizeOf_16 : decode cX5_sizeOf 16 = .ok (.idiv, 1) := by decide +kernel
theorem dX5_sizeOf_17 : decode cX5_sizeOf 17 = .ok (.istore_n 2, 1) := by decide +kernel
theorem dX5_sizeOf_18 : decode cX5_sizeOf 18 = .ok (.goto (-13), 3) := by decide +kernel
theorem dX5_sizeOf_21 : decode cX5_sizeOf 21 = .ok (.iload_n 1, 1) := by decide +kernel
theorem dX5_sizeOf_22 : decode cX5_sizeOf 22 = .ok (.ireturn, 1) := by decide +kernel
theorem dX5_widestNode_0 : decode cX5_widestNode 0 = .ok (.bipush 64, 2) := by decide +kernel
theorem dX5_widestNode_2 : decode cX5_widestNode 2 = .ok (.iload_n 0, 1) := by decide +kernel
theorem dX5_widestNode_3 : decode cX5_widestNode 3 = .ok (.iadd, 1) := by decide +kernel
theorem dX5_widestNode_4 : decode cX5_widestNode 4 = .ok (.istore_n 2, 1) := by decide +kernel
theorem dX5_widestNode_5 : decode cX5_widestNode 5 = .ok (.iload_n 2, 1) := by decide +kernel
theorem dX5_widestNode_6 : decode cX5_widestNode 6 = .ok (.iconst 1, 1) := by decide +kernel
theorem dX5_widestNode_7 : decode cX5_widestNode 7 = .ok (.if_icmp .le 26, 3) := by decide +kernel
theorem dX5_widestNode_10 : decode cX5_widestNode 10 = .ok (.iload_n 2, 1) := by decide +kernel
theorem dX5_widestNode_11 : decode cX5_widestNode 11 = .ok (.iconst 2, 1) := by decide +kernel
theorem dX5_widestNode_12 : decode cX5_widestNode 12 = .ok (.irem, 1) := by decide +kernel
theorem dX5_widestNode_13 : decode cX5_widestNode 13 = .ok (.ifCond .ne 20, 3) := by decide +kernel
theorem dX5_widestNode_16 : decode cX5_widestNode 16 = .ok (.iload_n 2, 1) := by decide +kernel
theorem dX5_widestNode_17 : decode cX5_widestNode 17 = .ok (.iconst 2, 1) := by decide +kernel
theorem dX5_widestNode_18 : decode cX5_widestNode 18 = .ok (.idiv, 1) := by decide +kernel
theorem dX5_widestNode_19 : decode cX5_widestNode 19 = .ok (.invokestatic 66, 3) := by decide +kernel
theorem dX5_widestNode_22 : decode cX5_widestNode 22 = .ok (.iload_n 1, 1) := by decide +kernel
theorem dX5_widestNode_23 : decode cX5_widestNode 23 = .ok (.if_icmp .gt 10, 3) := by decide +kernel
theorem dX5_widestNode_26 : decode cX5_widestNode 26 = .ok (.iload_n 2, 1) := by decide +kernel
theorem dX5_widestNode_27 : decode cX5_widestNode 27 = .ok (.iconst 2, 1) := by decide +kernel
theorem dX5_widestNode_28 : decode cX5_widestNode 28 = .ok (.idiv, 1) := by decide +kernel
theorem dX5_widestNode_29 : decode cX5_widestNode 29 = .ok (.istore_n 2, 1) := by decide +kernel
theorem dX5_widestNode_30 : decode cX5_widestNode 30 = .ok (.goto (-25), 3) := by decide +kernel
theorem dX5_widestNode_33 : decode cX5_widestNode 33 = .ok (.iload_n 2, 1) := by decide +kernel
theorem dX5_widestNode_34 : decode cX5_widestNode 34 = .ok (.ireturn, 1) := by decide +kernel
theorem dX5_push_0 : decode cX5_push 0 = .ok (.iload_n 1, 1) := by decide +kernel
theorem dX5_push_1 : decode cX5_push 1 = .ok (.istore_n 3, 1) := by decide +kernel
theorem dX5_push_2 : decode cX5_push 2 = .ok (.iload_n 2, 1) := by decide +kernel
theorem dX5_push_3 : decode cX5_push 3 = .ok (.istore 4, 2) := by decide +kernel
theorem dX5_push_5 : decode cX5_push 5 = .ok (.iconst 0, 1) := by decide +kernel
theorem dX5_push_6 : decode cX5_push 6 = .ok (.istore 5, 2) := by decide +kernel
theorem dX5_push_8 : decode cX5_push 8 = .ok (.iload 5, 2) := by decide +kernel
theorem dX5_push_10 : decode cX5_push 10 = .ok (.bipush 7, 2) := by decide +kernel
theorem dX5_push_12 : decode cX5_push 12 = .ok (.if_icmp .ge 98, 3) := by decide +kernel
theorem dX5_push_15 : decode cX5_push 15 = .ok (.iload 4, 2) := by decide +kernel
theorem dX5_push_17 : decode cX5_push 17 = .ok (.iconst 1, 1) := by decide +kernel
theorem dX5_push_18 : decode cX5_push 18 = .ok (.if_icmp .lt 92, 3) := by decide +kernel
theorem dX5_push_21 : decode cX5_push 21 = .ok (.iload 4, 2) := by decide +kernel
theorem dX5_push_23 : decode cX5_push 23 = .ok (.bipush 127, 2) := by decide +kernel
theorem dX5_push_25 : decode cX5_push 25 = .ok (.if_icmp .gt 85, 3) := by decide +kernel
theorem dX5_push_28 : decode cX5_push 28 = .ok (.aload_n 0, 1) := by decide +kernel
theorem dX5_push_29 : decode cX5_push 29 = .ok (.getfield 9, 3) := by decide +kernel
theorem dX5_push_32 : decode cX5_push 32 = .ok (.iload 4, 2) := by decide +kernel
theorem dX5_push_34 : decode cX5_push 34 = .ok (.iaload, 1) := by decide +kernel
theorem dX5_push_35 : decode cX5_push 35 = .ok (.istore 6, 2) := by decide +kernel
theorem dX5_push_37 : decode cX5_push 37 = .ok (.iload 6, 2) := by decide +kernel
theorem dX5_push_39 : decode cX5_push 39 = .ok (.iconst (-1), 1) := by decide +kernel
theorem dX5_push_40 : decode cX5_push 40 = .ok (.if_icmp .ne 11, 3) := by decide +kernel
theorem dX5_push_43 : decode cX5_push 43 = .ok (.aload_n 0, 1) := by decide +kernel
theorem dX5_push_44 : decode cX5_push 44 = .ok (.iload 4, 2) := by decide +kernel
theorem dX5_push_46 : decode cX5_push 46 = .ok (.iload_n 3, 1) := by decide +kernel
theorem dX5_push_47 : decode cX5_push 47 = .ok (.invokevirtual 91, 3) := by decide +kernel
theorem dX5_push_50 : decode cX5_push 50 = .ok (.return_, 1) := by decide +kernel
theorem dX5_push_51 : decode cX5_push 51 = .ok (.aload_n 0, 1) := by decide +kernel
theorem dX5_push_52 : decode cX5_push 52 = .ok (.getfield 27, 3) := by decide +kernel
theorem dX5_push_55 : decode cX5_push 55 = .ok (.iload_n 3, 1) := by decide +kernel
theorem dX5_push_56 : decode cX5_push 56 = .ok (.iload 6, 2) := by decide +kernel
theorem dX5_push_58 : decode cX5_push 58 = .ok (.iload 4, 2) := by decide +kernel
theorem dX5_push_60 : decode cX5_push 60 = .ok (.invokestatic 94, 3) := by decide +kernel
theorem dX5_push_63 : decode cX5_push 63 = .ok (.invokevirtual 97, 3) := by decide +kernel
theorem dX5_push_66 : decode cX5_push 66 = .ok (.ifCond .eq 27, 3) := by decide +kernel
theorem dX5_push_69 : decode cX5_push 69 = .ok (.aload_n 0, 1) := by decide +kernel
theorem dX5_push_70 : decode cX5_push 70 = .ok (.iload 4, 2) := by decide +kernel
theorem dX5_push_72 : decode cX5_push 72 = .ok (.iload_n 3, 1) := by decide +kernel
theorem dX5_push_73 : decode cX5_push 73 = .ok (.invokevirtual 91, 3) := by decide +kernel
theorem dX5_push_76 : decode cX5_push 76 = .ok (.aload_n 0, 1) := by decide +kernel
theorem dX5_push_77 : decode cX5_push 77 = .ok (.iload 6, 2) := by decide +kernel
theorem dX5_push_79 : decode cX5_push 79 = .ok (.iload_n 3, 1) := by decide +kernel
theorem dX5_push_80 : decode cX5_push 80 = .ok (.iload 4, 2) := by decide +kernel
theorem dX5_push_82 : decode cX5_push 82 = .ok (.invokevirtual 101, 3) := by decide +kernel
theorem dX5_push_85 : decode cX5_push 85 = .ok (.istore 4, 2) := by decide +kernel
theorem dX5_push_87 : decode cX5_push 87 = .ok (.iload 6, 2) := by decide +kernel
theorem dX5_push_89 : decode cX5_push 89 = .ok (.istore_n 3, 1) := by decide +kernel
theorem dX5_push_90 : decode cX5_push 90 = .ok (.goto 14, 3) := by decide +kernel
theorem dX5_push_93 : decode cX5_push 93 = .ok (.aload_n 0, 1) := by decide +kernel
theorem dX5_push_94 : decode cX5_push 94 = .ok (.iload_n 3, 1) := by decide +kernel
theorem dX5_push_95 : decode cX5_push 95 = .ok (.iload 6, 2) := by decide +kernel
theorem dX5_push_97 : decode cX5_push 97 = .ok (.iload 4, 2) := by decide +kernel
theorem dX5_push_99 : decode cX5_push 99 = .ok (.invokevirtual 101, 3) := by decide +kernel
theorem dX5_push_102 : decode cX5_push 102 = .ok (.istore 4, 2) := by decide +kernel
theorem dX5_push_104 : decode cX5_push 104 = .ok (.iinc 5 1, 3) := by decide +kernel
theorem dX5_push_107 : decode cX5_push 107 = .ok (.goto (-99), 3) := by decide +kernel
theorem dX5_push_110 : decode cX5_push 110 = .ok (.return_, 1) := by decide +kernel
theorem dX5_halfFor_0 : decode cX5_halfFor 0 = .ok (.aload_n 0, 1) := by decide +kernel
theorem dX5_halfFor_1 : decode cX5_halfFor 1 = .ok (.getfield 27, 3) := by decide +kernel
theorem dX5_halfFor_4 : decode cX5_halfFor 4 = .ok (.iload_n 1, 1) := by decide +kernel
theorem dX5_halfFor_5 : decode cX5_halfFor 5 = .ok (.iload_n 2, 1) := by decide +kernel
theorem dX5_halfFor_6 : decode cX5_halfFor 6 = .ok (.iload_n 3, 1) := by decide +kernel
theorem dX5_halfFor_7 : decode cX5_halfFor 7 = .ok (.invokestatic 88, 3) := by decide +kernel
theorem dX5_halfFor_10 : decode cX5_halfFor 10 = .ok (.invokevirtual 97, 3) := by decide +kernel
theorem dX5_halfFor_13 : decode cX5_halfFor 13 = .ok (.ifCond .eq 7, 3) := by decide +kernel
theorem dX5_halfFor_16 : decode cX5_halfFor 16 = .ok (.iconst 2, 1) := by decide +kernel
theorem dX5_halfFor_17 : decode cX5_halfFor 17 = .ok (.iload_n 3, 1) := by decide +kernel
theorem dX5_halfFor_18 : decode cX5_halfFor 18 = .ok (.imul, 1) := by decide +kernel
theorem dX5_halfFor_19 : decode cX5_halfFor 19 = .ok (.ireturn, 1) := by decide +kernel
theorem dX5_halfFor_20 : decode cX5_halfFor 20 = .ok (.aload_n 0, 1) := by decide +kernel
theorem dX5_halfFor_21 : decode cX5_halfFor 21 = .ok (.getfield 27, 3) := by decide +kernel
theorem dX5_halfFor_24 : decode cX5_halfFor 24 = .ok (.iload_n 1, 1) := by decide +kernel
theorem dX5_halfFor_25 : decode cX5_halfFor 25 = .ok (.iload_n 2, 1) := by decide +kernel
theorem dX5_halfFor_26 : decode cX5_halfFor 26 = .ok (.iload_n 3, 1) := by decide +kernel
theorem dX5_halfFor_27 : decode cX5_halfFor 27 = .ok (.invokestatic 66, 3) := by decide +kernel
theorem dX5_halfFor_30 : decode cX5_halfFor 30 = .ok (.invokevirtual 97, 3) := by decide +kernel
theorem dX5_halfFor_33 : decode cX5_halfFor 33 = .ok (.ifCond .eq 11, 3) := by decide +kernel
theorem dX5_halfFor_36 : decode cX5_halfFor 36 = .ok (.iconst 2, 1) := by decide +kernel
theorem dX5_halfFor_37 : decode cX5_halfFor 37 = .ok (.iload_n 3, 1) := by decide +kernel
theorem dX5_halfFor_38 : decode cX5_halfFor 38 = .ok (.imul, 1) := by decide +kernel
theorem dX5_halfFor_39 : decode cX5_halfFor 39 = .ok (.iconst 1, 1) := by decide +kernel
theorem dX5_halfFor_40 : decode cX5_halfFor 40 = .ok (.iadd, 1) := by decide +kernel
theorem dX5_halfFor_41 : decode cX5_halfFor 41 = .ok (.goto 4, 3) := by decide +kernel
theorem dX5_halfFor_44 : decode cX5_halfFor 44 = .ok (.iconst 0, 1) := by decide +kernel
theorem dX5_halfFor_45 : decode cX5_halfFor 45 = .ok (.ireturn, 1) := by decide +kernel
theorem dX5_put_0 : decode cX5_put 0 = .ok (.aload_n 0, 1) := by decide +kernel
theorem dX5_put_1 : decode cX5_put 1 = .ok (.aload_n 0, 1) := by decide +kernel
theorem dX5_put_2 : decode cX5_put 2 = .ok (.getfield 43, 3) := by decide +kernel
theorem dX5_put_5 : decode cX5_put 5 = .ok (.invokevirtual 105, 3) := by decide +kernel
theorem dX5_put_8 : decode cX5_put 8 = .ok (.ifCond .eq 56, 3) := by decide +kernel
theorem dX5_put_11 : decode cX5_put 11 = .ok (.iload_n 1, 1) := by decide +kernel
theorem dX5_put_12 : decode cX5_put 12 = .ok (.iconst 1, 1) := by decide +kernel
theorem dX5_put_13 : decode cX5_put 13 = .ok (.if_icmp .lt 51, 3) := by decide +kernel
theorem dX5_put_16 : decode cX5_put 16 = .ok (.iload_n 1, 1) := by decide +kernel
theorem dX5_put_17 : decode cX5_put 17 = .ok (.bipush 127, 2) := by decide +kernel
theorem dX5_put_19 : decode cX5_put 19 = .ok (.if_icmp .gt 45, 3) := by decide +kernel
theorem dX5_put_22 : decode cX5_put 22 = .ok (.aload_n 0, 1) := by decide +kernel
theorem dX5_put_23 : decode cX5_put 23 = .ok (.getfield 15, 3) := by decide +kernel
theorem dX5_put_26 : decode cX5_put 26 = .ok (.aload_n 0, 1) := by decide +kernel
theorem dX5_put_27 : decode cX5_put 27 = .ok (.getfield 43, 3) := by decide +kernel
theorem dX5_put_30 : decode cX5_put 30 = .ok (.iload_n 1, 1) := by decide +kernel
theorem dX5_put_31 : decode cX5_put 31 = .ok (.iastore, 1) := by decide +kernel
theorem dX5_put_32 : decode cX5_put 32 = .ok (.aload_n 0, 1) := by decide +kernel
theorem dX5_put_33 : decode cX5_put 33 = .ok (.getfield 18, 3) := by decide +kernel
theorem dX5_put_36 : decode cX5_put 36 = .ok (.aload_n 0, 1) := by decide +kernel
theorem dX5_put_37 : decode cX5_put 37 = .ok (.getfield 43, 3) := by decide +kernel
theorem dX5_put_40 : decode cX5_put 40 = .ok (.aload_n 0, 1) := by decide +kernel
theorem dX5_put_41 : decode cX5_put 41 = .ok (.getfield 9, 3) := by decide +kernel
theorem dX5_put_44 : decode cX5_put 44 = .ok (.iload_n 1, 1) := by decide +kernel
theorem dX5_put_45 : decode cX5_put 45 = .ok (.iaload, 1) := by decide +kernel
theorem dX5_put_46 : decode cX5_put 46 = .ok (.iastore, 1) := by decide +kernel
theorem dX5_put_47 : decode cX5_put 47 = .ok (.aload_n 0, 1) := by decide +kernel
theorem dX5_put_48 : decode cX5_put 48 = .ok (.dup, 1) := by decide +kernel
theorem dX5_put_49 : decode cX5_put 49 = .ok (.getfield 43, 3) := by decide +kernel
theorem dX5_put_52 : decode cX5_put 52 = .ok (.iconst 1, 1) := by decide +kernel
theorem dX5_put_53 : decode cX5_put 53 = .ok (.iadd, 1) := by decide +kernel
theorem dX5_put_54 : decode cX5_put 54 = .ok (.putfield 43, 3) := by decide +kernel
theorem dX5_put_57 : decode cX5_put 57 = .ok (.aload_n 0, 1) := by decide +kernel
theorem dX5_put_58 : decode cX5_put 58 = .ok (.getfield 9, 3) := by decide +kernel
theorem dX5_put_61 : decode cX5_put 61 = .ok (.iload_n 1, 1) := by decide +kernel
theorem dX5_put_62 : decode cX5_put 62 = .ok (.iload_n 2, 1) := by decide +kernel
theorem dX5_put_63 : decode cX5_put 63 = .ok (.iastore, 1) := by decide +kernel
theorem dX5_put_64 : decode cX5_put 64 = .ok (.return_, 1) := by decide +kernel
theorem dX5_putBack_0 : decode cX5_putBack 0 = .ok (.aload_n 0, 1) := by decide +kernel
theorem dX5_putBack_1 : decode cX5_putBack 1 = .ok (.iload_n 1, 1) := by decide +kernel
theorem dX5_putBack_2 : decode cX5_putBack 2 = .ok (.invokevirtual 105, 3) := by decide +kernel
theorem dX5_putBack_5 : decode cX5_putBack 5 = .ok (.ifCond .eq 41, 3) := by decide +kernel
theorem dX5_putBack_8 : decode cX5_putBack 8 = .ok (.aload_n 0, 1) := by decide +kernel
theorem dX5_putBack_9 : decode cX5_putBack 9 = .ok (.getfield 15, 3) := by decide +kernel
theorem dX5_putBack_12 : decode cX5_putBack 12 = .ok (.iload_n 1, 1) := by decide +kernel
theorem dX5_putBack_13 : decode cX5_putBack 13 = .ok (.iaload, 1) := by decide +kernel
theorem dX5_putBack_14 : decode cX5_putBack 14 = .ok (.iconst 1, 1) := by decide +kernel
theorem dX5_putBack_15 : decode cX5_putBack 15 = .ok (.if_icmp .lt 31, 3) := by decide +kernel
theorem dX5_putBack_18 : decode cX5_putBack 18 = .ok (.aload_n 0, 1) := by decide +kernel
theorem dX5_putBack_19 : decode cX5_putBack 19 = .ok (.getfield 15, 3) := by decide +kernel
theorem dX5_putBack_22 : decode cX5_putBack 22 = .ok (.iload_n 1, 1) := by decide +kernel
theorem dX5_putBack_23 : decode cX5_putBack 23 = .ok (.iaload, 1) := by decide +kernel
theorem dX5_putBack_24 : decode cX5_putBack 24 = .ok (.bipush 127, 2) := by decide +kernel
theorem dX5_putBack_26 : decode cX5_putBack 26 = .ok (.if_icmp .gt 20, 3) := by decide +kernel
theorem dX5_putBack_29 : decode cX5_putBack 29 = .ok (.aload_n 0, 1) := by decide +kernel
theorem dX5_putBack_30 : decode cX5_putBack 30 = .ok (.getfield 9, 3) := by decide +kernel
theorem dX5_putBack_33 : decode cX5_putBack 33 = .ok (.aload_n 0, 1) := by decide +kernel
theorem dX5_putBack_34 : decode cX5_putBack 34 = .ok (.getfield 15, 3) := by decide +kernel
theorem dX5_putBack_37 : decode cX5_putBack 37 = .ok (.iload_n 1, 1) := by decide +kernel
theorem dX5_putBack_38 : decode cX5_putBack 38 = .ok (.iaload, 1) := by decide +kernel
theorem dX5_putBack_39 : decode cX5_putBack 39 = .ok (.aload_n 0, 1) := by decide +kernel
theorem dX5_putBack_40 : decode cX5_putBack 40 = .ok (.getfield 18, 3) := by decide +kernel
theorem dX5_putBack_43 : decode cX5_putBack 43 = .ok (.iload_n 1, 1) := by decide +kernel
theorem dX5_putBack_44 : decode cX5_putBack 44 = .ok (.iaload, 1) := by decide +kernel
theorem dX5_putBack_45 : decode cX5_putBack 45 = .ok (.iastore, 1) := by decide +kernel
theorem dX5_putBack_46 : decode cX5_putBack 46 = .ok (.return_, 1) := by decide +kernel
theorem dX5_isLogPlace_0 : decode cX5_isLogPlace 0 = .ok (.iload_n 1, 1) := by decide +kernel
theorem dX5_isLogPlace_1 : decode cX5_isLogPlace 1 = .ok (.ifCond .lt 25, 3) := by decide +kernel
theorem dX5_isLogPlace_4 : decode cX5_isLogPlace 4 = .ok (.iload_n 1, 1) := by decide +kernel
theorem dX5_isLogPlace_5 : decode cX5_isLogPlace 5 = .ok (.aload_n 0, 1) := by decide +kernel
theorem dX5_isLogPlace_6 : decode cX5_isLogPlace 6 = .ok (.getfield 15, 3) := by decide +kernel
theorem dX5_isLogPlace_9 : decode cX5_isLogPlace 9 = .ok (.arraylength, 1) := by decide +kernel
theorem dX5_isLogPlace_10 : decode cX5_isLogPlace 10 = .ok (.if_icmp .ge 16, 3) := by decide +kernel
theorem dX5_isLogPlace_13 : decode cX5_isLogPlace 13 = .ok (.iload_n 1, 1) := by decide +kernel
theorem dX5_isLogPlace_14 : decode cX5_isLogPlace 14 = .ok (.aload_n 0, 1) := by decide +kernel
theorem dX5_isLogPlace_15 : decode cX5_isLogPlace 15 = .ok (.getfield 18, 3) := by decide +kernel
theorem dX5_isLogPlace_18 : decode cX5_isLogPlace 18 = .ok (.arraylength, 1) := by decide +kernel
theorem dX5_isLogPlace_19 : decode cX5_isLogPlace 19 = .ok (.if_icmp .ge 7, 3) := by decide +kernel
theorem dX5_isLogPlace_22 : decode cX5_isLogPlace 22 = .ok (.iconst 1, 1) := by decide +kernel
theorem dX5_isLogPlace_23 : decode cX5_isLogPlace 23 = .ok (.goto 4, 3) := by decide +kernel
theorem dX5_isLogPlace_26 : decode cX5_isLogPlace 26 = .ok (.iconst 0, 1) := by decide +kernel
theorem dX5_isLogPlace_27 : decode cX5_isLogPlace 27 = .ok (.ireturn, 1) := by decide +kernel
theorem dX5_lowerBy_0 : decode cX5_lowerBy 0 = .ok (.iconst 0, 1) := by decide +kernel
theorem dX5_lowerBy_1 : decode cX5_lowerBy 1 = .ok (.istore_n 3, 1) := by decide +kernel
theorem dX5_lowerBy_2 : decode cX5_lowerBy 2 = .ok (.iload_n 3, 1) := by decide +kernel
theorem dX5_lowerBy_3 : decode cX5_lowerBy 3 = .ok (.bipush 64, 2) := by decide +kernel
theorem dX5_lowerBy_5 : decode cX5_lowerBy 5 = .ok (.if_icmp .ge 52, 3) := by decide +kernel
theorem dX5_lowerBy_8 : decode cX5_lowerBy 8 = .ok (.aload_n 0, 1) := by decide +kernel
theorem dX5_lowerBy_9 : decode cX5_lowerBy 9 = .ok (.getfield 24, 3) := by decide +kernel
theorem dX5_lowerBy_12 : decode cX5_lowerBy 12 = .ok (.iload_n 3, 1) := by decide +kernel
theorem dX5_lowerBy_13 : decode cX5_lowerBy 13 = .ok (.iaload, 1) := by decide +kernel
theorem dX5_lowerBy_14 : decode cX5_lowerBy 14 = .ok (.istore 4, 2) := by decide +kernel
theorem dX5_lowerBy_16 : decode cX5_lowerBy 16 = .ok (.aload_n 2, 1) := by decide +kernel
theorem dX5_lowerBy_17 : decode cX5_lowerBy 17 = .ok (.iload_n 3, 1) := by decide +kernel
theorem dX5_lowerBy_18 : decode cX5_lowerBy 18 = .ok (.invokevirtual 108, 3) := by decide +kernel
theorem dX5_lowerBy_21 : decode cX5_lowerBy 21 = .ok (.ifCond .eq 30, 3) := by decide +kernel
theorem dX5_lowerBy_24 : decode cX5_lowerBy 24 = .ok (.iload 4, 2) := by decide +kernel
theorem dX5_lowerBy_26 : decode cX5_lowerBy 26 = .ok (.iconst (-1), 1) := by decide +kernel
theorem dX5_lowerBy_27 : decode cX5_lowerBy 27 = .ok (.if_icmp .eq 17, 3) := by decide +kernel
theorem dX5_lowerBy_30 : decode cX5_lowerBy 30 = .ok (.aload_n 0, 1) := by decide +kernel
theorem dX5_lowerBy_31 : decode cX5_lowerBy 31 = .ok (.getfield 27, 3) := by decide +kernel
theorem dX5_lowerBy_34 : decode cX5_lowerBy 34 = .ok (.iload_n 1, 1) := by decide +kernel
theorem dX5_lowerBy_35 : decode cX5_lowerBy 35 = .ok (.iload 4, 2) := by decide +kernel
theorem dX5_lowerBy_37 : decode cX5_lowerBy 37 = .ok (.iload_n 3, 1) := by decide +kernel
theorem dX5_lowerBy_38 : decode cX5_lowerBy 38 = .ok (.invokevirtual 97, 3) := by decide +kernel
theorem dX5_lowerBy_41 : decode cX5_lowerBy 41 = .ok (.ifCond .eq 10, 3) := by decide +kernel
theorem dX5_lowerBy_44 : decode cX5_lowerBy 44 = .ok (.aload_n 0, 1) := by decide +kernel
theorem dX5_lowerBy_45 : decode cX5_lowerBy 45 = .ok (.getfield 24, 3) := by decide +kernel
theorem dX5_lowerBy_48 : decode cX5_lowerBy 48 = .ok (.iload_n 3, 1) := by decide +kernel
theorem dX5_lowerBy_49 : decode cX5_lowerBy 49 = .ok (.iload_n 1, 1) := by decide +kernel
theorem dX5_lowerBy_50 : decode cX5_lowerBy 50 = .ok (.iastore, 1) := by decide +kernel
theorem dX5_lowerBy_51 : decode cX5_lowerBy 51 = .ok (.iinc 3 1, 3) := by decide +kernel
theorem dX5_lowerBy_54 : decode cX5_lowerBy 54 = .ok (.goto (-52), 3) := by decide +kernel
theorem dX5_lowerBy_57 : decode cX5_lowerBy 57 = .ok (.return_, 1) := by decide +kernel
theorem dX5_bestAbove_0 : decode cX5_bestAbove 0 = .ok (.iconst (-1), 1) := by decide +kernel
theorem dX5_bestAbove_1 : decode cX5_bestAbove 1 = .ok (.istore_n 2, 1) := by decide +kernel
theorem dX5_bestAbove_2 : decode cX5_bestAbove 2 = .ok (.bipush 64, 2) := by decide +kernel
theorem dX5_bestAbove_4 : decode cX5_bestAbove 4 = .ok (.iload_n 1, 1) := by decide +kernel
theorem dX5_bestAbove_5 : decode cX5_bestAbove 5 = .ok (.iadd, 1) := by decide +kernel
theorem dX5_bestAbove_6 : decode cX5_bestAbove 6 = .ok (.istore_n 3, 1) := by decide +kernel
theorem dX5_bestAbove_7 : decode cX5_bestAbove 7 = .ok (.iload_n 3, 1) := by decide +kernel
theorem dX5_bestAbove_8 : decode cX5_bestAbove 8 = .ok (.iconst 1, 1) := by decide +kernel
theorem dX5_bestAbove_9 : decode cX5_bestAbove 9 = .ok (.if_icmp .lt 45, 3) := by decide +kernel
theorem dX5_bestAbove_12 : decode cX5_bestAbove 12 = .ok (.aload_n 0, 1) := by decide +kernel
theorem dX5_bestAbove_13 : decode cX5_bestAbove 13 = .ok (.iload_n 3, 1) := by decide +kernel
theorem dX5_bestAbove_14 : decode cX5_bestAbove 14 = .ok (.invokevirtual 111, 3) := by decide +kernel
theorem dX5_bestAbove_17 : decode cX5_bestAbove 17 = .ok (.istore 4, 2) := by decide +kernel
theorem dX5_bestAbove_19 : decode cX5_bestAbove 19 = .ok (.iload 4, 2) := by decide +kernel
theorem dX5_bestAbove_21 : decode cX5_bestAbove 21 = .ok (.iconst (-1), 1) := by decide +kernel
theorem dX5_bestAbove_22 : decode cX5_bestAbove 22 = .ok (.if_icmp .eq 25, 3) := by decide +kernel
theorem dX5_bestAbove_25 : decode cX5_bestAbove 25 = .ok (.iload_n 2, 1) := by decide +kernel
theorem dX5_bestAbove_26 : decode cX5_bestAbove 26 = .ok (.iconst (-1), 1) := by decide +kernel
theorem dX5_bestAbove_27 : decode cX5_bestAbove 27 = .ok (.if_icmp .eq 17, 3) := by decide +kernel
theorem dX5_bestAbove_30 : decode cX5_bestAbove 30 = .ok (.aload_n 0, 1) := by decide +kernel
theorem dX5_bestAbove_31 : decode cX5_bestAbove 31 = .ok (.getfield 27, 3) := by decide +kernel
theorem dX5_bestAbove_34 : decode cX5_bestAbove 34 = .ok (.iload 4, 2) := by decide +kernel
theorem dX5_bestAbove_36 : decode cX5_bestAbove 36 = .ok (.iload_n 2, 1) := by decide +kernel
theorem dX5_bestAbove_37 : decode cX5_bestAbove 37 = .ok (.iload_n 1, 1) := by decide +kernel
theorem dX5_bestAbove_38 : decode cX5_bestAbove 38 = .ok (.invokevirtual 97, 3) := by decide +kernel
theorem dX5_bestAbove_41 : decode cX5_bestAbove 41 = .ok (.ifCond .eq 6, 3) := by decide +kernel
theorem dX5_bestAbove_44 : decode cX5_bestAbove 44 = .ok (.iload 4, 2) := by decide +kernel
theorem dX5_bestAbove_46 : decode cX5_bestAbove 46 = .ok (.istore_n 2, 1) := by decide +kernel
theorem dX5_bestAbove_47 : decode cX5_bestAbove 47 = .ok (.iload_n 3, 1) := by decide +kernel
theorem dX5_bestAbove_48 : decode cX5_bestAbove 48 = .ok (.iconst 2, 1) := by decide +kernel
theorem dX5_bestAbove_49 : decode cX5_bestAbove 49 = .ok (.idiv, 1) := by decide +kernel
theorem dX5_bestAbove_50 : decode cX5_bestAbove 50 = .ok (.istore_n 3, 1) := by decide +kernel
theorem dX5_bestAbove_51 : decode cX5_bestAbove 51 = .ok (.goto (-44), 3) := by decide +kernel
theorem dX5_bestAbove_54 : decode cX5_bestAbove 54 = .ok (.iload_n 2, 1) := by decide +kernel
theorem dX5_bestAbove_55 : decode cX5_bestAbove 55 = .ok (.ireturn, 1) := by decide +kernel
theorem dJ11_isValidCodePoint_9a6ad_0 : decode cJ11_isValidCodePoint_9a6ad 0 = .ok (.iload_n 0, 1) := by decide +kernel
theorem dJ11_isValidCodePoint_9a6ad_1 : decode cJ11_isValidCodePoint_9a6ad 1 = .ok (.bipush 16, 2) := by decide +kernel
theorem dJ11_isValidCodePoint_9a6ad_3 : decode cJ11_isValidCodePoint_9a6ad 3 = .ok (.iushr, 1) := by decide +kernel
theorem dJ11_isValidCodePoint_9a6ad_4 : decode cJ11_isValidCodePoint_9a6ad 4 = .ok (.istore_n 1, 1) := by decide +kernel
theorem dJ11_isValidCodePoint_9a6ad_5 : decode cJ11_isValidCodePoint_9a6ad 5 = .ok (.iload_n 1, 1) := by decide +kernel
theorem dJ11_isValidCodePoint_9a6ad_6 : decode cJ11_isValidCodePoint_9a6ad 6 = .ok (.bipush 17, 2) := by decide +kernel
theorem dJ11_isValidCodePoint_9a6ad_8 : decode cJ11_isValidCodePoint_9a6ad 8 = .ok (.if_icmp .ge 7, 3) := by decide +kernel
theorem dJ11_isValidCodePoint_9a6ad_11 : decode cJ11_isValidCodePoint_9a6ad 11 = .ok (.iconst 1, 1) := by decide +kernel
theorem dJ11_isValidCodePoint_9a6ad_12 : decode cJ11_isValidCodePoint_9a6ad 12 = .ok (.goto 4, 3) := by decide +kernel
theorem dJ11_isValidCodePoint_9a6ad_15 : decode cJ11_isValidCodePoint_9a6ad 15 = .ok (.iconst 0, 1) := by decide +kernel
theorem dJ11_isValidCodePoint_9a6ad_16 : decode cJ11_isValidCodePoint_9a6ad 16 = .ok (.ireturn, 1) := by decide +kernel
theorem dJ11_highSurrogate_5068e_0 : decode cJ11_highSurrogate_5068e 0 = .ok (.iload_n 0, 1) := by decide +kernel
theorem dJ11_highSurrogate_5068e_1 : decode cJ11_highSurrogate_5068e 1 = .ok (.bipush 10, 2) := by decide +kernel
theorem dJ11_highSurrogate_5068e_3 : decode cJ11_highSurrogate_5068e 3 = .ok (.iushr, 1) := by decide +kernel
theorem dJ11_highSurrogate_5068e_4 : decode cJ11_highSurrogate_5068e 4 = .ok (.ldc 110, 2) := by decide +kernel
theorem dJ11_highSurrogate_5068e_6 : decode cJ11_highSurrogate_5068e 6 = .ok (.iadd, 1) := by decide +kernel
theorem dJ11_highSurrogate_5068e_7 : decode cJ11_highSurrogate_5068e 7 = .ok (.i2c, 1) := by decide +kernel
theorem dJ11_highSurrogate_5068e_8 : decode cJ11_highSurrogate_5068e 8 = .ok (.ireturn, 1) := by decide +kernel
theorem dJ11_lowSurrogate_5068e_0 : decode cJ11_lowSurrogate_5068e 0 = .ok (.iload_n 0, 1) := by decide +kernel
theorem dJ11_lowSurrogate_5068e_1 : decode cJ11_lowSurrogate_5068e 1 = .ok (.sipush 1023, 3) := by decide +kernel
theorem dJ11_lowSurrogate_5068e_4 : decode cJ11_lowSurrogate_5068e 4 = .ok (.iand, 1) := by decide +kernel
theorem dJ11_lowSurrogate_5068e_5 : decode cJ11_lowSurrogate_5068e 5 = .ok (.ldc 76, 2) := by decide +kernel
theorem dJ11_lowSurrogate_5068e_7 : decode cJ11_lowSurrogate_5068e 7 = .ok (.iadd, 1) := by decide +kernel
theorem dJ11_lowSurrogate_5068e_8 : decode cJ11_lowSurrogate_5068e 8 = .ok (.i2c, 1) := by decide +kernel
theorem dJ11_lowSurrogate_5068e_9 : decode cJ11_lowSurrogate_5068e 9 = .ok (.ireturn, 1) := by decide +kernel
theorem dJ9_floorDiv_7cf53_0 : decode cJ9_floorDiv_7cf53 0 = .ok (.iload_n 0, 1) := by decide +kernel
theorem dJ9_floorDiv_7cf53_1 : decode cJ9_floorDiv_7cf53 1 = .ok (.iload_n 1, 1) := by decide +kernel
theorem dJ9_floorDiv_7cf53_2 : decode cJ9_floorDiv_7cf53 2 = .ok (.idiv, 1) := by decide +kernel
theorem dJ9_floorDiv_7cf53_3 : decode cJ9_floorDiv_7cf53 3 = .ok (.istore_n 2, 1) := by decide +kernel
theorem dJ9_floorDiv_7cf53_4 : decode cJ9_floorDiv_7cf53 4 = .ok (.iload_n 0, 1) := by decide +kernel
theorem dJ9_floorDiv_7cf53_5 : decode cJ9_floorDiv_7cf53 5 = .ok (.iload_n 1, 1) := by decide +kernel
theorem dJ9_floorDiv_7cf53_6 : decode cJ9_floorDiv_7cf53 6 = .ok (.ixor, 1) := by decide +kernel
theorem dJ9_floorDiv_7cf53_7 : decode cJ9_floorDiv_7cf53 7 = .ok (.ifCond .ge 14, 3) := by decide +kernel
theorem dJ9_floorDiv_7cf53_10 : decode cJ9_floorDiv_7cf53 10 = .ok (.iload_n 2, 1) := by decide +kernel
theorem dJ9_floorDiv_7cf53_11 : decode cJ9_floorDiv_7cf53 11 = .ok (.iload_n 1, 1) := by decide +kernel
theorem dJ9_floorDiv_7cf53_12 : decode cJ9_floorDiv_7cf53 12 = .ok (.imul, 1) := by decide +kernel
theorem dJ9_floorDiv_7cf53_13 : decode cJ9_floorDiv_7cf53 13 = .ok (.iload_n 0, 1) := by decide +kernel
theorem dJ9_floorDiv_7cf53_14 : decode cJ9_floorDiv_7cf53 14 = .ok (.if_icmp .eq 7, 3) := by decide +kernel
theorem dJ9_floorDiv_7cf53_17 : decode cJ9_floorDiv_7cf53 17 = .ok (.iload_n 2, 1) := by decide +kernel
theorem dJ9_floorDiv_7cf53_18 : decode cJ9_floorDiv_7cf53 18 = .ok (.iconst 1, 1) := by decide +kernel
theorem dJ9_floorDiv_7cf53_19 : decode cJ9_floorDiv_7cf53 19 = .ok (.isub, 1) := by decide +kernel
theorem dJ9_floorDiv_7cf53_20 : decode cJ9_floorDiv_7cf53 20 = .ok (.ireturn, 1) := by decide +kernel
theorem dJ9_floorDiv_7cf53_21 : decode cJ9_floorDiv_7cf53 21 = .ok (.iload_n 2, 1) := by decide +kernel
theorem dJ9_floorDiv_7cf53_22 : decode cJ9_floorDiv_7cf53 22 = .ok (.ireturn, 1) := by decide +kernel
theorem dJ9_max_7cf53_0 : decode cJ9_max_7cf53 0 = .ok (.iload_n 0, 1) := by decide +kernel
theorem dJ9_max_7cf53_1 : decode cJ9_max_7cf53 1 = .ok (.iload_n 1, 1) := by decide +kernel
theorem dJ9_max_7cf53_2 : decode cJ9_max_7cf53 2 = .ok (.if_icmp .lt 7, 3) := by decide +kernel
theorem dJ9_max_7cf53_5 : decode cJ9_max_7cf53 5 = .ok (.iload_n 0, 1) := by decide +kernel
theorem dJ9_max_7cf53_6 : decode cJ9_max_7cf53 6 = .ok (.goto 4, 3) := by decide +kernel
theorem dJ9_max_7cf53_9 : decode cJ9_max_7cf53 9 = .ok (.iload_n 1, 1) := by decide +kernel
theorem dJ9_max_7cf53_10 : decode cJ9_max_7cf53 10 = .ok (.ireturn, 1) := by decide +kernel
theorem dJ9_min_7cf53_0 : decode cJ9_min_7cf53 0 = .ok (.iload_n 0, 1) := by decide +kernel
theorem dJ9_min_7cf53_1 : decode cJ9_min_7cf53 1 = .ok (.iload_n 1, 1) := by decide +kernel
theorem dJ9_min_7cf53_2 : decode cJ9_min_7cf53 2 = .ok (.if_icmp .gt 7, 3) := by decide +kernel
theorem dJ9_min_7cf53_5 : decode cJ9_min_7cf53 5 = .ok (.iload_n 0, 1) := by decide +kernel
theorem dJ9_min_7cf53_6 : decode cJ9_min_7cf53 6 = .ok (.goto 4, 3) := by decide +kernel
theorem dJ9_min_7cf53_9 : decode cJ9_min_7cf53 9 = .ok (.iload_n 1, 1) := by decide +kernel
theorem dJ9_min_7cf53_10 : decode cJ9_min_7cf53 10 = .ok (.ireturn, 1) := by decide +kernel
theorem dJ0_length_8abf5_0 : decode cJ0_length_8abf5 0 = .ok (.aload_n 0, 1) := by decide +kernel
theorem dJ0_length_8abf5_1 : decode cJ0_length_8abf5 1 = .ok (.getfield 9, 3) := by decide +kernel
theorem dJ0_length_8abf5_4 : decode cJ0_length_8abf5 4 = .ok (.arraylength, 1) := by decide +kernel
theorem dJ0_length_8abf5_5 : decode cJ0_length_8abf5 5 = .ok (.aload_n 0, 1) := by decide +kernel
theorem dJ0_length_8abf5_6 : decode cJ0_length_8abf5 6 = .ok (.invokevirtual 335, 3) := by decide +kernel
theorem dJ0_length_8abf5_9 : decode cJ0_length_8abf5 9 = .ok (.ishr, 1) := by decide +kernel
theorem dJ0_length_8abf5_10 : decode cJ0_length_8abf5 10 = .ok (.ireturn, 1) := by decide +kernel
theorem dJ0_indexOf_0f7a4_0 : decode cJ0_indexOf_0f7a4 0 = .ok (.aload_n 0, 1) := by decide +kernel
theorem dJ0_indexOf_0f7a4_1 : decode cJ0_indexOf_0f7a4 1 = .ok (.iload_n 1, 1) := by decide +kernel
theorem dJ0_indexOf_0f7a4_2 : decode cJ0_indexOf_0f7a4 2 = .ok (.iconst 0, 1) := by decide +kernel
theorem dJ0_indexOf_0f7a4_3 : decode cJ0_indexOf_0f7a4 3 = .ok (.invokevirtual 633, 3) := by decide +kernel
theorem dJ0_indexOf_0f7a4_6 : decode cJ0_indexOf_0f7a4 6 = .ok (.ireturn, 1) := by decide +kernel
theorem dJ0_indexOf_7cf53_0 : decode cJ0_indexOf_7cf53 0 = .ok (.aload_n 0, 1) := by decide +kernel
theorem dJ0_indexOf_7cf53_1 : decode cJ0_indexOf_7cf53 1 = .ok (.invokevirtual 492, 3) := by decide +kernel
theorem dJ0_indexOf_7cf53_4 : decode cJ0_indexOf_7cf53 4 = .ok (.ifCond .eq 19, 3) := by decide +kernel
theorem dJ0_indexOf_7cf53_7 : decode cJ0_indexOf_7cf53 7 = .ok (.aload_n 0, 1) := by decide +kernel
theorem dJ0_indexOf_7cf53_8 : decode cJ0_indexOf_7cf53 8 = .ok (.getfield 9, 3) := by decide +kernel
theorem dJ0_indexOf_7cf53_11 : decode cJ0_indexOf_7cf53 11 = .ok (.iload_n 1, 1) := by decide +kernel
theorem dJ0_indexOf_7cf53_12 : decode cJ0_indexOf_7cf53 12 = .ok (.iload_n 2, 1) := by decide +kernel
theorem dJ0_indexOf_7cf53_13 : decode cJ0_indexOf_7cf53 13 = .ok (.aload_n 0, 1) := by decide +kernel
theorem dJ0_indexOf_7cf53_14 : decode cJ0_indexOf_7cf53 14 = .ok (.invokevirtual 505, 3) := by decide +kernel
theorem dJ0_indexOf_7cf53_17 : decode cJ0_indexOf_7cf53 17 = .ok (.invokestatic 637, 3) := by decide +kernel
theorem dJ0_indexOf_7cf53_20 : decode cJ0_indexOf_7cf53 20 = .ok (.goto 16, 3) := by decide +kernel
theorem dJ0_indexOf_7cf53_23 : decode cJ0_indexOf_7cf53 23 = .ok (.aload_n 0, 1) := by decide +kernel
theorem dJ0_indexOf_7cf53_24 : decode cJ0_indexOf_7cf53 24 = .ok (.getfield 9, 3) := by decide +kernel
theorem dJ0_indexOf_7cf53_27 : decode cJ0_indexOf_7cf53 27 = .ok (.iload_n 1, 1) := by decide +kernel
theorem dJ0_indexOf_7cf53_28 : decode cJ0_indexOf_7cf53 28 = .ok (.iload_n 2, 1) := by decide +kernel
theorem dJ0_indexOf_7cf53_29 : decode cJ0_indexOf_7cf53 29 = .ok (.aload_n 0, 1) := by decide +kernel
theorem dJ0_indexOf_7cf53_30 : decode cJ0_indexOf_7cf53 30 = .ok (.invokevirtual 505, 3) := by decide +kernel
theorem dJ0_indexOf_7cf53_33 : decode cJ0_indexOf_7cf53 33 = .ok (.invokestatic 640, 3) := by decide +kernel
theorem dJ0_indexOf_7cf53_36 : decode cJ0_indexOf_7cf53 36 = .ok (.ireturn, 1) := by decide +kernel
theorem dJ0_coder_7d493_0 : decode cJ0_coder_7d493 0 = .ok (.getstatic 38, 3) := by decide +kernel
theorem dJ0_coder_7d493_3 : decode cJ0_coder_7d493 3 = .ok (.ifCond .eq 10, 3) := by decide +kernel
theorem dJ0_coder_7d493_6 : decode cJ0_coder_7d493 6 = .ok (.aload_n 0, 1) := by decide +kernel
theorem dJ0_coder_7d493_7 : decode cJ0_coder_7d493 7 = .ok (.getfield 15, 3) := by decide +kernel
theorem dJ0_coder_7d493_10 : decode cJ0_coder_7d493 10 = .ok (.goto 4, 3) := by decide +kernel
theorem dJ0_coder_7d493_13 : decode cJ0_coder_7d493 13 = .ok (.iconst 1, 1) := by decide +kernel
theorem dJ0_coder_7d493_14 : decode cJ0_coder_7d493 14 = .ok (.ireturn, 1) := by decide +kernel
theorem dJ0_isLatin1_aae02_0 : decode cJ0_isLatin1_aae02 0 = .ok (.getstatic 38, 3) := by decide +kernel
theorem dJ0_isLatin1_aae02_3 : decode cJ0_isLatin1_aae02 3 = .ok (.ifCond .eq 14, 3) := by decide +kernel
theorem dJ0_isLatin1_aae02_6 : decode cJ0_isLatin1_aae02 6 = .ok (.aload_n 0, 1) := by decide +kernel
theorem dJ0_isLatin1_aae02_7 : decode cJ0_isLatin1_aae02 7 = .ok (.getfield 15, 3) := by decide +kernel
theorem dJ0_isLatin1_aae02_10 : decode cJ0_isLatin1_aae02 10 = .ok (.ifCond .ne 7, 3) := by decide +kernel
theorem dJ0_isLatin1_aae02_13 : decode cJ0_isLatin1_aae02 13 = .ok (.iconst 1, 1) := by decide +kernel
theorem dJ0_isLatin1_aae02_14 : decode cJ0_isLatin1_aae02 14 = .ok (.goto 4, 3) := by decide +kernel
theorem dJ0_isLatin1_aae02_17 : decode cJ0_isLatin1_aae02 17 = .ok (.iconst 0, 1) := by decide +kernel
theorem dJ0_isLatin1_aae02_18 : decode cJ0_isLatin1_aae02 18 = .ok (.ireturn, 1) := by decide +kernel
theorem dJ0_checkBoundsBeginEnd_23922_0 : decode cJ0_checkBoundsBeginEnd_23922 0 = .ok (.iload_n 0, 1) := by decide +kernel
theorem dJ0_checkBoundsBeginEnd_23922_1 : decode cJ0_checkBoundsBeginEnd_23922 1 = .ok (.iload_n 1, 1) := by decide +kernel
theorem dJ0_checkBoundsBeginEnd_23922_2 : decode cJ0_checkBoundsBeginEnd_23922 2 = .ok (.iload_n 2, 1) := by decide +kernel
theorem dJ0_checkBoundsBeginEnd_23922_3 : decode cJ0_checkBoundsBeginEnd_23922 3 = .ok (.getstatic 1053, 3) := by decide +kernel
theorem dJ0_checkBoundsBeginEnd_23922_6 : decode cJ0_checkBoundsBeginEnd_23922 6 = .ok (.invokestatic 1062, 3) := by decide +kernel
theorem dJ0_checkBoundsBeginEnd_23922_9 : decode cJ0_checkBoundsBeginEnd_23922 9 = .ok (.pop, 1) := by decide +kernel
theorem dJ0_checkBoundsBeginEnd_23922_10 : decode cJ0_checkBoundsBeginEnd_23922 10 = .ok (.return_, 1) := by decide +kernel
theorem dJ1_canEncode_9a6ad_0 : decode cJ1_canEncode_9a6ad 0 = .ok (.iload_n 0, 1) := by decide +kernel
theorem dJ1_canEncode_9a6ad_1 : decode cJ1_canEncode_9a6ad 1 = .ok (.ifCond .lt 14, 3) := by decide +kernel
theorem dJ1_canEncode_9a6ad_4 : decode cJ1_canEncode_9a6ad 4 = .ok (.iload_n 0, 1) := by decide +kernel
theorem dJ1_canEncode_9a6ad_5 : decode cJ1_canEncode_9a6ad 5 = .ok (.sipush 255, 3) := by decide +kernel
theorem dJ1_canEncode_9a6ad_8 : decode cJ1_canEncode_9a6ad 8 = .ok (.if_icmp .gt 7, 3) := by decide +kernel
theorem dJ1_canEncode_9a6ad_11 : decode cJ1_canEncode_9a6ad 11 = .ok (.iconst 1, 1) := by decide +kernel
theorem dJ1_canEncode_9a6ad_12 : decode cJ1_canEncode_9a6ad 12 = .ok (.goto 4, 3) := by decide +kernel
theorem dJ1_canEncode_9a6ad_15 : decode cJ1_canEncode_9a6ad 15 = .ok (.iconst 0, 1) := by decide +kernel
theorem dJ1_canEncode_9a6ad_16 : decode cJ1_canEncode_9a6ad 16 = .ok (.ireturn, 1) := by decide +kernel
theorem dJ1_indexOf_4cfef_0 : decode cJ1_indexOf_4cfef 0 = .ok (.iload_n 1, 1) := by decide +kernel
theorem dJ1_indexOf_4cfef_1 : decode cJ1_indexOf_4cfef 1 = .ok (.invokestatic 88, 3) := by decide +kernel
theorem dJ1_indexOf_4cfef_4 : decode cJ1_indexOf_4cfef 4 = .ok (.ifCond .ne 5, 3) := by decide +kernel
theorem dJ1_indexOf_4cfef_7 : decode cJ1_indexOf_4cfef 7 = .ok (.iconst (-1), 1) := by decide +kernel
theorem dJ1_indexOf_4cfef_8 : decode cJ1_indexOf_4cfef 8 = .ok (.ireturn, 1) := by decide +kernel
theorem dJ1_indexOf_4cfef_9 : decode cJ1_indexOf_4cfef 9 = .ok (.iload_n 2, 1) := by decide +kernel
theorem dJ1_indexOf_4cfef_10 : decode cJ1_indexOf_4cfef 10 = .ok (.iconst 0, 1) := by decide +kernel
theorem dJ1_indexOf_4cfef_11 : decode cJ1_indexOf_4cfef 11 = .ok (.invokestatic 92, 3) := by decide +kernel
theorem dJ1_indexOf_4cfef_14 : decode cJ1_indexOf_4cfef 14 = .ok (.istore_n 2, 1) := by decide +kernel
theorem dJ1_indexOf_4cfef_15 : decode cJ1_indexOf_4cfef 15 = .ok (.iload_n 3, 1) := by decide +kernel
theorem dJ1_indexOf_4cfef_16 : decode cJ1_indexOf_4cfef 16 = .ok (.aload_n 0, 1) := by decide +kernel
theorem dJ1_indexOf_4cfef_17 : decode cJ1_indexOf_4cfef 17 = .ok (.arraylength, 1) := by decide +kernel
theorem dJ1_indexOf_4cfef_18 : decode cJ1_indexOf_4cfef 18 = .ok (.invokestatic 38, 3) := by decide +kernel
theorem dJ1_indexOf_4cfef_21 : decode cJ1_indexOf_4cfef 21 = .ok (.istore_n 3, 1) := by decide +kernel
theorem dJ1_indexOf_4cfef_22 : decode cJ1_indexOf_4cfef 22 = .ok (.iload_n 2, 1) := by decide +kernel
theorem dJ1_indexOf_4cfef_23 : decode cJ1_indexOf_4cfef 23 = .ok (.iload_n 3, 1) := by decide +kernel
theorem dJ1_indexOf_4cfef_24 : decode cJ1_indexOf_4cfef 24 = .ok (.if_icmp .lt 5, 3) := by decide +kernel
theorem dJ1_indexOf_4cfef_27 : decode cJ1_indexOf_4cfef 27 = .ok (.iconst (-1), 1) := by decide +kernel
theorem dJ1_indexOf_4cfef_28 : decode cJ1_indexOf_4cfef 28 = .ok (.ireturn, 1) := by decide +kernel
theorem dJ1_indexOf_4cfef_29 : decode cJ1_indexOf_4cfef 29 = .ok (.aload_n 0, 1) := by decide +kernel
theorem dJ1_indexOf_4cfef_30 : decode cJ1_indexOf_4cfef 30 = .ok (.iload_n 1, 1) := by decide +kernel
theorem dJ1_indexOf_4cfef_31 : decode cJ1_indexOf_4cfef 31 = .ok (.iload_n 2, 1) := by decide +kernel
theorem dJ1_indexOf_4cfef_32 : decode cJ1_indexOf_4cfef 32 = .ok (.iload_n 3, 1) := by decide +kernel
theorem dJ1_indexOf_4cfef_33 : decode cJ1_indexOf_4cfef 33 = .ok (.invokestatic 95, 3) := by decide +kernel
theorem dJ1_indexOf_4cfef_36 : decode cJ1_indexOf_4cfef 36 = .ok (.ireturn, 1) := by decide +kernel
theorem dJ1_indexOfChar_4cfef_0 : decode cJ1_indexOfChar_4cfef 0 = .ok (.iload_n 1, 1) := by decide +kernel
theorem dJ1_indexOfChar_4cfef_1 : decode cJ1_indexOfChar_4cfef 1 = .ok (.i2b, 1) := by decide +kernel
theorem dJ1_indexOfChar_4cfef_2 : decode cJ1_indexOfChar_4cfef 2 = .ok (.istore 4, 2) := by decide +kernel
theorem dJ1_indexOfChar_4cfef_4 : decode cJ1_indexOfChar_4cfef 4 = .ok (.iload_n 2, 1) := by decide +kernel
theorem dJ1_indexOfChar_4cfef_5 : decode cJ1_indexOfChar_4cfef 5 = .ok (.istore 5, 2) := by decide +kernel
theorem dJ1_indexOfChar_4cfef_7 : decode cJ1_indexOfChar_4cfef 7 = .ok (.iload 5, 2) := by decide +kernel
theorem dJ1_indexOfChar_4cfef_9 : decode cJ1_indexOfChar_4cfef 9 = .ok (.iload_n 3, 1) := by decide +kernel
theorem dJ1_indexOfChar_4cfef_10 : decode cJ1_indexOfChar_4cfef 10 = .ok (.if_icmp .ge 21, 3) := by decide +kernel
theorem dJ1_indexOfChar_4cfef_13 : decode cJ1_indexOfChar_4cfef 13 = .ok (.aload_n 0, 1) := by decide +kernel
theorem dJ1_indexOfChar_4cfef_14 : decode cJ1_indexOfChar_4cfef 14 = .ok (.iload 5, 2) := by decide +kernel
theorem dJ1_indexOfChar_4cfef_16 : decode cJ1_indexOfChar_4cfef 16 = .ok (.baload, 1) := by decide +kernel
theorem dJ1_indexOfChar_4cfef_17 : decode cJ1_indexOfChar_4cfef 17 = .ok (.iload 4, 2) := by decide +kernel
theorem dJ1_indexOfChar_4cfef_19 : decode cJ1_indexOfChar_4cfef 19 = .ok (.if_icmp .ne 6, 3) := by decide +kernel
theorem dJ1_indexOfChar_4cfef_22 : decode cJ1_indexOfChar_4cfef 22 = .ok (.iload 5, 2) := by decide +kernel
theorem dJ1_indexOfChar_4cfef_24 : decode cJ1_indexOfChar_4cfef 24 = .ok (.ireturn, 1) := by decide +kernel
theorem dJ1_indexOfChar_4cfef_25 : decode cJ1_indexOfChar_4cfef 25 = .ok (.iinc 5 1, 3) := by decide +kernel
theorem dJ1_indexOfChar_4cfef_28 : decode cJ1_indexOfChar_4cfef 28 = .ok (.goto (-21), 3) := by decide +kernel
theorem dJ1_indexOfChar_4cfef_31 : decode cJ1_indexOfChar_4cfef 31 = .ok (.iconst (-1), 1) := by decide +kernel
theorem dJ1_indexOfChar_4cfef_32 : decode cJ1_indexOfChar_4cfef 32 = .ok (.ireturn, 1) := by decide +kernel
theorem dJ2_getChar_3b067_0 : decode cJ2_getChar_3b067 0 = .ok (.getstatic 44, 3) := by decide +kernel
theorem dJ2_getChar_3b067_3 : decode cJ2_getChar_3b067 3 = .ok (.ifCond .ne 25, 3) := by decide +kernel
theorem dJ2_getChar_3b067_6 : decode cJ2_getChar_3b067 6 = .ok (.iload_n 1, 1) := by decide +kernel
theorem dJ2_getChar_3b067_7 : decode cJ2_getChar_3b067 7 = .ok (.ifCond .lt 11, 3) := by decide +kernel
theorem dJ2_getChar_3b067_10 : decode cJ2_getChar_3b067 10 = .ok (.iload_n 1, 1) := by decide +kernel
theorem dJ2_getChar_3b067_11 : decode cJ2_getChar_3b067 11 = .ok (.aload_n 0, 1) := by decide +kernel
theorem dJ2_getChar_3b067_12 : decode cJ2_getChar_3b067 12 = .ok (.invokestatic 48, 3) := by decide +kernel
theorem dJ2_getChar_3b067_15 : decode cJ2_getChar_3b067 15 = .ok (.if_icmp .lt 13, 3) := by decide +kernel
theorem dJ2_getChar_3b067_18 : decode cJ2_getChar_3b067 18 = .ok (.new 52, 3) := by decide +kernel
theorem dJ2_getChar_3b067_21 : decode cJ2_getChar_3b067 21 = .ok (.dup, 1) := by decide +kernel
theorem dJ2_getChar_3b067_22 : decode cJ2_getChar_3b067 22 = .ok (.ldc 54, 2) := by decide +kernel
theorem dJ2_getChar_3b067_24 : decode cJ2_getChar_3b067 24 = .ok (.invokespecial 56, 3) := by decide +kernel
theorem dJ2_getChar_3b067_27 : decode cJ2_getChar_3b067 27 = .ok (.athrow, 1) := by decide +kernel
theorem dJ2_getChar_3b067_28 : decode cJ2_getChar_3b067 28 = .ok (.iload_n 1, 1) := by decide +kernel
theorem dJ2_getChar_3b067_29 : decode cJ2_getChar_3b067 29 = .ok (.iconst 1, 1) := by decide +kernel
theorem dJ2_getChar_3b067_30 : decode cJ2_getChar_3b067 30 = .ok (.ishl, 1) := by decide +kernel
theorem dJ2_getChar_3b067_31 : decode cJ2_getChar_3b067 31 = .ok (.istore_n 1, 1) := by decide +kernel
theorem dJ2_getChar_3b067_32 : decode cJ2_getChar_3b067 32 = .ok (.aload_n 0, 1) := by decide +kernel
theorem dJ2_getChar_3b067_33 : decode cJ2_getChar_3b067 33 = .ok (.iload_n 1, 1) := by decide +kernel
theorem dJ2_getChar_3b067_34 : decode cJ2_getChar_3b067 34 = .ok (.iinc 1 1, 3) := by decide +kernel
theorem dJ2_getChar_3b067_37 : decode cJ2_getChar_3b067 37 = .ok (.baload, 1) := by decide +kernel
theorem dJ2_getChar_3b067_38 : decode cJ2_getChar_3b067 38 = .ok (.sipush 255, 3) := by decide +kernel
theorem dJ2_getChar_3b067_41 : decode cJ2_getChar_3b067 41 = .ok (.iand, 1) := by decide +kernel
theorem dJ2_getChar_3b067_42 : decode cJ2_getChar_3b067 42 = .ok (.getstatic 59, 3) := by decide +kernel
theorem dJ2_getChar_3b067_45 : decode cJ2_getChar_3b067 45 = .ok (.ishl, 1) := by decide +kernel
theorem dJ2_getChar_3b067_46 : decode cJ2_getChar_3b067 46 = .ok (.aload_n 0, 1) := by decide +kernel
theorem dJ2_getChar_3b067_47 : decode cJ2_getChar_3b067 47 = .ok (.iload_n 1, 1) := by decide +kernel
theorem dJ2_getChar_3b067_48 : decode cJ2_getChar_3b067 48 = .ok (.baload, 1) := by decide +kernel
theorem dJ2_getChar_3b067_49 : decode cJ2_getChar_3b067 49 = .ok (.sipush 255, 3) := by decide +kernel
theorem dJ2_getChar_3b067_52 : decode cJ2_getChar_3b067 52 = .ok (.iand, 1) := by decide +kernel
theorem dJ2_getChar_3b067_53 : decode cJ2_getChar_3b067 53 = .ok (.getstatic 63, 3) := by decide +kernel
theorem dJ2_getChar_3b067_56 : decode cJ2_getChar_3b067 56 = .ok (.ishl, 1) := by decide +kernel
theorem dJ2_getChar_3b067_57 : decode cJ2_getChar_3b067 57 = .ok (.ior, 1) := by decide +kernel
theorem dJ2_getChar_3b067_58 : decode cJ2_getChar_3b067 58 = .ok (.i2c, 1) := by decide +kernel
theorem dJ2_getChar_3b067_59 : decode cJ2_getChar_3b067 59 = .ok (.ireturn, 1) := by decide +kernel
theorem dJ2_length_9d52b_0 : decode cJ2_length_9d52b 0 = .ok (.aload_n 0, 1) := by decide +kernel
theorem dJ2_length_9d52b_1 : decode cJ2_length_9d52b 1 = .ok (.arraylength, 1) := by decide +kernel
theorem dJ2_length_9d52b_2 : decode cJ2_length_9d52b 2 = .ok (.iconst 1, 1) := by decide +kernel
theorem dJ2_length_9d52b_3 : decode cJ2_length_9d52b 3 = .ok (.ishr, 1) := by decide +kernel
theorem dJ2_length_9d52b_4 : decode cJ2_length_9d52b 4 = .ok (.ireturn, 1) := by decide +kernel
theorem dJ2_indexOf_4cfef_0 : decode cJ2_indexOf_4cfef 0 = .ok (.iload_n 2, 1) := by decide +kernel
theorem dJ2_indexOf_4cfef_1 : decode cJ2_indexOf_4cfef 1 = .ok (.iconst 0, 1) := by decide +kernel
theorem dJ2_indexOf_4cfef_2 : decode cJ2_indexOf_4cfef 2 = .ok (.invokestatic 224, 3) := by decide +kernel
theorem dJ2_indexOf_4cfef_5 : decode cJ2_indexOf_4cfef 5 = .ok (.istore_n 2, 1) := by decide +kernel
theorem dJ2_indexOf_4cfef_6 : decode cJ2_indexOf_4cfef 6 = .ok (.iload_n 3, 1) := by decide +kernel
theorem dJ2_indexOf_4cfef_7 : decode cJ2_indexOf_4cfef 7 = .ok (.aload_n 0, 1) := by decide +kernel
theorem dJ2_indexOf_4cfef_8 : decode cJ2_indexOf_4cfef 8 = .ok (.arraylength, 1) := by decide +kernel
theorem dJ2_indexOf_4cfef_9 : decode cJ2_indexOf_4cfef 9 = .ok (.iconst 1, 1) := by decide +kernel
theorem dJ2_indexOf_4cfef_10 : decode cJ2_indexOf_4cfef 10 = .ok (.ishr, 1) := by decide +kernel
theorem dJ2_indexOf_4cfef_11 : decode cJ2_indexOf_4cfef 11 = .ok (.invokestatic 183, 3) := by decide +kernel
theorem dJ2_indexOf_4cfef_14 : decode cJ2_indexOf_4cfef 14 = .ok (.istore_n 3, 1) := by decide +kernel
theorem dJ2_indexOf_4cfef_15 : decode cJ2_indexOf_4cfef 15 = .ok (.iload_n 2, 1) := by decide +kernel
theorem dJ2_indexOf_4cfef_16 : decode cJ2_indexOf_4cfef 16 = .ok (.iload_n 3, 1) := by decide +kernel
theorem dJ2_indexOf_4cfef_17 : decode cJ2_indexOf_4cfef 17 = .ok (.if_icmp .lt 5, 3) := by decide +kernel
theorem dJ2_indexOf_4cfef_20 : decode cJ2_indexOf_4cfef 20 = .ok (.iconst (-1), 1) := by decide +kernel
theorem dJ2_indexOf_4cfef_21 : decode cJ2_indexOf_4cfef 21 = .ok (.ireturn, 1) := by decide +kernel
theorem dJ2_indexOf_4cfef_22 : decode cJ2_indexOf_4cfef 22 = .ok (.iload_n 1, 1) := by decide +kernel
theorem dJ2_indexOf_4cfef_23 : decode cJ2_indexOf_4cfef 23 = .ok (.ldc 227, 2) := by decide +kernel
theorem dJ2_indexOf_4cfef_25 : decode cJ2_indexOf_4cfef 25 = .ok (.if_icmp .ge 11, 3) := by decide +kernel
theorem dJ2_indexOf_4cfef_28 : decode cJ2_indexOf_4cfef 28 = .ok (.aload_n 0, 1) := by decide +kernel
theorem dJ2_indexOf_4cfef_29 : decode cJ2_indexOf_4cfef 29 = .ok (.iload_n 1, 1) := by decide +kernel
theorem dJ2_indexOf_4cfef_30 : decode cJ2_indexOf_4cfef 30 = .ok (.iload_n 2, 1) := by decide +kernel
theorem dJ2_indexOf_4cfef_31 : decode cJ2_indexOf_4cfef 31 = .ok (.iload_n 3, 1) := by decide +kernel
theorem dJ2_indexOf_4cfef_32 : decode cJ2_indexOf_4cfef 32 = .ok (.invokestatic 228, 3) := by decide +kernel
theorem dJ2_indexOf_4cfef_35 : decode cJ2_indexOf_4cfef 35 = .ok (.ireturn, 1) := by decide +kernel
theorem dJ2_indexOf_4cfef_36 : decode cJ2_indexOf_4cfef 36 = .ok (.aload_n 0, 1) := by decide +kernel
theorem dJ2_indexOf_4cfef_37 : decode cJ2_indexOf_4cfef 37 = .ok (.iload_n 1, 1) := by decide +kernel
theorem dJ2_indexOf_4cfef_38 : decode cJ2_indexOf_4cfef 38 = .ok (.iload_n 2, 1) := by decide +kernel
theorem dJ2_indexOf_4cfef_39 : decode cJ2_indexOf_4cfef 39 = .ok (.iload_n 3, 1) := by decide +kernel
theorem dJ2_indexOf_4cfef_40 : decode cJ2_indexOf_4cfef 40 = .ok (.invokestatic 232, 3) := by decide +kernel
theorem dJ2_indexOf_4cfef_43 : decode cJ2_indexOf_4cfef 43 = .ok (.ireturn, 1) := by decide +kernel
theorem dJ2_indexOfChar_4cfef_0 : decode cJ2_indexOfChar_4cfef 0 = .ok (.iload_n 2, 1) := by decide +kernel
theorem dJ2_indexOfChar_4cfef_1 : decode cJ2_indexOfChar_4cfef 1 = .ok (.iload_n 3, 1) := by decide +kernel
theorem dJ2_indexOfChar_4cfef_2 : decode cJ2_indexOfChar_4cfef 2 = .ok (.aload_n 0, 1) := by decide +kernel
theorem dJ2_indexOfChar_4cfef_3 : decode cJ2_indexOfChar_4cfef 3 = .ok (.invokestatic 96, 3) := by decide +kernel
theorem dJ2_indexOfChar_4cfef_6 : decode cJ2_indexOfChar_4cfef 6 = .ok (.aload_n 0, 1) := by decide +kernel
theorem dJ2_indexOfChar_4cfef_7 : decode cJ2_indexOfChar_4cfef 7 = .ok (.iload_n 1, 1) := by decide +kernel
theorem dJ2_indexOfChar_4cfef_8 : decode cJ2_indexOfChar_4cfef 8 = .ok (.iload_n 2, 1) := by decide +kernel
theorem dJ2_indexOfChar_4cfef_9 : decode cJ2_indexOfChar_4cfef 9 = .ok (.iload_n 3, 1) := by decide +kernel
theorem dJ2_indexOfChar_4cfef_10 : decode cJ2_indexOfChar_4cfef 10 = .ok (.invokestatic 244, 3) := by decide +kernel
theorem dJ2_indexOfChar_4cfef_13 : decode cJ2_indexOfChar_4cfef 13 = .ok (.ireturn, 1) := by decide +kernel
theorem dJ2_indexOfCharUnsafe_4cfef_0 : decode cJ2_indexOfCharUnsafe_4cfef 0 = .ok (.iload_n 2, 1) := by decide +kernel
theorem dJ2_indexOfCharUnsafe_4cfef_1 : decode cJ2_indexOfCharUnsafe_4cfef 1 = .ok (.istore 4, 2) := by decide +kernel
theorem dJ2_indexOfCharUnsafe_4cfef_3 : decode cJ2_indexOfCharUnsafe_4cfef 3 = .ok (.iload 4, 2) := by decide +kernel
theorem dJ2_indexOfCharUnsafe_4cfef_5 : decode cJ2_indexOfCharUnsafe_4cfef 5 = .ok (.iload_n 3, 1) := by decide +kernel
theorem dJ2_indexOfCharUnsafe_4cfef_6 : decode cJ2_indexOfCharUnsafe_4cfef 6 = .ok (.if_icmp .ge 22, 3) := by decide +kernel
theorem dJ2_indexOfCharUnsafe_4cfef_9 : decode cJ2_indexOfCharUnsafe_4cfef 9 = .ok (.aload_n 0, 1) := by decide +kernel
theorem dJ2_indexOfCharUnsafe_4cfef_10 : decode cJ2_indexOfCharUnsafe_4cfef 10 = .ok (.iload 4, 2) := by decide +kernel
theorem dJ2_indexOfCharUnsafe_4cfef_12 : decode cJ2_indexOfCharUnsafe_4cfef 12 = .ok (.invokestatic 71, 3) := by decide +kernel
theorem dJ2_indexOfCharUnsafe_4cfef_15 : decode cJ2_indexOfCharUnsafe_4cfef 15 = .ok (.iload_n 1, 1) := by decide +kernel
theorem dJ2_indexOfCharUnsafe_4cfef_16 : decode cJ2_indexOfCharUnsafe_4cfef 16 = .ok (.if_icmp .ne 6, 3) := by decide +kernel
theorem dJ2_indexOfCharUnsafe_4cfef_19 : decode cJ2_indexOfCharUnsafe_4cfef 19 = .ok (.iload 4, 2) := by decide +kernel
theorem dJ2_indexOfCharUnsafe_4cfef_21 : decode cJ2_indexOfCharUnsafe_4cfef 21 = .ok (.ireturn, 1) := by decide +kernel
theorem dJ2_indexOfCharUnsafe_4cfef_22 : decode cJ2_indexOfCharUnsafe_4cfef 22 = .ok (.iinc 4 1, 3) := by decide +kernel
theorem dJ2_indexOfCharUnsafe_4cfef_25 : decode cJ2_indexOfCharUnsafe_4cfef 25 = .ok (.goto (-22), 3) := by decide +kernel
theorem dJ2_indexOfCharUnsafe_4cfef_28 : decode cJ2_indexOfCharUnsafe_4cfef 28 = .ok (.iconst (-1), 1) := by decide +kernel
theorem dJ2_indexOfCharUnsafe_4cfef_29 : decode cJ2_indexOfCharUnsafe_4cfef 29 = .ok (.ireturn, 1) := by decide +kernel
theorem dJ2_indexOfSupplementary_4cfef_0 : decode cJ2_indexOfSupplementary_4cfef 0 = .ok (.iload_n 1, 1) := by decide +kernel
theorem dJ2_indexOfSupplementary_4cfef_1 : decode cJ2_indexOfSupplementary_4cfef 1 = .ok (.invokestatic 164, 3) := by decide +kernel
theorem dJ2_indexOfSupplementary_4cfef_4 : decode cJ2_indexOfSupplementary_4cfef 4 = .ok (.ifCond .eq 65, 3) := by decide +kernel
theorem dJ2_indexOfSupplementary_4cfef_7 : decode cJ2_indexOfSupplementary_4cfef 7 = .ok (.iload_n 1, 1) := by decide +kernel
theorem dJ2_indexOfSupplementary_4cfef_8 : decode cJ2_indexOfSupplementary_4cfef 8 = .ok (.invokestatic 157, 3) := by decide +kernel
theorem dJ2_indexOfSupplementary_4cfef_11 : decode cJ2_indexOfSupplementary_4cfef 11 = .ok (.istore 4, 2) := by decide +kernel
theorem dJ2_indexOfSupplementary_4cfef_13 : decode cJ2_indexOfSupplementary_4cfef 13 = .ok (.iload_n 1, 1) := by decide +kernel
theorem dJ2_indexOfSupplementary_4cfef_14 : decode cJ2_indexOfSupplementary_4cfef 14 = .ok (.invokestatic 161, 3) := by decide +kernel
theorem dJ2_indexOfSupplementary_4cfef_17 : decode cJ2_indexOfSupplementary_4cfef 17 = .ok (.istore 5, 2) := by decide +kernel
theorem dJ2_indexOfSupplementary_4cfef_19 : decode cJ2_indexOfSupplementary_4cfef 19 = .ok (.iload_n 2, 1) := by decide +kernel
theorem dJ2_indexOfSupplementary_4cfef_20 : decode cJ2_indexOfSupplementary_4cfef 20 = .ok (.iload_n 3, 1) := by decide +kernel
theorem dJ2_indexOfSupplementary_4cfef_21 : decode cJ2_indexOfSupplementary_4cfef 21 = .ok (.aload_n 0, 1) := by decide +kernel
theorem dJ2_indexOfSupplementary_4cfef_22 : decode cJ2_indexOfSupplementary_4cfef 22 = .ok (.invokestatic 96, 3) := by decide +kernel
theorem dJ2_indexOfSupplementary_4cfef_25 : decode cJ2_indexOfSupplementary_4cfef 25 = .ok (.iload_n 2, 1) := by decide +kernel
theorem dJ2_indexOfSupplementary_4cfef_26 : decode cJ2_indexOfSupplementary_4cfef 26 = .ok (.istore 6, 2) := by decide +kernel
theorem dJ2_indexOfSupplementary_4cfef_28 : decode cJ2_indexOfSupplementary_4cfef 28 = .ok (.iload 6, 2) := by decide +kernel
theorem dJ2_indexOfSupplementary_4cfef_30 : decode cJ2_indexOfSupplementary_4cfef 30 = .ok (.iload_n 3, 1) := by decide +kernel
theorem dJ2_indexOfSupplementary_4cfef_31 : decode cJ2_indexOfSupplementary_4cfef 31 = .ok (.iconst 1, 1) := by decide +kernel
theorem dJ2_indexOfSupplementary_4cfef_32 : decode cJ2_indexOfSupplementary_4cfef 32 = .ok (.isub, 1) := by decide +kernel
theorem dJ2_indexOfSupplementary_4cfef_33 : decode cJ2_indexOfSupplementary_4cfef 33 = .ok (.if_icmp .ge 36, 3) := by decide +kernel
theorem dJ2_indexOfSupplementary_4cfef_36 : decode cJ2_indexOfSupplementary_4cfef 36 = .ok (.aload_n 0, 1) := by decide +kernel
theorem dJ2_indexOfSupplementary_4cfef_37 : decode cJ2_indexOfSupplementary_4cfef 37 = .ok (.iload 6, 2) := by decide +kernel
theorem dJ2_indexOfSupplementary_4cfef_39 : decode cJ2_indexOfSupplementary_4cfef 39 = .ok (.invokestatic 71, 3) := by decide +kernel
theorem dJ2_indexOfSupplementary_4cfef_42 : decode cJ2_indexOfSupplementary_4cfef 42 = .ok (.iload 4, 2) := by decide +kernel
theorem dJ2_indexOfSupplementary_4cfef_44 : decode cJ2_indexOfSupplementary_4cfef 44 = .ok (.if_icmp .ne 19, 3) := by decide +kernel
theorem dJ2_indexOfSupplementary_4cfef_47 : decode cJ2_indexOfSupplementary_4cfef 47 = .ok (.aload_n 0, 1) := by decide +kernel
theorem dJ2_indexOfSupplementary_4cfef_48 : decode cJ2_indexOfSupplementary_4cfef 48 = .ok (.iload 6, 2) := by decide +kernel
theorem dJ2_indexOfSupplementary_4cfef_50 : decode cJ2_indexOfSupplementary_4cfef 50 = .ok (.iconst 1, 1) := by decide +kernel
theorem dJ2_indexOfSupplementary_4cfef_51 : decode cJ2_indexOfSupplementary_4cfef 51 = .ok (.iadd, 1) := by decide +kernel
theorem dJ2_indexOfSupplementary_4cfef_52 : decode cJ2_indexOfSupplementary_4cfef 52 = .ok (.invokestatic 71, 3) := by decide +kernel
theorem dJ2_indexOfSupplementary_4cfef_55 : decode cJ2_indexOfSupplementary_4cfef 55 = .ok (.iload 5, 2) := by decide +kernel
theorem dJ2_indexOfSupplementary_4cfef_57 : decode cJ2_indexOfSupplementary_4cfef 57 = .ok (.if_icmp .ne 6, 3) := by decide +kernel
theorem dJ2_indexOfSupplementary_4cfef_60 : decode cJ2_indexOfSupplementary_4cfef 60 = .ok (.iload 6, 2) := by decide +kernel
theorem dJ2_indexOfSupplementary_4cfef_62 : decode cJ2_indexOfSupplementary_4cfef 62 = .ok (.ireturn, 1) := by decide +kernel
theorem dJ2_indexOfSupplementary_4cfef_63 : decode cJ2_indexOfSupplementary_4cfef 63 = .ok (.iinc 6 1, 3) := by decide +kernel
theorem dJ2_indexOfSupplementary_4cfef_66 : decode cJ2_indexOfSupplementary_4cfef 66 = .ok (.goto (-38), 3) := by decide +kernel
theorem dJ2_indexOfSupplementary_4cfef_69 : decode cJ2_indexOfSupplementary_4cfef 69 = .ok (.iconst (-1), 1) := by decide +kernel
theorem dJ2_indexOfSupplementary_4cfef_70 : decode cJ2_indexOfSupplementary_4cfef 70 = .ok (.ireturn, 1) := by decide +kernel
theorem dJ2_checkBoundsBeginEnd_d044e_0 : decode cJ2_checkBoundsBeginEnd_d044e 0 = .ok (.iload_n 0, 1) := by decide +kernel
theorem dJ2_checkBoundsBeginEnd_d044e_1 : decode cJ2_checkBoundsBeginEnd_d044e 1 = .ok (.iload_n 1, 1) := by decide +kernel
theorem dJ2_checkBoundsBeginEnd_d044e_2 : decode cJ2_checkBoundsBeginEnd_d044e 2 = .ok (.aload_n 2, 1) := by decide +kernel
theorem dJ2_checkBoundsBeginEnd_d044e_3 : decode cJ2_checkBoundsBeginEnd_d044e 3 = .ok (.invokestatic 48, 3) := by decide +kernel
theorem dJ2_checkBoundsBeginEnd_d044e_6 : decode cJ2_checkBoundsBeginEnd_d044e 6 = .ok (.invokestatic 241, 3) := by decide +kernel
theorem dJ2_checkBoundsBeginEnd_d044e_9 : decode cJ2_checkBoundsBeginEnd_d044e 9 = .ok (.return_, 1) := by decide +kernel
theorem dJ7_fill_53178_0 : decode cJ7_fill_53178 0 = .ok (.iconst 0, 1) := by decide +kernel
theorem dJ7_fill_53178_1 : decode cJ7_fill_53178 1 = .ok (.istore_n 2, 1) := by decide +kernel
theorem dJ7_fill_53178_2 : decode cJ7_fill_53178 2 = .ok (.aload_n 0, 1) := by decide +kernel
theorem dJ7_fill_53178_3 : decode cJ7_fill_53178 3 = .ok (.arraylength, 1) := by decide +kernel
theorem dJ7_fill_53178_4 : decode cJ7_fill_53178 4 = .ok (.istore_n 3, 1) := by decide +kernel
theorem dJ7_fill_53178_5 : decode cJ7_fill_53178 5 = .ok (.iload_n 2, 1) := by decide +kernel
theorem dJ7_fill_53178_6 : decode cJ7_fill_53178 6 = .ok (.iload_n 3, 1) := by decide +kernel
theorem dJ7_fill_53178_7 : decode cJ7_fill_53178 7 = .ok (.if_icmp .ge 13, 3) := by decide +kernel
theorem dJ7_fill_53178_10 : decode cJ7_fill_53178 10 = .ok (.aload_n 0, 1) := by decide +kernel
theorem dJ7_fill_53178_11 : decode cJ7_fill_53178 11 = .ok (.iload_n 2, 1) := by decide +kernel
theorem dJ7_fill_53178_12 : decode cJ7_fill_53178 12 = .ok (.iload_n 1, 1) := by decide +kernel
theorem dJ7_fill_53178_13 : decode cJ7_fill_53178 13 = .ok (.iastore, 1) := by decide +kernel
theorem dJ7_fill_53178_14 : decode cJ7_fill_53178 14 = .ok (.iinc 2 1, 3) := by decide +kernel
theorem dJ7_fill_53178_17 : decode cJ7_fill_53178 17 = .ok (.goto (-12), 3) := by decide +kernel
theorem dJ7_fill_53178_20 : decode cJ7_fill_53178 20 = .ok (.return_, 1) := by decide +kernel
theorem dJ3_checkFromToIndex_8c36e_0 : decode cJ3_checkFromToIndex_8c36e 0 = .ok (.iload_n 0, 1) := by decide +kernel
theorem dJ3_checkFromToIndex_8c36e_1 : decode cJ3_checkFromToIndex_8c36e 1 = .ok (.ifCond .lt 13, 3) := by decide +kernel
theorem dJ3_checkFromToIndex_8c36e_4 : decode cJ3_checkFromToIndex_8c36e 4 = .ok (.iload_n 0, 1) := by decide +kernel
theorem dJ3_checkFromToIndex_8c36e_5 : decode cJ3_checkFromToIndex_8c36e 5 = .ok (.iload_n 1, 1) := by decide +kernel
theorem dJ3_checkFromToIndex_8c36e_6 : decode cJ3_checkFromToIndex_8c36e 6 = .ok (.if_icmp .gt 8, 3) := by decide +kernel
theorem dJ3_checkFromToIndex_8c36e_9 : decode cJ3_checkFromToIndex_8c36e 9 = .ok (.iload_n 1, 1) := by decide +kernel
theorem dJ3_checkFromToIndex_8c36e_10 : decode cJ3_checkFromToIndex_8c36e 10 = .ok (.iload_n 2, 1) := by decide +kernel
theorem dJ3_checkFromToIndex_8c36e_11 : decode cJ3_checkFromToIndex_8c36e 11 = .ok (.if_icmp .le 11, 3) := by decide +kernel
theorem dJ3_checkFromToIndex_8c36e_14 : decode cJ3_checkFromToIndex_8c36e 14 = .ok (.aload_n 3, 1) := by decide +kernel
theorem dJ3_checkFromToIndex_8c36e_15 : decode cJ3_checkFromToIndex_8c36e 15 = .ok (.iload_n 0, 1) := by decide +kernel
theorem dJ3_checkFromToIndex_8c36e_16 : decode cJ3_checkFromToIndex_8c36e 16 = .ok (.iload_n 1, 1) := by decide +kernel
theorem dJ3_checkFromToIndex_8c36e_17 : decode cJ3_checkFromToIndex_8c36e 17 = .ok (.iload_n 2, 1) := by decide +kernel
theorem dJ3_checkFromToIndex_8c36e_18 : decode cJ3_checkFromToIndex_8c36e 18 = .ok (.invokestatic 99, 3) := by decide +kernel
theorem dJ3_checkFromToIndex_8c36e_21 : decode cJ3_checkFromToIndex_8c36e 21 = .ok (.athrow, 1) := by decide +kernel
theorem dJ3_checkFromToIndex_8c36e_22 : decode cJ3_checkFromToIndex_8c36e 22 = .ok (.iload_n 0, 1) := by decide +kernel
theorem dJ3_checkFromToIndex_8c36e_23 : decode cJ3_checkFromToIndex_8c36e 23 = .ok (.ireturn, 1) := by decide +kernel
