theorem dX6_init_0 : decode cX6_init 0 = .ok (.aload_n 0, 1) := by decide +kernel
theorem dX6_init_1 : decode cX6_init 1 = .ok (.invokespecial 1, 3) := by decide +kernel
theorem dX6_init_4 : decode cX6_init 4 = .ok (.aload_n 0, 1) := by decide +kernel
theorem dX6_init_5 : decode cX6_init 5 = .ok (.new 7, 3) := by decide +kernel
theorem dX6_init_8 : decode cX6_init 8 = .ok (.dup, 1) := by decide +kernel
theorem dX6_init_9 : decode cX6_init 9 = .ok (.invokespecial 9, 3) := by decide +kernel
theorem dX6_init_12 : decode cX6_init 12 = .ok (.putfield 10, 3) := by decide +kernel
theorem dX6_init_15 : decode cX6_init 15 = .ok (.aload_n 0, 1) := by decide +kernel
theorem dX6_init_16 : decode cX6_init 16 = .ok (.new 16, 3) := by decide +kernel
theorem dX6_init_19 : decode cX6_init 19 = .ok (.dup, 1) := by decide +kernel
theorem dX6_init_20 : decode cX6_init 20 = .ok (.bipush 70, 2) := by decide +kernel
theorem dX6_init_22 : decode cX6_init 22 = .ok (.invokespecial 18, 3) := by decide +kernel
theorem dX6_init_25 : decode cX6_init 25 = .ok (.putfield 21, 3) := by decide +kernel
theorem dX6_init_28 : decode cX6_init 28 = .ok (.aload_n 0, 1) := by decide +kernel
theorem dX6_init_29 : decode cX6_init 29 = .ok (.new 25, 3) := by decide +kernel
theorem dX6_init_32 : decode cX6_init 32 = .ok (.dup, 1) := by decide +kernel
theorem dX6_init_33 : decode cX6_init 33 = .ok (.aload_n 0, 1) := by decide +kernel
theorem dX6_init_34 : decode cX6_init 34 = .ok (.getfield 21, 3) := by decide +kernel
theorem dX6_init_37 : decode cX6_init 37 = .ok (.invokespecial 27, 3) := by decide +kernel
theorem dX6_init_40 : decode cX6_init 40 = .ok (.putfield 30, 3) := by decide +kernel
theorem dX6_init_43 : decode cX6_init 43 = .ok (.aload_n 0, 1) := by decide +kernel
theorem dX6_init_44 : decode cX6_init 44 = .ok (.new 34, 3) := by decide +kernel
theorem dX6_init_47 : decode cX6_init 47 = .ok (.dup, 1) := by decide +kernel
theorem dX6_init_48 : decode cX6_init 48 = .ok (.invokespecial 36, 3) := by decide +kernel
theorem dX6_init_51 : decode cX6_init 51 = .ok (.putfield 37, 3) := by decide +kernel
theorem dX6_init_54 : decode cX6_init 54 = .ok (.aload_n 0, 1) := by decide +kernel
theorem dX6_init_55 : decode cX6_init 55 = .ok (.new 41, 3) := by decide +kernel
theorem dX6_init_58 : decode cX6_init 58 = .ok (.dup, 1) := by decide +kernel
theorem dX6_init_59 : decode cX6_init 59 = .ok (.invokespecial 43, 3) := by decide +kernel
theorem dX6_init_62 : decode cX6_init 62 = .ok (.putfield 44, 3) := by decide +kernel
theorem dX6_init_65 : decode cX6_init 65 = .ok (.aload_n 0, 1) := by decide +kernel
theorem dX6_init_66 : decode cX6_init 66 = .ok (.new 48, 3) := by decide +kernel
theorem dX6_init_69 : decode cX6_init 69 = .ok (.dup, 1) := by decide +kernel
theorem dX6_init_70 : decode cX6_init 70 = .ok (.invokespecial 50, 3) := by decide +kernel
theorem dX6_init_73 : decode cX6_init 73 = .ok (.putfield 51, 3) := by decide +kernel
theorem dX6_init_76 : decode cX6_init 76 = .ok (.aload_n 0, 1) := by decide +kernel
theorem dX6_init_77 : decode cX6_init 77 = .ok (.new 16, 3) := by decide +kernel
theorem dX6_init_80 : decode cX6_init 80 = .ok (.dup, 1) := by decide +kernel
theorem dX6_init_81 : decode cX6_init 81 = .ok (.bipush 40, 2) := by decide +kernel
theorem dX6_init_83 : decode cX6_init 83 = .ok (.invokespecial 18, 3) := by decide +kernel
theorem dX6_init_86 : decode cX6_init 86 = .ok (.putfield 55, 3) := by decide +kernel
theorem dX6_init_89 : decode cX6_init 89 = .ok (.aload_n 0, 1) := by decide +kernel
theorem dX6_init_90 : decode cX6_init 90 = .ok (.new 34, 3) := by decide +kernel
theorem dX6_init_93 : decode cX6_init 93 = .ok (.dup, 1) := by decide +kernel
theorem dX6_init_94 : decode cX6_init 94 = .ok (.invokespecial 36, 3) := by decide +kernel
theorem dX6_init_97 : decode cX6_init 97 = .ok (.putfield 58, 3) := by decide +kernel
theorem dX6_init_100 : decode cX6_init 100 = .ok (.return_, 1) := by decide +kernel
theorem dX6_letter_0 : decode cX6_letter 0 = .ok (.iload_n 1, 1) := by decide +kernel
theorem dX6_letter_1 : decode cX6_letter 1 = .ok (.bipush 32, 2) := by decide +kernel
theorem dX6_letter_3 : decode cX6_letter 3 = .ok (.if_icmp .lt 9, 3) := by decide +kernel
theorem dX6_letter_6 : decode cX6_letter 6 = .ok (.iload_n 1, 1) := by decide +kernel
theorem dX6_letter_7 : decode cX6_letter 7 = .ok (.bipush 126, 2) := by decide +kernel
theorem dX6_letter_9 : decode cX6_letter 9 = .ok (.if_icmp .le 6, 3) := by decide +kernel
theorem dX6_letter_12 : decode cX6_letter 12 = .ok (.bipush (-102), 2) := by decide +kernel
theorem dX6_letter_14 : decode cX6_letter 14 = .ok (.ireturn, 1) := by decide +kernel
theorem dX6_letter_15 : decode cX6_letter 15 = .ok (.aload_n 0, 1) := by decide +kernel
theorem dX6_letter_16 : decode cX6_letter 16 = .ok (.getfield 10, 3) := by decide +kernel
theorem dX6_letter_19 : decode cX6_letter 19 = .ok (.iload_n 1, 1) := by decide +kernel
theorem dX6_letter_20 : decode cX6_letter 20 = .ok (.invokevirtual 61, 3) := by decide +kernel
theorem dX6_letter_23 : decode cX6_letter 23 = .ok (.ifCond .eq 13, 3) := by decide +kernel
theorem dX6_letter_26 : decode cX6_letter 26 = .ok (.aload_n 0, 1) := by decide +kernel
theorem dX6_letter_27 : decode cX6_letter 27 = .ok (.getfield 10, 3) := by decide +kernel
theorem dX6_letter_30 : decode cX6_letter 30 = .ok (.getfield 65, 3) := by decide +kernel
theorem dX6_letter_33 : decode cX6_letter 33 = .ok (.goto 5, 3) := by decide +kernel
theorem dX6_letter_36 : decode cX6_letter 36 = .ok (.bipush (-104), 2) := by decide +kernel
theorem dX6_letter_38 : decode cX6_letter 38 = .ok (.ireturn, 1) := by decide +kernel
theorem dX6_blank_0 : decode cX6_blank 0 = .ok (.aload_n 0, 1) := by decide +kernel
theorem dX6_blank_1 : decode cX6_blank 1 = .ok (.getfield 10, 3) := by decide +kernel
theorem dX6_blank_4 : decode cX6_blank 4 = .ok (.getfield 65, 3) := by decide +kernel
theorem dX6_blank_7 : decode cX6_blank 7 = .ok (.istore_n 1, 1) := by decide +kernel
theorem dX6_blank_8 : decode cX6_blank 8 = .ok (.aload_n 0, 1) := by decide +kernel
theorem dX6_blank_9 : decode cX6_blank 9 = .ok (.getfield 10, 3) := by decide +kernel
theorem dX6_blank_12 : decode cX6_blank 12 = .ok (.iconst 0, 1) := by decide +kernel
theorem dX6_blank_13 : decode cX6_blank 13 = .ok (.putfield 65, 3) := by decide +kernel
theorem dX6_blank_16 : decode cX6_blank 16 = .ok (.iload_n 1, 1) := by decide +kernel
theorem dX6_blank_17 : decode cX6_blank 17 = .ok (.ireturn, 1) := by decide +kernel
theorem dX6_fault_0 : decode cX6_fault 0 = .ok (.aload_n 0, 1) := by decide +kernel
theorem dX6_fault_1 : decode cX6_fault 1 = .ok (.getfield 10, 3) := by decide +kernel
theorem dX6_fault_4 : decode cX6_fault 4 = .ok (.invokevirtual 69, 3) := by decide +kernel
theorem dX6_fault_7 : decode cX6_fault 7 = .ok (.ireturn, 1) := by decide +kernel
theorem dX6_desk_0 : decode cX6_desk 0 = .ok (.aload_n 0, 1) := by decide +kernel
theorem dX6_desk_1 : decode cX6_desk 1 = .ok (.getfield 10, 3) := by decide +kernel
theorem dX6_desk_4 : decode cX6_desk 4 = .ok (.invokevirtual 73, 3) := by decide +kernel
theorem dX6_desk_7 : decode cX6_desk 7 = .ok (.ifCond .ne 6, 3) := by decide +kernel
theorem dX6_desk_10 : decode cX6_desk 10 = .ok (.bipush (-103), 2) := by decide +kernel
theorem dX6_desk_12 : decode cX6_desk 12 = .ok (.ireturn, 1) := by decide +kernel
theorem dX6_desk_13 : decode cX6_desk 13 = .ok (.aload_n 0, 1) := by decide +kernel
theorem dX6_desk_14 : decode cX6_desk 14 = .ok (.getfield 30, 3) := by decide +kernel
theorem dX6_desk_17 : decode cX6_desk 17 = .ok (.invokevirtual 77, 3) := by decide +kernel
theorem dX6_desk_20 : decode cX6_desk 20 = .ok (.aload_n 0, 1) := by decide +kernel
theorem dX6_desk_21 : decode cX6_desk 21 = .ok (.getfield 37, 3) := by decide +kernel
theorem dX6_desk_24 : decode cX6_desk 24 = .ok (.iconst 0, 1) := by decide +kernel
theorem dX6_desk_25 : decode cX6_desk 25 = .ok (.putfield 80, 3) := by decide +kernel
theorem dX6_desk_28 : decode cX6_desk 28 = .ok (.aload_n 0, 1) := by decide +kernel
theorem dX6_desk_29 : decode cX6_desk 29 = .ok (.iconst 0, 1) := by decide +kernel
theorem dX6_desk_30 : decode cX6_desk 30 = .ok (.putfield 83, 3) := by decide +kernel
theorem dX6_desk_33 : decode cX6_desk 33 = .ok (.aload_n 0, 1) := by decide +kernel
theorem dX6_desk_34 : decode cX6_desk 34 = .ok (.iconst 1, 1) := by decide +kernel
theorem dX6_desk_35 : decode cX6_desk 35 = .ok (.putfield 87, 3) := by decide +kernel
theorem dX6_desk_38 : decode cX6_desk 38 = .ok (.aload_n 0, 1) := by decide +kernel
theorem dX6_desk_39 : decode cX6_desk 39 = .ok (.dup, 1) := by decide +kernel
theorem dX6_desk_40 : decode cX6_desk 40 = .ok (.getfield 90, 3) := by decide +kernel
theorem dX6_desk_43 : decode cX6_desk 43 = .ok (.iconst 1, 1) := by decide +kernel
theorem dX6_desk_44 : decode cX6_desk 44 = .ok (.iadd, 1) := by decide +kernel
theorem dX6_desk_45 : decode cX6_desk 45 = .ok (.putfield 90, 3) := by decide +kernel
theorem dX6_desk_48 : decode cX6_desk 48 = .ok (.iconst 0, 1) := by decide +kernel
theorem dX6_desk_49 : decode cX6_desk 49 = .ok (.istore_n 1, 1) := by decide +kernel
theorem dX6_desk_50 : decode cX6_desk 50 = .ok (.iload_n 1, 1) := by decide +kernel
theorem dX6_desk_51 : decode cX6_desk 51 = .ok (.aload_n 0, 1) := by decide +kernel
theorem dX6_desk_52 : decode cX6_desk 52 = .ok (.getfield 10, 3) := by decide +kernel
theorem dX6_desk_55 : decode cX6_desk 55 = .ok (.getfield 65, 3) := by decide +kernel
theorem dX6_desk_58 : decode cX6_desk 58 = .ok (.if_icmp .ge 33, 3) := by decide +kernel
theorem dX6_desk_61 : decode cX6_desk 61 = .ok (.aload_n 0, 1) := by decide +kernel
theorem dX6_desk_62 : decode cX6_desk 62 = .ok (.getfield 10, 3) := by decide +kernel
theorem dX6_desk_65 : decode cX6_desk 65 = .ok (.iload_n 1, 1) := by decide +kernel
theorem dX6_desk_66 : decode cX6_desk 66 = .ok (.aload_n 0, 1) := by decide +kernel
theorem dX6_desk_67 : decode cX6_desk 67 = .ok (.getfield 51, 3) := by decide +kernel
theorem dX6_desk_70 : decode cX6_desk 70 = .ok (.invokevirtual 93, 3) := by decide +kernel
theorem dX6_desk_73 : decode cX6_desk 73 = .ok (.aload_n 0, 1) := by decide +kernel
theorem dX6_desk_74 : decode cX6_desk 74 = .ok (.getfield 30, 3) := by decide +kernel
theorem dX6_desk_77 : decode cX6_desk 77 = .ok (.aload_n 0, 1) := by decide +kernel
theorem dX6_desk_78 : decode cX6_desk 78 = .ok (.getfield 51, 3) := by decide +kernel
theorem dX6_desk_81 : decode cX6_desk 81 = .ok (.invokevirtual 97, 3) := by decide +kernel
theorem dX6_desk_84 : decode cX6_desk 84 = .ok (.pop, 1) := by decide +kernel
theorem dX6_desk_85 : decode cX6_desk 85 = .ok (.iinc 1 12, 3) := by decide +kernel
theorem dX6_desk_88 : decode cX6_desk 88 = .ok (.goto (-38), 3) := by decide +kernel
theorem dX6_desk_91 : decode cX6_desk 91 = .ok (.aload_n 0, 1) := by decide +kernel
theorem dX6_desk_92 : decode cX6_desk 92 = .ok (.getfield 10, 3) := by decide +kernel
theorem dX6_desk_95 : decode cX6_desk 95 = .ok (.iconst 0, 1) := by decide +kernel
theorem dX6_desk_96 : decode cX6_desk 96 = .ok (.putfield 65, 3) := by decide +kernel
theorem dX6_desk_99 : decode cX6_desk 99 = .ok (.aload_n 0, 1) := by decide +kernel
theorem dX6_desk_100 : decode cX6_desk 100 = .ok (.getfield 21, 3) := by decide +kernel
theorem dX6_desk_103 : decode cX6_desk 103 = .ok (.getfield 101, 3) := by decide +kernel
theorem dX6_desk_106 : decode cX6_desk 106 = .ok (.ireturn, 1) := by decide +kernel
theorem dX6_tariff_0 : decode cX6_tariff 0 = .ok (.aload_n 0, 1) := by decide +kernel
theorem dX6_tariff_1 : decode cX6_tariff 1 = .ok (.getfield 21, 3) := by decide +kernel
theorem dX6_tariff_4 : decode cX6_tariff 4 = .ok (.iload_n 1, 1) := by decide +kernel
theorem dX6_tariff_5 : decode cX6_tariff 5 = .ok (.invokevirtual 102, 3) := by decide +kernel
theorem dX6_tariff_8 : decode cX6_tariff 8 = .ok (.ifCond .ne 6, 3) := by decide +kernel
theorem dX6_tariff_11 : decode cX6_tariff 11 = .ok (.bipush (-101), 2) := by decide +kernel
theorem dX6_tariff_13 : decode cX6_tariff 13 = .ok (.ireturn, 1) := by decide +kernel
theorem dX6_tariff_14 : decode cX6_tariff 14 = .ok (.aload_n 0, 1) := by decide +kernel
theorem dX6_tariff_15 : decode cX6_tariff 15 = .ok (.getfield 21, 3) := by decide +kernel
theorem dX6_tariff_18 : decode cX6_tariff 18 = .ok (.iload_n 1, 1) := by decide +kernel
theorem dX6_tariff_19 : decode cX6_tariff 19 = .ok (.invokevirtual 105, 3) := by decide +kernel
theorem dX6_tariff_22 : decode cX6_tariff 22 = .ok (.astore_n 3, 1) := by decide +kernel
theorem dX6_tariff_23 : decode cX6_tariff 23 = .ok (.iload_n 2, 1) := by decide +kernel
theorem dX6_tariff_24 : decode cX6_tariff 24 = .ok (.tableswitch 96 0 6 #[44, 49, 54, 59, 69, 76, 86], 44) := by decide +kernel
theorem dX6_tariff_68 : decode cX6_tariff 68 = .ok (.aload_n 3, 1) := by decide +kernel
theorem dX6_tariff_69 : decode cX6_tariff 69 = .ok (.getfield 109, 3) := by decide +kernel
theorem dX6_tariff_72 : decode cX6_tariff 72 = .ok (.ireturn, 1) := by decide +kernel
theorem dX6_tariff_73 : decode cX6_tariff 73 = .ok (.aload_n 3, 1) := by decide +kernel
theorem dX6_tariff_74 : decode cX6_tariff 74 = .ok (.getfield 112, 3) := by decide +kernel
theorem dX6_tariff_77 : decode cX6_tariff 77 = .ok (.ireturn, 1) := by decide +kernel
theorem dX6_tariff_78 : decode cX6_tariff 78 = .ok (.aload_n 3, 1) := by decide +kernel
theorem dX6_tariff_79 : decode cX6_tariff 79 = .ok (.getfield 115, 3) := by decide +kernel
theorem dX6_tariff_82 : decode cX6_tariff 82 = .ok (.ireturn, 1) := by decide +kernel
theorem dX6_tariff_83 : decode cX6_tariff 83 = .ok (.aload_n 0, 1) := by decide +kernel
theorem dX6_tariff_84 : decode cX6_tariff 84 = .ok (.getfield 30, 3) := by decide +kernel
theorem dX6_tariff_87 : decode cX6_tariff 87 = .ok (.iload_n 1, 1) := by decide +kernel
theorem dX6_tariff_88 : decode cX6_tariff 88 = .ok (.iload_n 1, 1) := by decide +kernel
theorem dX6_tariff_89 : decode cX6_tariff 89 = .ok (.invokevirtual 118, 3) := by decide +kernel
theorem dX6_tariff_92 : decode cX6_tariff 92 = .ok (.ireturn, 1) := by decide +kernel
theorem dX6_tariff_93 : decode cX6_tariff 93 = .ok (.aload_n 0, 1) := by decide +kernel
theorem dX6_tariff_94 : decode cX6_tariff 94 = .ok (.iload_n 1, 1) := by decide +kernel
theorem dX6_tariff_95 : decode cX6_tariff 95 = .ok (.iload_n 1, 1) := by decide +kernel
theorem dX6_tariff_96 : decode cX6_tariff 96 = .ok (.invokevirtual 122, 3) := by decide +kernel
theorem dX6_tariff_99 : decode cX6_tariff 99 = .ok (.ireturn, 1) := by decide +kernel
theorem dX6_tariff_100 : decode cX6_tariff 100 = .ok (.aload_n 0, 1) := by decide +kernel
theorem dX6_tariff_101 : decode cX6_tariff 101 = .ok (.getfield 37, 3) := by decide +kernel
theorem dX6_tariff_104 : decode cX6_tariff 104 = .ok (.iload_n 1, 1) := by decide +kernel
theorem dX6_tariff_105 : decode cX6_tariff 105 = .ok (.aload_n 3, 1) := by decide +kernel
theorem dX6_tariff_106 : decode cX6_tariff 106 = .ok (.invokevirtual 125, 3) := by decide +kernel
theorem dX6_tariff_109 : decode cX6_tariff 109 = .ok (.ireturn, 1) := by decide +kernel
theorem dX6_tariff_110 : decode cX6_tariff 110 = .ok (.aload_n 0, 1) := by decide +kernel
theorem dX6_tariff_111 : decode cX6_tariff 111 = .ok (.getfield 37, 3) := by decide +kernel
theorem dX6_tariff_114 : decode cX6_tariff 114 = .ok (.iload_n 1, 1) := by decide +kernel
theorem dX6_tariff_115 : decode cX6_tariff 115 = .ok (.aload_n 3, 1) := by decide +kernel
theorem dX6_tariff_116 : decode cX6_tariff 116 = .ok (.invokevirtual 129, 3) := by decide +kernel
theorem dX6_tariff_119 : decode cX6_tariff 119 = .ok (.ireturn, 1) := by decide +kernel
theorem dX6_tariff_120 : decode cX6_tariff 120 = .ok (.bipush (-102), 2) := by decide +kernel
theorem dX6_tariff_122 : decode cX6_tariff 122 = .ok (.ireturn, 1) := by decide +kernel
theorem dX6_as_0 : decode cX6_as 0 = .ok (.aload_n 0, 1) := by decide +kernel
theorem dX6_as_1 : decode cX6_as 1 = .ok (.getfield 21, 3) := by decide +kernel
theorem dX6_as_4 : decode cX6_as 4 = .ok (.iload_n 1, 1) := by decide +kernel
theorem dX6_as_5 : decode cX6_as 5 = .ok (.invokevirtual 102, 3) := by decide +kernel
theorem dX6_as_8 : decode cX6_as 8 = .ok (.ifCond .ne 6, 3) := by decide +kernel
theorem dX6_as_11 : decode cX6_as 11 = .ok (.bipush (-101), 2) := by decide +kernel
theorem dX6_as_13 : decode cX6_as 13 = .ok (.ireturn, 1) := by decide +kernel
theorem dX6_as_14 : decode cX6_as 14 = .ok (.iload_n 2, 1) := by decide +kernel
theorem dX6_as_15 : decode cX6_as 15 = .ok (.invokestatic 132, 3) := by decide +kernel
theorem dX6_as_18 : decode cX6_as 18 = .ok (.ifCond .ne 6, 3) := by decide +kernel
theorem dX6_as_21 : decode cX6_as 21 = .ok (.bipush (-102), 2) := by decide +kernel
theorem dX6_as_23 : decode cX6_as 23 = .ok (.ireturn, 1) := by decide +kernel
theorem dX6_as_24 : decode cX6_as 24 = .ok (.aload_n 0, 1) := by decide +kernel
theorem dX6_as_25 : decode cX6_as 25 = .ok (.getfield 21, 3) := by decide +kernel
theorem dX6_as_28 : decode cX6_as 28 = .ok (.iload_n 1, 1) := by decide +kernel
theorem dX6_as_29 : decode cX6_as 29 = .ok (.invokevirtual 105, 3) := by decide +kernel
theorem dX6_as_32 : decode cX6_as 32 = .ok (.iload_n 2, 1) := by decide +kernel
theorem dX6_as_33 : decode cX6_as 33 = .ok (.invokevirtual 135, 3) := by decide +kernel
theorem dX6_as_36 : decode cX6_as 36 = .ok (.ifCond .eq 7, 3) := by decide +kernel
theorem dX6_as_39 : decode cX6_as 39 = .ok (.iload_n 1, 1) := by decide +kernel
theorem dX6_as_40 : decode cX6_as 40 = .ok (.goto 4, 3) := by decide +kernel
theorem dX6_as_43 : decode cX6_as 43 = .ok (.iconst (-1), 1) := by decide +kernel
theorem dX6_as_44 : decode cX6_as 44 = .ok (.ireturn, 1) := by decide +kernel
theorem dX6_price_0 : decode cX6_price 0 = .ok (.aload_n 0, 1) := by decide +kernel
theorem dX6_price_1 : decode cX6_price 1 = .ok (.getfield 21, 3) := by decide +kernel
theorem dX6_price_4 : decode cX6_price 4 = .ok (.iload_n 1, 1) := by decide +kernel
theorem dX6_price_5 : decode cX6_price 5 = .ok (.invokevirtual 102, 3) := by decide +kernel
theorem dX6_price_8 : decode cX6_price 8 = .ok (.ifCond .eq 10, 3) := by decide +kernel
theorem dX6_price_11 : decode cX6_price 11 = .ok (.iload_n 2, 1) := by decide +kernel
theorem dX6_price_12 : decode cX6_price 12 = .ok (.invokestatic 138, 3) := by decide +kernel
theorem dX6_price_15 : decode cX6_price 15 = .ok (.ifCond .ne 7, 3) := by decide +kernel
theorem dX6_price_18 : decode cX6_price 18 = .ok (.ldc2_w 141, 3) := by decide +kernel
theorem dX6_price_21 : decode cX6_price 21 = .ok (.lreturn, 1) := by decide +kernel
theorem dX6_price_22 : decode cX6_price 22 = .ok (.aload_n 0, 1) := by decide +kernel
theorem dX6_price_23 : decode cX6_price 23 = .ok (.getfield 21, 3) := by decide +kernel
theorem dX6_price_26 : decode cX6_price 26 = .ok (.iload_n 1, 1) := by decide +kernel
theorem dX6_price_27 : decode cX6_price 27 = .ok (.invokevirtual 105, 3) := by decide +kernel
theorem dX6_price_30 : decode cX6_price 30 = .ok (.astore_n 3, 1) := by decide +kernel
theorem dX6_price_31 : decode cX6_price 31 = .ok (.aload_n 3, 1) := by decide +kernel
theorem dX6_price_32 : decode cX6_price 32 = .ok (.iload_n 2, 1) := by decide +kernel
theorem dX6_price_33 : decode cX6_price 33 = .ok (.invokevirtual 143, 3) := by decide +kernel
theorem dX6_price_36 : decode cX6_price 36 = .ok (.ifCond .eq 15, 3) := by decide +kernel
theorem dX6_price_39 : decode cX6_price 39 = .ok (.ldc2_w 146, 3) := by decide +kernel
theorem dX6_price_42 : decode cX6_price 42 = .ok (.aload_n 3, 1) := by decide +kernel
theorem dX6_price_43 : decode cX6_price 43 = .ok (.iload_n 2, 1) := by decide +kernel
theorem dX6_price_44 : decode cX6_price 44 = .ok (.invokevirtual 148, 3) := by decide +kernel
theorem dX6_price_47 : decode cX6_price 47 = .ok (.ladd, 1) := by decide +kernel
theorem dX6_price_48 : decode cX6_price 48 = .ok (.goto 6, 3) := by decide +kernel
theorem dX6_price_51 : decode cX6_price 51 = .ok (.ldc2_w 152, 3) := by decide +kernel
theorem dX6_price_54 : decode cX6_price 54 = .ok (.lreturn, 1) := by decide +kernel
theorem dX6_node_0 : decode cX6_node 0 = .ok (.iload_n 1, 1) := by decide +kernel
theorem dX6_node_1 : decode cX6_node 1 = .ok (.iconst 1, 1) := by decide +kernel
theorem dX6_node_2 : decode cX6_node 2 = .ok (.if_icmp .lt 9, 3) := by decide +kernel
theorem dX6_node_5 : decode cX6_node 5 = .ok (.iload_n 1, 1) := by decide +kernel
theorem dX6_node_6 : decode cX6_node 6 = .ok (.bipush 127, 2) := by decide +kernel
theorem dX6_node_8 : decode cX6_node 8 = .ok (.if_icmp .le 6, 3) := by decide +kernel
theorem dX6_node_11 : decode cX6_node 11 = .ok (.bipush (-101), 2) := by decide +kernel
theorem dX6_node_13 : decode cX6_node 13 = .ok (.ireturn, 1) := by decide +kernel
theorem dX6_node_14 : decode cX6_node 14 = .ok (.iload_n 2, 1) := by decide +kernel
theorem dX6_node_15 : decode cX6_node 15 = .ok (.tableswitch 53 0 3 #[29, 38, 43, 48], 29) := by decide +kernel
theorem dX6_node_44 : decode cX6_node 44 = .ok (.aload_n 0, 1) := by decide +kernel
theorem dX6_node_45 : decode cX6_node 45 = .ok (.getfield 30, 3) := by decide +kernel
theorem dX6_node_48 : decode cX6_node 48 = .ok (.iload_n 1, 1) := by decide +kernel
theorem dX6_node_49 : decode cX6_node 49 = .ok (.invokevirtual 154, 3) := by decide +kernel
theorem dX6_node_52 : decode cX6_node 52 = .ok (.ireturn, 1) := by decide +kernel
theorem dX6_node_53 : decode cX6_node 53 = .ok (.iload_n 1, 1) := by decide +kernel
theorem dX6_node_54 : decode cX6_node 54 = .ok (.invokestatic 158, 3) := by decide +kernel
theorem dX6_node_57 : decode cX6_node 57 = .ok (.ireturn, 1) := by decide +kernel
theorem dX6_node_58 : decode cX6_node 58 = .ok (.iload_n 1, 1) := by decide +kernel
theorem dX6_node_59 : decode cX6_node 59 = .ok (.invokestatic 161, 3) := by decide +kernel
theorem dX6_node_62 : decode cX6_node 62 = .ok (.ireturn, 1) := by decide +kernel
theorem dX6_node_63 : decode cX6_node 63 = .ok (.iload_n 1, 1) := by decide +kernel
theorem dX6_node_64 : decode cX6_node 64 = .ok (.invokestatic 164, 3) := by decide +kernel
theorem dX6_node_67 : decode cX6_node 67 = .ok (.ireturn, 1) := by decide +kernel
theorem dX6_node_68 : decode cX6_node 68 = .ok (.bipush (-102), 2) := by decide +kernel
theorem dX6_node_70 : decode cX6_node 70 = .ok (.ireturn, 1) := by decide +kernel
theorem dX6_offer_0 : decode cX6_offer 0 = .ok (.aload_n 0, 1) := by decide +kernel
theorem dX6_offer_1 : decode cX6_offer 1 = .ok (.iload_n 1, 1) := by decide +kernel
theorem dX6_offer_2 : decode cX6_offer 2 = .ok (.iload_n 2, 1) := by decide +kernel
theorem dX6_offer_3 : decode cX6_offer 3 = .ok (.iload_n 3, 1) := by decide +kernel
theorem dX6_offer_4 : decode cX6_offer 4 = .ok (.iload 4, 2) := by decide +kernel
theorem dX6_offer_6 : decode cX6_offer 6 = .ok (.invokevirtual 167, 3) := by decide +kernel
theorem dX6_offer_9 : decode cX6_offer 9 = .ok (.istore 5, 2) := by decide +kernel
theorem dX6_offer_11 : decode cX6_offer 11 = .ok (.iload 5, 2) := by decide +kernel
theorem dX6_offer_13 : decode cX6_offer 13 = .ok (.ifCond .ne 17, 3) := by decide +kernel
theorem dX6_offer_16 : decode cX6_offer 16 = .ok (.aload_n 0, 1) := by decide +kernel
theorem dX6_offer_17 : decode cX6_offer 17 = .ok (.getfield 30, 3) := by decide +kernel
theorem dX6_offer_20 : decode cX6_offer 20 = .ok (.aload_n 0, 1) := by decide +kernel
theorem dX6_offer_21 : decode cX6_offer 21 = .ok (.getfield 51, 3) := by decide +kernel
theorem dX6_offer_24 : decode cX6_offer 24 = .ok (.invokevirtual 97, 3) := by decide +kernel
theorem dX6_offer_27 : decode cX6_offer 27 = .ok (.goto 5, 3) := by decide +kernel
theorem dX6_offer_30 : decode cX6_offer 30 = .ok (.iload 5, 2) := by decide +kernel
theorem dX6_offer_32 : decode cX6_offer 32 = .ok (.ireturn, 1) := by decide +kernel
theorem dX6_undo_0 : decode cX6_undo 0 = .ok (.aload_n 0, 1) := by decide +kernel
theorem dX6_undo_1 : decode cX6_undo 1 = .ok (.getfield 21, 3) := by decide +kernel
theorem dX6_undo_4 : decode cX6_undo 4 = .ok (.getfield 101, 3) := by decide +kernel
theorem dX6_undo_7 : decode cX6_undo 7 = .ok (.ifCond .ne 6, 3) := by decide +kernel
theorem dX6_undo_10 : decode cX6_undo 10 = .ok (.bipush (-103), 2) := by decide +kernel
theorem dX6_undo_12 : decode cX6_undo 12 = .ok (.ireturn, 1) := by decide +kernel
theorem dX6_undo_13 : decode cX6_undo 13 = .ok (.aload_n 0, 1) := by decide +kernel
theorem dX6_undo_14 : decode cX6_undo 14 = .ok (.getfield 30, 3) := by decide +kernel
theorem dX6_undo_17 : decode cX6_undo 17 = .ok (.invokevirtual 171, 3) := by decide +kernel
theorem dX6_undo_20 : decode cX6_undo 20 = .ok (.aload_n 0, 1) := by decide +kernel
theorem dX6_undo_21 : decode cX6_undo 21 = .ok (.getfield 21, 3) := by decide +kernel
theorem dX6_undo_24 : decode cX6_undo 24 = .ok (.getfield 101, 3) := by decide +kernel
theorem dX6_undo_27 : decode cX6_undo 27 = .ok (.ireturn, 1) := by decide +kernel
theorem dX6_cheapest_0 : decode cX6_cheapest 0 = .ok (.iload_n 1, 1) := by decide +kernel
theorem dX6_cheapest_1 : decode cX6_cheapest 1 = .ok (.invokestatic 138, 3) := by decide +kernel
theorem dX6_cheapest_4 : decode cX6_cheapest 4 = .ok (.ifCond .eq 10, 3) := by decide +kernel
theorem dX6_cheapest_7 : decode cX6_cheapest 7 = .ok (.aload_n 0, 1) := by decide +kernel
theorem dX6_cheapest_8 : decode cX6_cheapest 8 = .ok (.getfield 87, 3) := by decide +kernel
theorem dX6_cheapest_11 : decode cX6_cheapest 11 = .ok (.ifCond .ne 6, 3) := by decide +kernel
theorem dX6_cheapest_14 : decode cX6_cheapest 14 = .ok (.bipush (-101), 2) := by decide +kernel
theorem dX6_cheapest_16 : decode cX6_cheapest 16 = .ok (.ireturn, 1) := by decide +kernel
theorem dX6_cheapest_17 : decode cX6_cheapest 17 = .ok (.aload_n 0, 1) := by decide +kernel
theorem dX6_cheapest_18 : decode cX6_cheapest 18 = .ok (.getfield 30, 3) := by decide +kernel
theorem dX6_cheapest_21 : decode cX6_cheapest 21 = .ok (.iload_n 1, 1) := by decide +kernel
theorem dX6_cheapest_22 : decode cX6_cheapest 22 = .ok (.invokevirtual 174, 3) := by decide +kernel
theorem dX6_cheapest_25 : decode cX6_cheapest 25 = .ok (.ireturn, 1) := by decide +kernel
theorem dX6_cost_0 : decode cX6_cost 0 = .ok (.iload_n 1, 1) := by decide +kernel
theorem dX6_cost_1 : decode cX6_cost 1 = .ok (.invokestatic 138, 3) := by decide +kernel
theorem dX6_cost_4 : decode cX6_cost 4 = .ok (.ifCond .eq 10, 3) := by decide +kernel
theorem dX6_cost_7 : decode cX6_cost 7 = .ok (.aload_n 0, 1) := by decide +kernel
theorem dX6_cost_8 : decode cX6_cost 8 = .ok (.getfield 87, 3) := by decide +kernel
theorem dX6_cost_11 : decode cX6_cost 11 = .ok (.ifCond .ne 7, 3) := by decide +kernel
theorem dX6_cost_14 : decode cX6_cost 14 = .ok (.ldc2_w 141, 3) := by decide +kernel
theorem dX6_cost_17 : decode cX6_cost 17 = .ok (.lreturn, 1) := by decide +kernel
theorem dX6_cost_18 : decode cX6_cost 18 = .ok (.aload_n 0, 1) := by decide +kernel
theorem dX6_cost_19 : decode cX6_cost 19 = .ok (.getfield 30, 3) := by decide +kernel
theorem dX6_cost_22 : decode cX6_cost 22 = .ok (.iload_n 1, 1) := by decide +kernel
theorem dX6_cost_23 : decode cX6_cost 23 = .ok (.invokevirtual 174, 3) := by decide +kernel
theorem dX6_cost_26 : decode cX6_cost 26 = .ok (.istore_n 2, 1) := by decide +kernel
theorem dX6_cost_27 : decode cX6_cost 27 = .ok (.iload_n 2, 1) := by decide +kernel
theorem dX6_cost_28 : decode cX6_cost 28 = .ok (.iconst (-1), 1) := by decide +kernel
theorem dX6_cost_29 : decode cX6_cost 29 = .ok (.if_icmp .ne 9, 3) := by decide +kernel
theorem dX6_cost_32 : decode cX6_cost 32 = .ok (.ldc2_w 177, 3) := by decide +kernel
theorem dX6_cost_35 : decode cX6_cost 35 = .ok (.goto 19, 3) := by decide +kernel
theorem dX6_cost_38 : decode cX6_cost 38 = .ok (.ldc2_w 146, 3) := by decide +kernel
theorem dX6_cost_41 : decode cX6_cost 41 = .ok (.aload_n 0, 1) := by decide +kernel
theorem dX6_cost_42 : decode cX6_cost 42 = .ok (.getfield 21, 3) := by decide +kernel
theorem dX6_cost_45 : decode cX6_cost 45 = .ok (.iload_n 2, 1) := by decide +kernel
theorem dX6_cost_46 : decode cX6_cost 46 = .ok (.invokevirtual 105, 3) := by decide +kernel
theorem dX6_cost_49 : decode cX6_cost 49 = .ok (.iload_n 1, 1) := by decide +kernel
theorem dX6_cost_50 : decode cX6_cost 50 = .ok (.invokevirtual 148, 3) := by decide +kernel
theorem dX6_cost_53 : decode cX6_cost 53 = .ok (.ladd, 1) := by decide +kernel
theorem dX6_cost_54 : decode cX6_cost 54 = .ok (.lreturn, 1) := by decide +kernel
theorem dX6_piece_0 : decode cX6_piece 0 = .ok (.aload_n 0, 1) := by decide +kernel
theorem dX6_piece_1 : decode cX6_piece 1 = .ok (.iload_n 1, 1) := by decide +kernel
theorem dX6_piece_2 : decode cX6_piece 2 = .ok (.invokevirtual 179, 3) := by decide +kernel
theorem dX6_piece_5 : decode cX6_piece 5 = .ok (.istore_n 3, 1) := by decide +kernel
theorem dX6_piece_6 : decode cX6_piece 6 = .ok (.iload_n 3, 1) := by decide +kernel
theorem dX6_piece_7 : decode cX6_piece 7 = .ok (.iconst (-1), 1) := by decide +kernel
theorem dX6_piece_8 : decode cX6_piece 8 = .ok (.if_icmp .ne 6, 3) := by decide +kernel
theorem dX6_piece_11 : decode cX6_piece 11 = .ok (.bipush (-101), 2) := by decide +kernel
theorem dX6_piece_13 : decode cX6_piece 13 = .ok (.ireturn, 1) := by decide +kernel
theorem dX6_piece_14 : decode cX6_piece 14 = .ok (.iload_n 2, 1) := by decide +kernel
theorem dX6_piece_15 : decode cX6_piece 15 = .ok (.tableswitch 42 0 2 #[25, 34, 36], 25) := by decide +kernel
theorem dX6_piece_40 : decode cX6_piece 40 = .ok (.aload_n 0, 1) := by decide +kernel
theorem dX6_piece_41 : decode cX6_piece 41 = .ok (.getfield 30, 3) := by decide +kernel
theorem dX6_piece_44 : decode cX6_piece 44 = .ok (.iload_n 3, 1) := by decide +kernel
theorem dX6_piece_45 : decode cX6_piece 45 = .ok (.invokevirtual 174, 3) := by decide +kernel
theorem dX6_piece_48 : decode cX6_piece 48 = .ok (.ireturn, 1) := by decide +kernel
theorem dX6_piece_49 : decode cX6_piece 49 = .ok (.iload_n 3, 1) := by decide +kernel
theorem dX6_piece_50 : decode cX6_piece 50 = .ok (.ireturn, 1) := by decide +kernel
theorem dX6_piece_51 : decode cX6_piece 51 = .ok (.aload_n 0, 1) := by decide +kernel
theorem dX6_piece_52 : decode cX6_piece 52 = .ok (.iload_n 3, 1) := by decide +kernel
theorem dX6_piece_53 : decode cX6_piece 53 = .ok (.invokevirtual 182, 3) := by decide +kernel
theorem dX6_piece_56 : decode cX6_piece 56 = .ok (.ireturn, 1) := by decide +kernel
theorem dX6_piece_57 : decode cX6_piece 57 = .ok (.bipush (-102), 2) := by decide +kernel
theorem dX6_piece_59 : decode cX6_piece 59 = .ok (.ireturn, 1) := by decide +kernel
theorem dX6_bargain_0 : decode cX6_bargain 0 = .ok (.iload_n 1, 1) := by decide +kernel
theorem dX6_bargain_1 : decode cX6_bargain 1 = .ok (.invokestatic 138, 3) := by decide +kernel
theorem dX6_bargain_4 : decode cX6_bargain 4 = .ok (.ifCond .eq 15, 3) := by decide +kernel
theorem dX6_bargain_7 : decode cX6_bargain 7 = .ok (.iload_n 2, 1) := by decide +kernel
theorem dX6_bargain_8 : decode cX6_bargain 8 = .ok (.invokestatic 138, 3) := by decide +kernel
theorem dX6_bargain_11 : decode cX6_bargain 11 = .ok (.ifCond .eq 8, 3) := by decide +kernel
theorem dX6_bargain_14 : decode cX6_bargain 14 = .ok (.iload_n 1, 1) := by decide +kernel
theorem dX6_bargain_15 : decode cX6_bargain 15 = .ok (.iload_n 2, 1) := by decide +kernel
theorem dX6_bargain_16 : decode cX6_bargain 16 = .ok (.if_icmp .le 6, 3) := by decide +kernel
theorem dX6_bargain_19 : decode cX6_bargain 19 = .ok (.bipush (-102), 2) := by decide +kernel
theorem dX6_bargain_21 : decode cX6_bargain 21 = .ok (.ireturn, 1) := by decide +kernel
theorem dX6_bargain_22 : decode cX6_bargain 22 = .ok (.aload_n 0, 1) := by decide +kernel
theorem dX6_bargain_23 : decode cX6_bargain 23 = .ok (.getfield 87, 3) := by decide +kernel
theorem dX6_bargain_26 : decode cX6_bargain 26 = .ok (.ifCond .ne 6, 3) := by decide +kernel
theorem dX6_bargain_29 : decode cX6_bargain 29 = .ok (.bipush (-103), 2) := by decide +kernel
theorem dX6_bargain_31 : decode cX6_bargain 31 = .ok (.ireturn, 1) := by decide +kernel
theorem dX6_bargain_32 : decode cX6_bargain 32 = .ok (.iconst (-1), 1) := by decide +kernel
theorem dX6_bargain_33 : decode cX6_bargain 33 = .ok (.istore_n 3, 1) := by decide +kernel
theorem dX6_bargain_34 : decode cX6_bargain 34 = .ok (.lconst 0, 1) := by decide +kernel
theorem dX6_bargain_35 : decode cX6_bargain 35 = .ok (.lstore 4, 2) := by decide +kernel
theorem dX6_bargain_37 : decode cX6_bargain 37 = .ok (.iload_n 1, 1) := by decide +kernel
theorem dX6_bargain_38 : decode cX6_bargain 38 = .ok (.istore 6, 2) := by decide +kernel
theorem dX6_bargain_40 : decode cX6_bargain 40 = .ok (.iload 6, 2) := by decide +kernel
theorem dX6_bargain_42 : decode cX6_bargain 42 = .ok (.iload_n 2, 1) := by decide +kernel
theorem dX6_bargain_43 : decode cX6_bargain 43 = .ok (.if_icmp .gt 62, 3) := by decide +kernel
theorem dX6_bargain_46 : decode cX6_bargain 46 = .ok (.aload_n 0, 1) := by decide +kernel
theorem dX6_bargain_47 : decode cX6_bargain 47 = .ok (.getfield 30, 3) := by decide +kernel
theorem dX6_bargain_50 : decode cX6_bargain 50 = .ok (.iload 6, 2) := by decide +kernel
theorem dX6_bargain_52 : decode cX6_bargain 52 = .ok (.invokevirtual 174, 3) := by decide +kernel
theorem dX6_bargain_55 : decode cX6_bargain 55 = .ok (.istore 7, 2) := by decide +kernel
theorem dX6_bargain_57 : decode cX6_bargain 57 = .ok (.iload 7, 2) := by decide +kernel
theorem dX6_bargain_59 : decode cX6_bargain 59 = .ok (.iconst (-1), 1) := by decide +kernel
theorem dX6_bargain_60 : decode cX6_bargain 60 = .ok (.if_icmp .eq 39, 3) := by decide +kernel
theorem dX6_bargain_63 : decode cX6_bargain 63 = .ok (.aload_n 0, 1) := by decide +kernel
theorem dX6_bargain_64 : decode cX6_bargain 64 = .ok (.getfield 21, 3) := by decide +kernel
theorem dX6_bargain_67 : decode cX6_bargain 67 = .ok (.iload 7, 2) := by decide +kernel
theorem dX6_bargain_69 : decode cX6_bargain 69 = .ok (.invokevirtual 105, 3) := by decide +kernel
theorem dX6_bargain_72 : decode cX6_bargain 72 = .ok (.iload 6, 2) := by decide +kernel
theorem dX6_bargain_74 : decode cX6_bargain 74 = .ok (.invokevirtual 148, 3) := by decide +kernel
theorem dX6_bargain_77 : decode cX6_bargain 77 = .ok (.lstore 8, 2) := by decide +kernel
theorem dX6_bargain_79 : decode cX6_bargain 79 = .ok (.iload_n 3, 1) := by decide +kernel
theorem dX6_bargain_80 : decode cX6_bargain 80 = .ok (.iconst (-1), 1) := by decide +kernel
theorem dX6_bargain_81 : decode cX6_bargain 81 = .ok (.if_icmp .eq 11, 3) := by decide +kernel
theorem dX6_bargain_84 : decode cX6_bargain 84 = .ok (.lload 8, 2) := by decide +kernel
theorem dX6_bargain_86 : decode cX6_bargain 86 = .ok (.lload 4, 2) := by decide +kernel
theorem dX6_bargain_88 : decode cX6_bargain 88 = .ok (.lcmp, 1) := by decide +kernel
theorem dX6_bargain_89 : decode cX6_bargain 89 = .ok (.ifCond .ge 10, 3) := by decide +kernel
theorem dX6_bargain_92 : decode cX6_bargain 92 = .ok (.iload 6, 2) := by decide +kernel
theorem dX6_bargain_94 : decode cX6_bargain 94 = .ok (.istore_n 3, 1) := by decide +kernel
theorem dX6_bargain_95 : decode cX6_bargain 95 = .ok (.lload 8, 2) := by decide +kernel
theorem dX6_bargain_97 : decode cX6_bargain 97 = .ok (.lstore 4, 2) := by decide +kernel
theorem dX6_bargain_99 : decode cX6_bargain 99 = .ok (.iinc 6 1, 3) := by decide +kernel
theorem dX6_bargain_102 : decode cX6_bargain 102 = .ok (.goto (-62), 3) := by decide +kernel
theorem dX6_bargain_105 : decode cX6_bargain 105 = .ok (.iload_n 3, 1) := by decide +kernel
theorem dX6_bargain_106 : decode cX6_bargain 106 = .ok (.ireturn, 1) := by decide +kernel
theorem dX6_crossing_0 : decode cX6_crossing 0 = .ok (.aload_n 0, 1) := by decide +kernel
theorem dX6_crossing_1 : decode cX6_crossing 1 = .ok (.getfield 21, 3) := by decide +kernel
theorem dX6_crossing_4 : decode cX6_crossing 4 = .ok (.iload_n 1, 1) := by decide +kernel
theorem dX6_crossing_5 : decode cX6_crossing 5 = .ok (.invokevirtual 102, 3) := by decide +kernel
theorem dX6_crossing_8 : decode cX6_crossing 8 = .ok (.ifCond .eq 19, 3) := by decide +kernel
theorem dX6_crossing_11 : decode cX6_crossing 11 = .ok (.aload_n 0, 1) := by decide +kernel
theorem dX6_crossing_12 : decode cX6_crossing 12 = .ok (.getfield 21, 3) := by decide +kernel
theorem dX6_crossing_15 : decode cX6_crossing 15 = .ok (.iload_n 2, 1) := by decide +kernel
theorem dX6_crossing_16 : decode cX6_crossing 16 = .ok (.invokevirtual 102, 3) := by decide +kernel
theorem dX6_crossing_19 : decode cX6_crossing 19 = .ok (.ifCond .eq 8, 3) := by decide +kernel
theorem dX6_crossing_22 : decode cX6_crossing 22 = .ok (.iload_n 1, 1) := by decide +kernel
theorem dX6_crossing_23 : decode cX6_crossing 23 = .ok (.iload_n 2, 1) := by decide +kernel
theorem dX6_crossing_24 : decode cX6_crossing 24 = .ok (.if_icmp .ne 6, 3) := by decide +kernel
theorem dX6_crossing_27 : decode cX6_crossing 27 = .ok (.bipush (-101), 2) := by decide +kernel
theorem dX6_crossing_29 : decode cX6_crossing 29 = .ok (.ireturn, 1) := by decide +kernel
theorem dX6_crossing_30 : decode cX6_crossing 30 = .ok (.aload_n 0, 1) := by decide +kernel
theorem dX6_crossing_31 : decode cX6_crossing 31 = .ok (.getfield 21, 3) := by decide +kernel
theorem dX6_crossing_34 : decode cX6_crossing 34 = .ok (.iload_n 1, 1) := by decide +kernel
theorem dX6_crossing_35 : decode cX6_crossing 35 = .ok (.invokevirtual 105, 3) := by decide +kernel
theorem dX6_crossing_38 : decode cX6_crossing 38 = .ok (.getfield 112, 3) := by decide +kernel
theorem dX6_crossing_41 : decode cX6_crossing 41 = .ok (.aload_n 0, 1) := by decide +kernel
theorem dX6_crossing_42 : decode cX6_crossing 42 = .ok (.getfield 21, 3) := by decide +kernel
theorem dX6_crossing_45 : decode cX6_crossing 45 = .ok (.iload_n 2, 1) := by decide +kernel
theorem dX6_crossing_46 : decode cX6_crossing 46 = .ok (.invokevirtual 105, 3) := by decide +kernel
theorem dX6_crossing_49 : decode cX6_crossing 49 = .ok (.getfield 112, 3) := by decide +kernel
theorem dX6_crossing_52 : decode cX6_crossing 52 = .ok (.invokestatic 185, 3) := by decide +kernel
theorem dX6_crossing_55 : decode cX6_crossing 55 = .ok (.istore_n 3, 1) := by decide +kernel
theorem dX6_crossing_56 : decode cX6_crossing 56 = .ok (.aload_n 0, 1) := by decide +kernel
theorem dX6_crossing_57 : decode cX6_crossing 57 = .ok (.getfield 21, 3) := by decide +kernel
theorem dX6_crossing_60 : decode cX6_crossing 60 = .ok (.iload_n 1, 1) := by decide +kernel
theorem dX6_crossing_61 : decode cX6_crossing 61 = .ok (.invokevirtual 105, 3) := by decide +kernel
theorem dX6_crossing_64 : decode cX6_crossing 64 = .ok (.getfield 115, 3) := by decide +kernel
theorem dX6_crossing_67 : decode cX6_crossing 67 = .ok (.aload_n 0, 1) := by decide +kernel
theorem dX6_crossing_68 : decode cX6_crossing 68 = .ok (.getfield 21, 3) := by decide +kernel
theorem dX6_crossing_71 : decode cX6_crossing 71 = .ok (.iload_n 2, 1) := by decide +kernel
theorem dX6_crossing_72 : decode cX6_crossing 72 = .ok (.invokevirtual 105, 3) := by decide +kernel
theorem dX6_crossing_75 : decode cX6_crossing 75 = .ok (.getfield 115, 3) := by decide +kernel
theorem dX6_crossing_78 : decode cX6_crossing 78 = .ok (.invokestatic 190, 3) := by decide +kernel
theorem dX6_crossing_81 : decode cX6_crossing 81 = .ok (.istore 4, 2) := by decide +kernel
theorem dX6_crossing_83 : decode cX6_crossing 83 = .ok (.iload_n 3, 1) := by decide +kernel
theorem dX6_crossing_84 : decode cX6_crossing 84 = .ok (.istore 5, 2) := by decide +kernel
theorem dX6_crossing_86 : decode cX6_crossing 86 = .ok (.iload 5, 2) := by decide +kernel
theorem dX6_crossing_88 : decode cX6_crossing 88 = .ok (.iload 4, 2) := by decide +kernel
theorem dX6_crossing_90 : decode cX6_crossing 90 = .ok (.if_icmp .gt 26, 3) := by decide +kernel
theorem dX6_crossing_93 : decode cX6_crossing 93 = .ok (.aload_n 0, 1) := by decide +kernel
theorem dX6_crossing_94 : decode cX6_crossing 94 = .ok (.getfield 21, 3) := by decide +kernel
theorem dX6_crossing_97 : decode cX6_crossing 97 = .ok (.iload_n 2, 1) := by decide +kernel
theorem dX6_crossing_98 : decode cX6_crossing 98 = .ok (.iload_n 1, 1) := by decide +kernel
theorem dX6_crossing_99 : decode cX6_crossing 99 = .ok (.iload 5, 2) := by decide +kernel
theorem dX6_crossing_101 : decode cX6_crossing 101 = .ok (.invokevirtual 193, 3) := by decide +kernel
theorem dX6_crossing_104 : decode cX6_crossing 104 = .ok (.ifCond .eq 6, 3) := by decide +kernel
theorem dX6_crossing_107 : decode cX6_crossing 107 = .ok (.iload 5, 2) := by decide +kernel
theorem dX6_crossing_109 : decode cX6_crossing 109 = .ok (.ireturn, 1) := by decide +kernel
theorem dX6_crossing_110 : decode cX6_crossing 110 = .ok (.iinc 5 1, 3) := by decide +kernel
theorem dX6_crossing_113 : decode cX6_crossing 113 = .ok (.goto (-27), 3) := by decide +kernel
theorem dX6_crossing_116 : decode cX6_crossing 116 = .ok (.iconst (-1), 1) := by decide +kernel
theorem dX6_crossing_117 : decode cX6_crossing 117 = .ok (.ireturn, 1) := by decide +kernel
theorem dX6_would_0 : decode cX6_would 0 = .ok (.aload_n 0, 1) := by decide +kernel
theorem dX6_would_1 : decode cX6_would 1 = .ok (.iload_n 1, 1) := by decide +kernel
theorem dX6_would_2 : decode cX6_would 2 = .ok (.iload_n 2, 1) := by decide +kernel
theorem dX6_would_3 : decode cX6_would 3 = .ok (.iload_n 3, 1) := by decide +kernel
theorem dX6_would_4 : decode cX6_would 4 = .ok (.iload 4, 2) := by decide +kernel
theorem dX6_would_6 : decode cX6_would 6 = .ok (.invokevirtual 167, 3) := by decide +kernel
theorem dX6_would_9 : decode cX6_would 9 = .ok (.istore 5, 2) := by decide +kernel
theorem dX6_would_11 : decode cX6_would 11 = .ok (.iload 5, 2) := by decide +kernel
theorem dX6_would_13 : decode cX6_would 13 = .ok (.ifCond .eq 6, 3) := by decide +kernel
theorem dX6_would_16 : decode cX6_would 16 = .ok (.iload 5, 2) := by decide +kernel
theorem dX6_would_18 : decode cX6_would 18 = .ok (.ireturn, 1) := by decide +kernel
theorem dX6_would_19 : decode cX6_would 19 = .ok (.iconst 0, 1) := by decide +kernel
theorem dX6_would_20 : decode cX6_would 20 = .ok (.istore 6, 2) := by decide +kernel
theorem dX6_would_22 : decode cX6_would 22 = .ok (.aload_n 0, 1) := by decide +kernel
theorem dX6_would_23 : decode cX6_would 23 = .ok (.getfield 51, 3) := by decide +kernel
theorem dX6_would_26 : decode cX6_would 26 = .ok (.getfield 112, 3) := by decide +kernel
theorem dX6_would_29 : decode cX6_would 29 = .ok (.istore 7, 2) := by decide +kernel
theorem dX6_would_31 : decode cX6_would 31 = .ok (.iload 7, 2) := by decide +kernel
theorem dX6_would_33 : decode cX6_would 33 = .ok (.aload_n 0, 1) := by decide +kernel
theorem dX6_would_34 : decode cX6_would 34 = .ok (.getfield 51, 3) := by decide +kernel
theorem dX6_would_37 : decode cX6_would 37 = .ok (.getfield 115, 3) := by decide +kernel
theorem dX6_would_40 : decode cX6_would 40 = .ok (.if_icmp .gt 56, 3) := by decide +kernel
theorem dX6_would_43 : decode cX6_would 43 = .ok (.aload_n 0, 1) := by decide +kernel
theorem dX6_would_44 : decode cX6_would 44 = .ok (.getfield 30, 3) := by decide +kernel
theorem dX6_would_47 : decode cX6_would 47 = .ok (.iload 7, 2) := by decide +kernel
theorem dX6_would_49 : decode cX6_would 49 = .ok (.invokevirtual 174, 3) := by decide +kernel
theorem dX6_would_52 : decode cX6_would 52 = .ok (.istore 8, 2) := by decide +kernel
theorem dX6_would_54 : decode cX6_would 54 = .ok (.iload 8, 2) := by decide +kernel
theorem dX6_would_56 : decode cX6_would 56 = .ok (.iconst (-1), 1) := by decide +kernel
theorem dX6_would_57 : decode cX6_would 57 = .ok (.if_icmp .eq 30, 3) := by decide +kernel
theorem dX6_would_60 : decode cX6_would 60 = .ok (.aload_n 0, 1) := by decide +kernel
theorem dX6_would_61 : decode cX6_would 61 = .ok (.getfield 51, 3) := by decide +kernel
theorem dX6_would_64 : decode cX6_would 64 = .ok (.iload 7, 2) := by decide +kernel
theorem dX6_would_66 : decode cX6_would 66 = .ok (.invokevirtual 148, 3) := by decide +kernel
theorem dX6_would_69 : decode cX6_would 69 = .ok (.aload_n 0, 1) := by decide +kernel
theorem dX6_would_70 : decode cX6_would 70 = .ok (.getfield 21, 3) := by decide +kernel
theorem dX6_would_73 : decode cX6_would 73 = .ok (.iload 8, 2) := by decide +kernel
theorem dX6_would_75 : decode cX6_would 75 = .ok (.invokevirtual 105, 3) := by decide +kernel
theorem dX6_would_78 : decode cX6_would 78 = .ok (.iload 7, 2) := by decide +kernel
theorem dX6_would_80 : decode cX6_would 80 = .ok (.invokevirtual 148, 3) := by decide +kernel
theorem dX6_would_83 : decode cX6_would 83 = .ok (.lcmp, 1) := by decide +kernel
theorem dX6_would_84 : decode cX6_would 84 = .ok (.ifCond .ge 6, 3) := by decide +kernel
theorem dX6_would_87 : decode cX6_would 87 = .ok (.iinc 6 1, 3) := by decide +kernel
theorem dX6_would_90 : decode cX6_would 90 = .ok (.iinc 7 1, 3) := by decide +kernel
theorem dX6_would_93 : decode cX6_would 93 = .ok (.goto (-62), 3) := by decide +kernel
theorem dX6_would_96 : decode cX6_would 96 = .ok (.iload 6, 2) := by decide +kernel
theorem dX6_would_98 : decode cX6_would 98 = .ok (.ireturn, 1) := by decide +kernel
theorem dX6_see_0 : decode cX6_see 0 = .ok (.aload_n 0, 1) := by decide +kernel
theorem dX6_see_1 : decode cX6_see 1 = .ok (.getfield 21, 3) := by decide +kernel
theorem dX6_see_4 : decode cX6_see 4 = .ok (.iload_n 1, 1) := by decide +kernel
theorem dX6_see_5 : decode cX6_see 5 = .ok (.invokevirtual 102, 3) := by decide +kernel
theorem dX6_see_8 : decode cX6_see 8 = .ok (.ifCond .eq 10, 3) := by decide +kernel
theorem dX6_see_11 : decode cX6_see 11 = .ok (.iload_n 2, 1) := by decide +kernel
theorem dX6_see_12 : decode cX6_see 12 = .ok (.invokestatic 138, 3) := by decide +kernel
theorem dX6_see_15 : decode cX6_see 15 = .ok (.ifCond .ne 6, 3) := by decide +kernel
theorem dX6_see_18 : decode cX6_see 18 = .ok (.bipush (-101), 2) := by decide +kernel
theorem dX6_see_20 : decode cX6_see 20 = .ok (.ireturn, 1) := by decide +kernel
theorem dX6_see_21 : decode cX6_see 21 = .ok (.aload_n 0, 1) := by decide +kernel
theorem dX6_see_22 : decode cX6_see 22 = .ok (.getfield 37, 3) := by decide +kernel
theorem dX6_see_25 : decode cX6_see 25 = .ok (.iload_n 1, 1) := by decide +kernel
theorem dX6_see_26 : decode cX6_see 26 = .ok (.iload_n 2, 1) := by decide +kernel
theorem dX6_see_27 : decode cX6_see 27 = .ok (.iload_n 3, 1) := by decide +kernel
theorem dX6_see_28 : decode cX6_see 28 = .ok (.invokevirtual 197, 3) := by decide +kernel
theorem dX6_see_31 : decode cX6_see 31 = .ok (.ifCond .eq 13, 3) := by decide +kernel
theorem dX6_see_34 : decode cX6_see 34 = .ok (.aload_n 0, 1) := by decide +kernel
theorem dX6_see_35 : decode cX6_see 35 = .ok (.getfield 37, 3) := by decide +kernel
theorem dX6_see_38 : decode cX6_see 38 = .ok (.getfield 80, 3) := by decide +kernel
theorem dX6_see_41 : decode cX6_see 41 = .ok (.goto 5, 3) := by decide +kernel
theorem dX6_see_44 : decode cX6_see 44 = .ok (.bipush (-104), 2) := by decide +kernel
theorem dX6_see_46 : decode cX6_see 46 = .ok (.ireturn, 1) := by decide +kernel
theorem dX6_forget_0 : decode cX6_forget 0 = .ok (.aload_n 0, 1) := by decide +kernel
theorem dX6_forget_1 : decode cX6_forget 1 = .ok (.getfield 37, 3) := by decide +kernel
theorem dX6_forget_4 : decode cX6_forget 4 = .ok (.getfield 80, 3) := by decide +kernel
theorem dX6_forget_7 : decode cX6_forget 7 = .ok (.istore_n 1, 1) := by decide +kernel
theorem dX6_forget_8 : decode cX6_forget 8 = .ok (.aload_n 0, 1) := by decide +kernel
theorem dX6_forget_9 : decode cX6_forget 9 = .ok (.getfield 37, 3) := by decide +kernel
theorem dX6_forget_12 : decode cX6_forget 12 = .ok (.iconst 0, 1) := by decide +kernel
theorem dX6_forget_13 : decode cX6_forget 13 = .ok (.putfield 80, 3) := by decide +kernel
theorem dX6_forget_16 : decode cX6_forget 16 = .ok (.iload_n 1, 1) := by decide +kernel
theorem dX6_forget_17 : decode cX6_forget 17 = .ok (.ireturn, 1) := by decide +kernel
theorem dX6_drawn_0 : decode cX6_drawn 0 = .ok (.iload_n 1, 1) := by decide +kernel
theorem dX6_drawn_1 : decode cX6_drawn 1 = .ok (.iconst 1, 1) := by decide +kernel
theorem dX6_drawn_2 : decode cX6_drawn 2 = .ok (.if_icmp .lt 22, 3) := by decide +kernel
theorem dX6_drawn_5 : decode cX6_drawn 5 = .ok (.iload_n 1, 1) := by decide +kernel
theorem dX6_drawn_6 : decode cX6_drawn 6 = .ok (.bipush 30, 2) := by decide +kernel
theorem dX6_drawn_8 : decode cX6_drawn 8 = .ok (.if_icmp .gt 16, 3) := by decide +kernel
theorem dX6_drawn_11 : decode cX6_drawn 11 = .ok (.iload_n 2, 1) := by decide +kernel
theorem dX6_drawn_12 : decode cX6_drawn 12 = .ok (.ifCond .lt 12, 3) := by decide +kernel
theorem dX6_drawn_15 : decode cX6_drawn 15 = .ok (.iload_n 3, 1) := by decide +kernel
theorem dX6_drawn_16 : decode cX6_drawn 16 = .ok (.ifCond .lt 8, 3) := by decide +kernel
theorem dX6_drawn_19 : decode cX6_drawn 19 = .ok (.iload_n 3, 1) := by decide +kernel
theorem dX6_drawn_20 : decode cX6_drawn 20 = .ok (.iconst 2, 1) := by decide +kernel
theorem dX6_drawn_21 : decode cX6_drawn 21 = .ok (.if_icmp .le 6, 3) := by decide +kernel
theorem dX6_drawn_24 : decode cX6_drawn 24 = .ok (.bipush (-102), 2) := by decide +kernel
theorem dX6_drawn_26 : decode cX6_drawn 26 = .ok (.ireturn, 1) := by decide +kernel
theorem dX6_drawn_27 : decode cX6_drawn 27 = .ok (.aload_n 0, 1) := by decide +kernel
theorem dX6_drawn_28 : decode cX6_drawn 28 = .ok (.getfield 87, 3) := by decide +kernel
theorem dX6_drawn_31 : decode cX6_drawn 31 = .ok (.ifCond .ne 6, 3) := by decide +kernel
theorem dX6_drawn_34 : decode cX6_drawn 34 = .ok (.bipush (-103), 2) := by decide +kernel
theorem dX6_drawn_36 : decode cX6_drawn 36 = .ok (.ireturn, 1) := by decide +kernel
theorem dX6_drawn_37 : decode cX6_drawn 37 = .ok (.aload_n 0, 1) := by decide +kernel
theorem dX6_drawn_38 : decode cX6_drawn 38 = .ok (.getfield 21, 3) := by decide +kernel
theorem dX6_drawn_41 : decode cX6_drawn 41 = .ok (.getfield 101, 3) := by decide +kernel
theorem dX6_drawn_44 : decode cX6_drawn 44 = .ok (.istore 4, 2) := by decide +kernel
theorem dX6_drawn_46 : decode cX6_drawn 46 = .ok (.aload_n 0, 1) := by decide +kernel
theorem dX6_drawn_47 : decode cX6_drawn 47 = .ok (.getfield 44, 3) := by decide +kernel
theorem dX6_drawn_50 : decode cX6_drawn 50 = .ok (.iload_n 2, 1) := by decide +kernel
theorem dX6_drawn_51 : decode cX6_drawn 51 = .ok (.putfield 199, 3) := by decide +kernel
theorem dX6_drawn_54 : decode cX6_drawn 54 = .ok (.iconst 0, 1) := by decide +kernel
theorem dX6_drawn_55 : decode cX6_drawn 55 = .ok (.istore 5, 2) := by decide +kernel
theorem dX6_drawn_57 : decode cX6_drawn 57 = .ok (.iload 5, 2) := by decide +kernel
theorem dX6_drawn_59 : decode cX6_drawn 59 = .ok (.iload_n 1, 1) := by decide +kernel
theorem dX6_drawn_60 : decode cX6_drawn 60 = .ok (.if_icmp .ge 32, 3) := by decide +kernel
theorem dX6_drawn_63 : decode cX6_drawn 63 = .ok (.aload_n 0, 1) := by decide +kernel
theorem dX6_drawn_64 : decode cX6_drawn 64 = .ok (.getfield 44, 3) := by decide +kernel
theorem dX6_drawn_67 : decode cX6_drawn 67 = .ok (.aload_n 0, 1) := by decide +kernel
theorem dX6_drawn_68 : decode cX6_drawn 68 = .ok (.getfield 51, 3) := by decide +kernel
theorem dX6_drawn_71 : decode cX6_drawn 71 = .ok (.invokevirtual 202, 3) := by decide +kernel
theorem dX6_drawn_74 : decode cX6_drawn 74 = .ok (.aload_n 0, 1) := by decide +kernel
theorem dX6_drawn_75 : decode cX6_drawn 75 = .ok (.getfield 30, 3) := by decide +kernel
theorem dX6_drawn_78 : decode cX6_drawn 78 = .ok (.aload_n 0, 1) := by decide +kernel
theorem dX6_drawn_79 : decode cX6_drawn 79 = .ok (.getfield 51, 3) := by decide +kernel
theorem dX6_drawn_82 : decode cX6_drawn 82 = .ok (.invokevirtual 97, 3) := by decide +kernel
theorem dX6_drawn_85 : decode cX6_drawn 85 = .ok (.pop, 1) := by decide +kernel
theorem dX6_drawn_86 : decode cX6_drawn 86 = .ok (.iinc 5 1, 3) := by decide +kernel
theorem dX6_drawn_89 : decode cX6_drawn 89 = .ok (.goto (-32), 3) := by decide +kernel
theorem dX6_drawn_92 : decode cX6_drawn 92 = .ok (.aload_n 0, 1) := by decide +kernel
theorem dX6_drawn_93 : decode cX6_drawn 93 = .ok (.getfield 44, 3) := by decide +kernel
theorem dX6_drawn_96 : decode cX6_drawn 96 = .ok (.getfield 199, 3) := by decide +kernel
theorem dX6_drawn_99 : decode cX6_drawn 99 = .ok (.istore 5, 2) := by decide +kernel
theorem dX6_drawn_101 : decode cX6_drawn 101 = .ok (.iload_n 3, 1) := by decide +kernel
theorem dX6_drawn_102 : decode cX6_drawn 102 = .ok (.ifCond .ne 20, 3) := by decide +kernel
theorem dX6_drawn_105 : decode cX6_drawn 105 = .ok (.aload_n 0, 1) := by decide +kernel
theorem dX6_drawn_106 : decode cX6_drawn 106 = .ok (.iload 4, 2) := by decide +kernel
theorem dX6_drawn_108 : decode cX6_drawn 108 = .ok (.iload 4, 2) := by decide +kernel
theorem dX6_drawn_110 : decode cX6_drawn 110 = .ok (.iload_n 1, 1) := by decide +kernel
