theorem dX7_refused_29 : decode cX7_refused 29 = .ok (.irem, 1) := by decide +kernel
theorem dX7_refused_30 : decode cX7_refused 30 = .ok (.invokestatic 215, 3) := by decide +kernel
theorem dX7_refused_33 : decode cX7_refused 33 = .ok (.ifCond .eq 6, 3) := by decide +kernel
theorem dX7_refused_36 : decode cX7_refused 36 = .ok (.bipush (-102), 2) := by decide +kernel
theorem dX7_refused_38 : decode cX7_refused 38 = .ok (.ireturn, 1) := by decide +kernel
theorem dX7_refused_39 : decode cX7_refused 39 = .ok (.aload_n 0, 1) := by decide +kernel
theorem dX7_refused_40 : decode cX7_refused 40 = .ok (.getfield 119, 3) := by decide +kernel
theorem dX7_refused_43 : decode cX7_refused 43 = .ok (.ifCond .ne 8, 3) := by decide +kernel
theorem dX7_refused_46 : decode cX7_refused 46 = .ok (.bipush (-103), 2) := by decide +kernel
theorem dX7_refused_48 : decode cX7_refused 48 = .ok (.goto 18, 3) := by decide +kernel
theorem dX7_refused_51 : decode cX7_refused 51 = .ok (.aload_n 0, 1) := by decide +kernel
theorem dX7_refused_52 : decode cX7_refused 52 = .ok (.getfield 108, 3) := by decide +kernel
theorem dX7_refused_55 : decode cX7_refused 55 = .ok (.bipush 40, 2) := by decide +kernel
theorem dX7_refused_57 : decode cX7_refused 57 = .ok (.if_icmp .ne 8, 3) := by decide +kernel
theorem dX7_refused_60 : decode cX7_refused 60 = .ok (.bipush (-104), 2) := by decide +kernel
theorem dX7_refused_62 : decode cX7_refused 62 = .ok (.goto 4, 3) := by decide +kernel
theorem dX7_refused_65 : decode cX7_refused 65 = .ok (.iconst 0, 1) := by decide +kernel
theorem dX7_refused_66 : decode cX7_refused 66 = .ok (.ireturn, 1) := by decide +kernel
theorem dX7_layBefore_0 : decode cX7_layBefore 0 = .ok (.iconst 0, 1) := by decide +kernel
theorem dX7_layBefore_1 : decode cX7_layBefore 1 = .ok (.istore_n 1, 1) := by decide +kernel
theorem dX7_layBefore_2 : decode cX7_layBefore 2 = .ok (.iload_n 1, 1) := by decide +kernel
theorem dX7_layBefore_3 : decode cX7_layBefore 3 = .ok (.sipush 128, 3) := by decide +kernel
theorem dX7_layBefore_6 : decode cX7_layBefore 6 = .ok (.if_icmp .ge 21, 3) := by decide +kernel
theorem dX7_layBefore_9 : decode cX7_layBefore 9 = .ok (.aload_n 0, 1) := by decide +kernel
theorem dX7_layBefore_10 : decode cX7_layBefore 10 = .ok (.getfield 41, 3) := by decide +kernel
theorem dX7_layBefore_13 : decode cX7_layBefore 13 = .ok (.iload_n 1, 1) := by decide +kernel
theorem dX7_layBefore_14 : decode cX7_layBefore 14 = .ok (.aload_n 0, 1) := by decide +kernel
theorem dX7_layBefore_15 : decode cX7_layBefore 15 = .ok (.getfield 25, 3) := by decide +kernel
theorem dX7_layBefore_18 : decode cX7_layBefore 18 = .ok (.iload_n 1, 1) := by decide +kernel
theorem dX7_layBefore_19 : decode cX7_layBefore 19 = .ok (.iaload, 1) := by decide +kernel
theorem dX7_layBefore_20 : decode cX7_layBefore 20 = .ok (.iastore, 1) := by decide +kernel
theorem dX7_layBefore_21 : decode cX7_layBefore 21 = .ok (.iinc 1 1, 3) := by decide +kernel
theorem dX7_layBefore_24 : decode cX7_layBefore 24 = .ok (.goto (-22), 3) := by decide +kernel
theorem dX7_layBefore_27 : decode cX7_layBefore 27 = .ok (.return_, 1) := by decide +kernel
theorem dX7_offer_0 : decode cX7_offer 0 = .ok (.aload_n 0, 1) := by decide +kernel
theorem dX7_offer_1 : decode cX7_offer 1 = .ok (.iload_n 1, 1) := by decide +kernel
theorem dX7_offer_2 : decode cX7_offer 2 = .ok (.iload_n 2, 1) := by decide +kernel
theorem dX7_offer_3 : decode cX7_offer 3 = .ok (.iload_n 3, 1) := by decide +kernel
theorem dX7_offer_4 : decode cX7_offer 4 = .ok (.iload 4, 2) := by decide +kernel
theorem dX7_offer_6 : decode cX7_offer 6 = .ok (.invokevirtual 219, 3) := by decide +kernel
theorem dX7_offer_9 : decode cX7_offer 9 = .ok (.istore 5, 2) := by decide +kernel
theorem dX7_offer_11 : decode cX7_offer 11 = .ok (.iload 5, 2) := by decide +kernel
theorem dX7_offer_13 : decode cX7_offer 13 = .ok (.ifCond .ge 6, 3) := by decide +kernel
theorem dX7_offer_16 : decode cX7_offer 16 = .ok (.iload 5, 2) := by decide +kernel
theorem dX7_offer_18 : decode cX7_offer 18 = .ok (.ireturn, 1) := by decide +kernel
theorem dX7_offer_19 : decode cX7_offer 19 = .ok (.aload_n 0, 1) := by decide +kernel
theorem dX7_offer_20 : decode cX7_offer 20 = .ok (.invokevirtual 223, 3) := by decide +kernel
theorem dX7_offer_23 : decode cX7_offer 23 = .ok (.aload_n 0, 1) := by decide +kernel
theorem dX7_offer_24 : decode cX7_offer 24 = .ok (.iload_n 1, 1) := by decide +kernel
theorem dX7_offer_25 : decode cX7_offer 25 = .ok (.iload_n 2, 1) := by decide +kernel
theorem dX7_offer_26 : decode cX7_offer 26 = .ok (.iload_n 3, 1) := by decide +kernel
theorem dX7_offer_27 : decode cX7_offer 27 = .ok (.iload 4, 2) := by decide +kernel
theorem dX7_offer_29 : decode cX7_offer 29 = .ok (.bipush 100, 2) := by decide +kernel
theorem dX7_offer_31 : decode cX7_offer 31 = .ok (.idiv, 1) := by decide +kernel
theorem dX7_offer_32 : decode cX7_offer 32 = .ok (.iload 4, 2) := by decide +kernel
theorem dX7_offer_34 : decode cX7_offer 34 = .ok (.bipush 100, 2) := by decide +kernel
theorem dX7_offer_36 : decode cX7_offer 36 = .ok (.irem, 1) := by decide +kernel
theorem dX7_offer_37 : decode cX7_offer 37 = .ok (.invokevirtual 115, 3) := by decide +kernel
theorem dX7_offer_40 : decode cX7_offer 40 = .ok (.iconst 0, 1) := by decide +kernel
theorem dX7_offer_41 : decode cX7_offer 41 = .ok (.istore 6, 2) := by decide +kernel
theorem dX7_offer_43 : decode cX7_offer 43 = .ok (.iconst 1, 1) := by decide +kernel
theorem dX7_offer_44 : decode cX7_offer 44 = .ok (.istore 7, 2) := by decide +kernel
theorem dX7_offer_46 : decode cX7_offer 46 = .ok (.iload 7, 2) := by decide +kernel
theorem dX7_offer_48 : decode cX7_offer 48 = .ok (.sipush 128, 3) := by decide +kernel
theorem dX7_offer_51 : decode cX7_offer 51 = .ok (.if_icmp .ge 36, 3) := by decide +kernel
theorem dX7_offer_54 : decode cX7_offer 54 = .ok (.iload 6, 2) := by decide +kernel
theorem dX7_offer_56 : decode cX7_offer 56 = .ok (.aload_n 0, 1) := by decide +kernel
theorem dX7_offer_57 : decode cX7_offer 57 = .ok (.getfield 25, 3) := by decide +kernel
theorem dX7_offer_60 : decode cX7_offer 60 = .ok (.iload 7, 2) := by decide +kernel
theorem dX7_offer_62 : decode cX7_offer 62 = .ok (.iaload, 1) := by decide +kernel
theorem dX7_offer_63 : decode cX7_offer 63 = .ok (.aload_n 0, 1) := by decide +kernel
theorem dX7_offer_64 : decode cX7_offer 64 = .ok (.getfield 41, 3) := by decide +kernel
theorem dX7_offer_67 : decode cX7_offer 67 = .ok (.iload 7, 2) := by decide +kernel
theorem dX7_offer_69 : decode cX7_offer 69 = .ok (.iaload, 1) := by decide +kernel
theorem dX7_offer_70 : decode cX7_offer 70 = .ok (.if_icmp .eq 7, 3) := by decide +kernel
theorem dX7_offer_73 : decode cX7_offer 73 = .ok (.iconst 1, 1) := by decide +kernel
theorem dX7_offer_74 : decode cX7_offer 74 = .ok (.goto 4, 3) := by decide +kernel
theorem dX7_offer_77 : decode cX7_offer 77 = .ok (.iconst 0, 1) := by decide +kernel
theorem dX7_offer_78 : decode cX7_offer 78 = .ok (.iadd, 1) := by decide +kernel
theorem dX7_offer_79 : decode cX7_offer 79 = .ok (.istore 6, 2) := by decide +kernel
theorem dX7_offer_81 : decode cX7_offer 81 = .ok (.iinc 7 1, 3) := by decide +kernel
theorem dX7_offer_84 : decode cX7_offer 84 = .ok (.goto (-38), 3) := by decide +kernel
theorem dX7_offer_87 : decode cX7_offer 87 = .ok (.iload 6, 2) := by decide +kernel
theorem dX7_offer_89 : decode cX7_offer 89 = .ok (.ireturn, 1) := by decide +kernel
theorem dX7_undo_0 : decode cX7_undo 0 = .ok (.aload_n 0, 1) := by decide +kernel
theorem dX7_undo_1 : decode cX7_undo 1 = .ok (.getfield 108, 3) := by decide +kernel
theorem dX7_undo_4 : decode cX7_undo 4 = .ok (.ifCond .ne 6, 3) := by decide +kernel
theorem dX7_undo_7 : decode cX7_undo 7 = .ok (.bipush (-103), 2) := by decide +kernel
theorem dX7_undo_9 : decode cX7_undo 9 = .ok (.ireturn, 1) := by decide +kernel
theorem dX7_undo_10 : decode cX7_undo 10 = .ok (.aload_n 0, 1) := by decide +kernel
theorem dX7_undo_11 : decode cX7_undo 11 = .ok (.aload_n 0, 1) := by decide +kernel
theorem dX7_undo_12 : decode cX7_undo 12 = .ok (.getfield 108, 3) := by decide +kernel
theorem dX7_undo_15 : decode cX7_undo 15 = .ok (.iconst 1, 1) := by decide +kernel
theorem dX7_undo_16 : decode cX7_undo 16 = .ok (.isub, 1) := by decide +kernel
theorem dX7_undo_17 : decode cX7_undo 17 = .ok (.invokevirtual 226, 3) := by decide +kernel
theorem dX7_undo_20 : decode cX7_undo 20 = .ok (.aload_n 0, 1) := by decide +kernel
theorem dX7_undo_21 : decode cX7_undo 21 = .ok (.getfield 108, 3) := by decide +kernel
theorem dX7_undo_24 : decode cX7_undo 24 = .ok (.ireturn, 1) := by decide +kernel
theorem dX7_cheapest_0 : decode cX7_cheapest 0 = .ok (.aload_n 0, 1) := by decide +kernel
theorem dX7_cheapest_1 : decode cX7_cheapest 1 = .ok (.getfield 119, 3) := by decide +kernel
theorem dX7_cheapest_4 : decode cX7_cheapest 4 = .ok (.ifCond .le 18, 3) := by decide +kernel
theorem dX7_cheapest_7 : decode cX7_cheapest 7 = .ok (.iload_n 1, 1) := by decide +kernel
theorem dX7_cheapest_8 : decode cX7_cheapest 8 = .ok (.invokestatic 197, 3) := by decide +kernel
theorem dX7_cheapest_11 : decode cX7_cheapest 11 = .ok (.ifCond .eq 11, 3) := by decide +kernel
theorem dX7_cheapest_14 : decode cX7_cheapest 14 = .ok (.aload_n 0, 1) := by decide +kernel
theorem dX7_cheapest_15 : decode cX7_cheapest 15 = .ok (.iload_n 1, 1) := by decide +kernel
theorem dX7_cheapest_16 : decode cX7_cheapest 16 = .ok (.invokevirtual 176, 3) := by decide +kernel
theorem dX7_cheapest_19 : decode cX7_cheapest 19 = .ok (.goto 5, 3) := by decide +kernel
theorem dX7_cheapest_22 : decode cX7_cheapest 22 = .ok (.bipush (-101), 2) := by decide +kernel
theorem dX7_cheapest_24 : decode cX7_cheapest 24 = .ok (.ireturn, 1) := by decide +kernel
theorem dX7_costFor_0 : decode cX7_costFor 0 = .ok (.aload_n 0, 1) := by decide +kernel
theorem dX7_costFor_1 : decode cX7_costFor 1 = .ok (.iload_n 1, 1) := by decide +kernel
theorem dX7_costFor_2 : decode cX7_costFor 2 = .ok (.invokevirtual 176, 3) := by decide +kernel
theorem dX7_costFor_5 : decode cX7_costFor 5 = .ok (.istore_n 2, 1) := by decide +kernel
theorem dX7_costFor_6 : decode cX7_costFor 6 = .ok (.iload_n 2, 1) := by decide +kernel
theorem dX7_costFor_7 : decode cX7_costFor 7 = .ok (.iconst (-1), 1) := by decide +kernel
theorem dX7_costFor_8 : decode cX7_costFor 8 = .ok (.if_icmp .ne 9, 3) := by decide +kernel
theorem dX7_costFor_11 : decode cX7_costFor 11 = .ok (.ldc2_w 229, 3) := by decide +kernel
theorem dX7_costFor_14 : decode cX7_costFor 14 = .ok (.goto 13, 3) := by decide +kernel
theorem dX7_costFor_17 : decode cX7_costFor 17 = .ok (.ldc2_w 205, 3) := by decide +kernel
theorem dX7_costFor_20 : decode cX7_costFor 20 = .ok (.aload_n 0, 1) := by decide +kernel
theorem dX7_costFor_21 : decode cX7_costFor 21 = .ok (.iload_n 2, 1) := by decide +kernel
theorem dX7_costFor_22 : decode cX7_costFor 22 = .ok (.iload_n 1, 1) := by decide +kernel
theorem dX7_costFor_23 : decode cX7_costFor 23 = .ok (.invokevirtual 147, 3) := by decide +kernel
theorem dX7_costFor_26 : decode cX7_costFor 26 = .ok (.ladd, 1) := by decide +kernel
theorem dX7_costFor_27 : decode cX7_costFor 27 = .ok (.lreturn, 1) := by decide +kernel
theorem dX7_cost_0 : decode cX7_cost 0 = .ok (.aload_n 0, 1) := by decide +kernel
theorem dX7_cost_1 : decode cX7_cost 1 = .ok (.getfield 119, 3) := by decide +kernel
theorem dX7_cost_4 : decode cX7_cost 4 = .ok (.ifCond .le 18, 3) := by decide +kernel
theorem dX7_cost_7 : decode cX7_cost 7 = .ok (.iload_n 1, 1) := by decide +kernel
theorem dX7_cost_8 : decode cX7_cost 8 = .ok (.invokestatic 197, 3) := by decide +kernel
theorem dX7_cost_11 : decode cX7_cost 11 = .ok (.ifCond .eq 11, 3) := by decide +kernel
theorem dX7_cost_14 : decode cX7_cost 14 = .ok (.aload_n 0, 1) := by decide +kernel
theorem dX7_cost_15 : decode cX7_cost 15 = .ok (.iload_n 1, 1) := by decide +kernel
theorem dX7_cost_16 : decode cX7_cost 16 = .ok (.invokevirtual 231, 3) := by decide +kernel
theorem dX7_cost_19 : decode cX7_cost 19 = .ok (.goto 6, 3) := by decide +kernel
theorem dX7_cost_22 : decode cX7_cost 22 = .ok (.ldc2_w 200, 3) := by decide +kernel
theorem dX7_cost_25 : decode cX7_cost 25 = .ok (.lreturn, 1) := by decide +kernel
theorem dX7_isFirstOfPiece_0 : decode cX7_isFirstOfPiece 0 = .ok (.aload_n 0, 1) := by decide +kernel
theorem dX7_isFirstOfPiece_1 : decode cX7_isFirstOfPiece 1 = .ok (.iload_n 1, 1) := by decide +kernel
theorem dX7_isFirstOfPiece_2 : decode cX7_isFirstOfPiece 2 = .ok (.invokevirtual 176, 3) := by decide +kernel
theorem dX7_isFirstOfPiece_5 : decode cX7_isFirstOfPiece 5 = .ok (.istore_n 2, 1) := by decide +kernel
theorem dX7_isFirstOfPiece_6 : decode cX7_isFirstOfPiece 6 = .ok (.iload_n 2, 1) := by decide +kernel
theorem dX7_isFirstOfPiece_7 : decode cX7_isFirstOfPiece 7 = .ok (.iconst (-1), 1) := by decide +kernel
theorem dX7_isFirstOfPiece_8 : decode cX7_isFirstOfPiece 8 = .ok (.if_icmp .eq 22, 3) := by decide +kernel
theorem dX7_isFirstOfPiece_11 : decode cX7_isFirstOfPiece 11 = .ok (.iload_n 1, 1) := by decide +kernel
theorem dX7_isFirstOfPiece_12 : decode cX7_isFirstOfPiece 12 = .ok (.ifCond .eq 14, 3) := by decide +kernel
theorem dX7_isFirstOfPiece_15 : decode cX7_isFirstOfPiece 15 = .ok (.aload_n 0, 1) := by decide +kernel
theorem dX7_isFirstOfPiece_16 : decode cX7_isFirstOfPiece 16 = .ok (.iload_n 1, 1) := by decide +kernel
theorem dX7_isFirstOfPiece_17 : decode cX7_isFirstOfPiece 17 = .ok (.iconst 1, 1) := by decide +kernel
theorem dX7_isFirstOfPiece_18 : decode cX7_isFirstOfPiece 18 = .ok (.isub, 1) := by decide +kernel
theorem dX7_isFirstOfPiece_19 : decode cX7_isFirstOfPiece 19 = .ok (.invokevirtual 176, 3) := by decide +kernel
theorem dX7_isFirstOfPiece_22 : decode cX7_isFirstOfPiece 22 = .ok (.iload_n 2, 1) := by decide +kernel
theorem dX7_isFirstOfPiece_23 : decode cX7_isFirstOfPiece 23 = .ok (.if_icmp .eq 7, 3) := by decide +kernel
theorem dX7_isFirstOfPiece_26 : decode cX7_isFirstOfPiece 26 = .ok (.iconst 1, 1) := by decide +kernel
theorem dX7_isFirstOfPiece_27 : decode cX7_isFirstOfPiece 27 = .ok (.goto 4, 3) := by decide +kernel
theorem dX7_isFirstOfPiece_30 : decode cX7_isFirstOfPiece 30 = .ok (.iconst 0, 1) := by decide +kernel
theorem dX7_isFirstOfPiece_31 : decode cX7_isFirstOfPiece 31 = .ok (.ireturn, 1) := by decide +kernel
theorem dX7_pieces_0 : decode cX7_pieces 0 = .ok (.iconst 0, 1) := by decide +kernel
theorem dX7_pieces_1 : decode cX7_pieces 1 = .ok (.istore_n 1, 1) := by decide +kernel
theorem dX7_pieces_2 : decode cX7_pieces 2 = .ok (.iconst 0, 1) := by decide +kernel
theorem dX7_pieces_3 : decode cX7_pieces 3 = .ok (.istore_n 2, 1) := by decide +kernel
theorem dX7_pieces_4 : decode cX7_pieces 4 = .ok (.iload_n 2, 1) := by decide +kernel
theorem dX7_pieces_5 : decode cX7_pieces 5 = .ok (.bipush 64, 2) := by decide +kernel
theorem dX7_pieces_7 : decode cX7_pieces 7 = .ok (.if_icmp .ge 32, 3) := by decide +kernel
theorem dX7_pieces_10 : decode cX7_pieces 10 = .ok (.aload_n 0, 1) := by decide +kernel
theorem dX7_pieces_11 : decode cX7_pieces 11 = .ok (.getfield 119, 3) := by decide +kernel
theorem dX7_pieces_14 : decode cX7_pieces 14 = .ok (.ifCond .le 25, 3) := by decide +kernel
theorem dX7_pieces_17 : decode cX7_pieces 17 = .ok (.iload_n 1, 1) := by decide +kernel
theorem dX7_pieces_18 : decode cX7_pieces 18 = .ok (.aload_n 0, 1) := by decide +kernel
theorem dX7_pieces_19 : decode cX7_pieces 19 = .ok (.iload_n 2, 1) := by decide +kernel
theorem dX7_pieces_20 : decode cX7_pieces 20 = .ok (.invokevirtual 235, 3) := by decide +kernel
theorem dX7_pieces_23 : decode cX7_pieces 23 = .ok (.ifCond .eq 7, 3) := by decide +kernel
theorem dX7_pieces_26 : decode cX7_pieces 26 = .ok (.iconst 1, 1) := by decide +kernel
theorem dX7_pieces_27 : decode cX7_pieces 27 = .ok (.goto 4, 3) := by decide +kernel
theorem dX7_pieces_30 : decode cX7_pieces 30 = .ok (.iconst 0, 1) := by decide +kernel
theorem dX7_pieces_31 : decode cX7_pieces 31 = .ok (.iadd, 1) := by decide +kernel
theorem dX7_pieces_32 : decode cX7_pieces 32 = .ok (.istore_n 1, 1) := by decide +kernel
theorem dX7_pieces_33 : decode cX7_pieces 33 = .ok (.iinc 2 1, 3) := by decide +kernel
theorem dX7_pieces_36 : decode cX7_pieces 36 = .ok (.goto (-32), 3) := by decide +kernel
theorem dX7_pieces_39 : decode cX7_pieces 39 = .ok (.iload_n 1, 1) := by decide +kernel
theorem dX7_pieces_40 : decode cX7_pieces 40 = .ok (.ireturn, 1) := by decide +kernel
theorem dX7_pieceNow_0 : decode cX7_pieceNow 0 = .ok (.iconst 0, 1) := by decide +kernel
theorem dX7_pieceNow_1 : decode cX7_pieceNow 1 = .ok (.istore_n 3, 1) := by decide +kernel
theorem dX7_pieceNow_2 : decode cX7_pieceNow 2 = .ok (.iload_n 1, 1) := by decide +kernel
theorem dX7_pieceNow_3 : decode cX7_pieceNow 3 = .ok (.istore 4, 2) := by decide +kernel
theorem dX7_pieceNow_5 : decode cX7_pieceNow 5 = .ok (.aload_n 0, 1) := by decide +kernel
theorem dX7_pieceNow_6 : decode cX7_pieceNow 6 = .ok (.iload_n 3, 1) := by decide +kernel
theorem dX7_pieceNow_7 : decode cX7_pieceNow 7 = .ok (.invokevirtual 235, 3) := by decide +kernel
theorem dX7_pieceNow_10 : decode cX7_pieceNow 10 = .ok (.ifCond .eq 8, 3) := by decide +kernel
theorem dX7_pieceNow_13 : decode cX7_pieceNow 13 = .ok (.iload 4, 2) := by decide +kernel
theorem dX7_pieceNow_15 : decode cX7_pieceNow 15 = .ok (.ifCond .le 27, 3) := by decide +kernel
theorem dX7_pieceNow_18 : decode cX7_pieceNow 18 = .ok (.iload 4, 2) := by decide +kernel
theorem dX7_pieceNow_20 : decode cX7_pieceNow 20 = .ok (.aload_n 0, 1) := by decide +kernel
theorem dX7_pieceNow_21 : decode cX7_pieceNow 21 = .ok (.iload_n 3, 1) := by decide +kernel
theorem dX7_pieceNow_22 : decode cX7_pieceNow 22 = .ok (.invokevirtual 235, 3) := by decide +kernel
theorem dX7_pieceNow_25 : decode cX7_pieceNow 25 = .ok (.ifCond .eq 7, 3) := by decide +kernel
theorem dX7_pieceNow_28 : decode cX7_pieceNow 28 = .ok (.iconst 1, 1) := by decide +kernel
theorem dX7_pieceNow_29 : decode cX7_pieceNow 29 = .ok (.goto 4, 3) := by decide +kernel
theorem dX7_pieceNow_32 : decode cX7_pieceNow 32 = .ok (.iconst 0, 1) := by decide +kernel
theorem dX7_pieceNow_33 : decode cX7_pieceNow 33 = .ok (.isub, 1) := by decide +kernel
theorem dX7_pieceNow_34 : decode cX7_pieceNow 34 = .ok (.istore 4, 2) := by decide +kernel
theorem dX7_pieceNow_36 : decode cX7_pieceNow 36 = .ok (.iinc 3 1, 3) := by decide +kernel
theorem dX7_pieceNow_39 : decode cX7_pieceNow 39 = .ok (.goto (-34), 3) := by decide +kernel
theorem dX7_pieceNow_42 : decode cX7_pieceNow 42 = .ok (.aload_n 0, 1) := by decide +kernel
theorem dX7_pieceNow_43 : decode cX7_pieceNow 43 = .ok (.iload_n 3, 1) := by decide +kernel
theorem dX7_pieceNow_44 : decode cX7_pieceNow 44 = .ok (.invokevirtual 176, 3) := by decide +kernel
theorem dX7_pieceNow_47 : decode cX7_pieceNow 47 = .ok (.istore 5, 2) := by decide +kernel
theorem dX7_pieceNow_49 : decode cX7_pieceNow 49 = .ok (.iload_n 3, 1) := by decide +kernel
theorem dX7_pieceNow_50 : decode cX7_pieceNow 50 = .ok (.istore 6, 2) := by decide +kernel
theorem dX7_pieceNow_52 : decode cX7_pieceNow 52 = .ok (.iload 6, 2) := by decide +kernel
theorem dX7_pieceNow_54 : decode cX7_pieceNow 54 = .ok (.bipush 63, 2) := by decide +kernel
theorem dX7_pieceNow_56 : decode cX7_pieceNow 56 = .ok (.if_icmp .ge 22, 3) := by decide +kernel
theorem dX7_pieceNow_59 : decode cX7_pieceNow 59 = .ok (.aload_n 0, 1) := by decide +kernel
theorem dX7_pieceNow_60 : decode cX7_pieceNow 60 = .ok (.iload 6, 2) := by decide +kernel
theorem dX7_pieceNow_62 : decode cX7_pieceNow 62 = .ok (.iconst 1, 1) := by decide +kernel
theorem dX7_pieceNow_63 : decode cX7_pieceNow 63 = .ok (.iadd, 1) := by decide +kernel
theorem dX7_pieceNow_64 : decode cX7_pieceNow 64 = .ok (.invokevirtual 176, 3) := by decide +kernel
theorem dX7_pieceNow_67 : decode cX7_pieceNow 67 = .ok (.iload 5, 2) := by decide +kernel
theorem dX7_pieceNow_69 : decode cX7_pieceNow 69 = .ok (.if_icmp .ne 9, 3) := by decide +kernel
theorem dX7_pieceNow_72 : decode cX7_pieceNow 72 = .ok (.iinc 6 1, 3) := by decide +kernel
theorem dX7_pieceNow_75 : decode cX7_pieceNow 75 = .ok (.goto (-23), 3) := by decide +kernel
theorem dX7_pieceNow_78 : decode cX7_pieceNow 78 = .ok (.iload_n 2, 1) := by decide +kernel
theorem dX7_pieceNow_79 : decode cX7_pieceNow 79 = .ok (.ifCond .ne 8, 3) := by decide +kernel
theorem dX7_pieceNow_82 : decode cX7_pieceNow 82 = .ok (.iload 5, 2) := by decide +kernel
theorem dX7_pieceNow_84 : decode cX7_pieceNow 84 = .ok (.goto 14, 3) := by decide +kernel
theorem dX7_pieceNow_87 : decode cX7_pieceNow 87 = .ok (.iload_n 2, 1) := by decide +kernel
theorem dX7_pieceNow_88 : decode cX7_pieceNow 88 = .ok (.iconst 1, 1) := by decide +kernel
theorem dX7_pieceNow_89 : decode cX7_pieceNow 89 = .ok (.if_icmp .ne 7, 3) := by decide +kernel
theorem dX7_pieceNow_92 : decode cX7_pieceNow 92 = .ok (.iload_n 3, 1) := by decide +kernel
theorem dX7_pieceNow_93 : decode cX7_pieceNow 93 = .ok (.goto 5, 3) := by decide +kernel
theorem dX7_pieceNow_96 : decode cX7_pieceNow 96 = .ok (.iload 6, 2) := by decide +kernel
theorem dX7_pieceNow_98 : decode cX7_pieceNow 98 = .ok (.ireturn, 1) := by decide +kernel
theorem dX7_piece_0 : decode cX7_piece 0 = .ok (.iload_n 1, 1) := by decide +kernel
theorem dX7_piece_1 : decode cX7_piece 1 = .ok (.iconst 0, 1) := by decide +kernel
theorem dX7_piece_2 : decode cX7_piece 2 = .ok (.aload_n 0, 1) := by decide +kernel
theorem dX7_piece_3 : decode cX7_piece 3 = .ok (.invokevirtual 238, 3) := by decide +kernel
theorem dX7_piece_6 : decode cX7_piece 6 = .ok (.iconst 1, 1) := by decide +kernel
theorem dX7_piece_7 : decode cX7_piece 7 = .ok (.isub, 1) := by decide +kernel
theorem dX7_piece_8 : decode cX7_piece 8 = .ok (.invokestatic 68, 3) := by decide +kernel
theorem dX7_piece_11 : decode cX7_piece 11 = .ok (.ifCond .ne 6, 3) := by decide +kernel
theorem dX7_piece_14 : decode cX7_piece 14 = .ok (.bipush (-101), 2) := by decide +kernel
theorem dX7_piece_16 : decode cX7_piece 16 = .ok (.ireturn, 1) := by decide +kernel
theorem dX7_piece_17 : decode cX7_piece 17 = .ok (.iload_n 2, 1) := by decide +kernel
theorem dX7_piece_18 : decode cX7_piece 18 = .ok (.iconst 0, 1) := by decide +kernel
theorem dX7_piece_19 : decode cX7_piece 19 = .ok (.iconst 2, 1) := by decide +kernel
theorem dX7_piece_20 : decode cX7_piece 20 = .ok (.invokestatic 68, 3) := by decide +kernel
theorem dX7_piece_23 : decode cX7_piece 23 = .ok (.ifCond .eq 12, 3) := by decide +kernel
theorem dX7_piece_26 : decode cX7_piece 26 = .ok (.aload_n 0, 1) := by decide +kernel
theorem dX7_piece_27 : decode cX7_piece 27 = .ok (.iload_n 1, 1) := by decide +kernel
theorem dX7_piece_28 : decode cX7_piece 28 = .ok (.iload_n 2, 1) := by decide +kernel
theorem dX7_piece_29 : decode cX7_piece 29 = .ok (.invokevirtual 241, 3) := by decide +kernel
theorem dX7_piece_32 : decode cX7_piece 32 = .ok (.goto 5, 3) := by decide +kernel
theorem dX7_piece_35 : decode cX7_piece 35 = .ok (.bipush (-102), 2) := by decide +kernel
theorem dX7_piece_37 : decode cX7_piece 37 = .ok (.ireturn, 1) := by decide +kernel
theorem dX7_bargainIn_0 : decode cX7_bargainIn 0 = .ok (.iconst (-1), 1) := by decide +kernel
theorem dX7_bargainIn_1 : decode cX7_bargainIn 1 = .ok (.istore_n 3, 1) := by decide +kernel
theorem dX7_bargainIn_2 : decode cX7_bargainIn 2 = .ok (.iload_n 2, 1) := by decide +kernel
theorem dX7_bargainIn_3 : decode cX7_bargainIn 3 = .ok (.istore 4, 2) := by decide +kernel
theorem dX7_bargainIn_5 : decode cX7_bargainIn 5 = .ok (.iload 4, 2) := by decide +kernel
theorem dX7_bargainIn_7 : decode cX7_bargainIn 7 = .ok (.iload_n 1, 1) := by decide +kernel
theorem dX7_bargainIn_8 : decode cX7_bargainIn 8 = .ok (.if_icmp .lt 50, 3) := by decide +kernel
theorem dX7_bargainIn_11 : decode cX7_bargainIn 11 = .ok (.aload_n 0, 1) := by decide +kernel
theorem dX7_bargainIn_12 : decode cX7_bargainIn 12 = .ok (.iload 4, 2) := by decide +kernel
theorem dX7_bargainIn_14 : decode cX7_bargainIn 14 = .ok (.invokevirtual 176, 3) := by decide +kernel
theorem dX7_bargainIn_17 : decode cX7_bargainIn 17 = .ok (.istore 5, 2) := by decide +kernel
theorem dX7_bargainIn_19 : decode cX7_bargainIn 19 = .ok (.iload 5, 2) := by decide +kernel
theorem dX7_bargainIn_21 : decode cX7_bargainIn 21 = .ok (.iconst (-1), 1) := by decide +kernel
theorem dX7_bargainIn_22 : decode cX7_bargainIn 22 = .ok (.if_icmp .eq 28, 3) := by decide +kernel
theorem dX7_bargainIn_25 : decode cX7_bargainIn 25 = .ok (.iload_n 3, 1) := by decide +kernel
theorem dX7_bargainIn_26 : decode cX7_bargainIn 26 = .ok (.iconst (-1), 1) := by decide +kernel
theorem dX7_bargainIn_27 : decode cX7_bargainIn 27 = .ok (.if_icmp .eq 18, 3) := by decide +kernel
theorem dX7_bargainIn_30 : decode cX7_bargainIn 30 = .ok (.aload_n 0, 1) := by decide +kernel
theorem dX7_bargainIn_31 : decode cX7_bargainIn 31 = .ok (.iload 4, 2) := by decide +kernel
theorem dX7_bargainIn_33 : decode cX7_bargainIn 33 = .ok (.invokevirtual 231, 3) := by decide +kernel
theorem dX7_bargainIn_36 : decode cX7_bargainIn 36 = .ok (.aload_n 0, 1) := by decide +kernel
theorem dX7_bargainIn_37 : decode cX7_bargainIn 37 = .ok (.iload_n 3, 1) := by decide +kernel
theorem dX7_bargainIn_38 : decode cX7_bargainIn 38 = .ok (.invokevirtual 231, 3) := by decide +kernel
theorem dX7_bargainIn_41 : decode cX7_bargainIn 41 = .ok (.lcmp, 1) := by decide +kernel
theorem dX7_bargainIn_42 : decode cX7_bargainIn 42 = .ok (.ifCond .gt 8, 3) := by decide +kernel
theorem dX7_bargainIn_45 : decode cX7_bargainIn 45 = .ok (.iload 4, 2) := by decide +kernel
theorem dX7_bargainIn_47 : decode cX7_bargainIn 47 = .ok (.goto 4, 3) := by decide +kernel
theorem dX7_bargainIn_50 : decode cX7_bargainIn 50 = .ok (.iload_n 3, 1) := by decide +kernel
theorem dX7_bargainIn_51 : decode cX7_bargainIn 51 = .ok (.istore_n 3, 1) := by decide +kernel
theorem dX7_bargainIn_52 : decode cX7_bargainIn 52 = .ok (.iinc 4 (-1), 3) := by decide +kernel
theorem dX7_bargainIn_55 : decode cX7_bargainIn 55 = .ok (.goto (-50), 3) := by decide +kernel
theorem dX7_bargainIn_58 : decode cX7_bargainIn 58 = .ok (.iload_n 3, 1) := by decide +kernel
theorem dX7_bargainIn_59 : decode cX7_bargainIn 59 = .ok (.ireturn, 1) := by decide +kernel
theorem dX7_bargain_0 : decode cX7_bargain 0 = .ok (.iload_n 1, 1) := by decide +kernel
theorem dX7_bargain_1 : decode cX7_bargain 1 = .ok (.invokestatic 197, 3) := by decide +kernel
theorem dX7_bargain_4 : decode cX7_bargain 4 = .ok (.ifCond .eq 13, 3) := by decide +kernel
theorem dX7_bargain_7 : decode cX7_bargain 7 = .ok (.iload_n 2, 1) := by decide +kernel
theorem dX7_bargain_8 : decode cX7_bargain 8 = .ok (.iload_n 1, 1) := by decide +kernel
theorem dX7_bargain_9 : decode cX7_bargain 9 = .ok (.bipush 63, 2) := by decide +kernel
theorem dX7_bargain_11 : decode cX7_bargain 11 = .ok (.invokestatic 68, 3) := by decide +kernel
theorem dX7_bargain_14 : decode cX7_bargain 14 = .ok (.ifCond .ne 6, 3) := by decide +kernel
theorem dX7_bargain_17 : decode cX7_bargain 17 = .ok (.bipush (-102), 2) := by decide +kernel
theorem dX7_bargain_19 : decode cX7_bargain 19 = .ok (.ireturn, 1) := by decide +kernel
theorem dX7_bargain_20 : decode cX7_bargain 20 = .ok (.aload_n 0, 1) := by decide +kernel
theorem dX7_bargain_21 : decode cX7_bargain 21 = .ok (.getfield 119, 3) := by decide +kernel
theorem dX7_bargain_24 : decode cX7_bargain 24 = .ok (.ifCond .ne 8, 3) := by decide +kernel
theorem dX7_bargain_27 : decode cX7_bargain 27 = .ok (.bipush (-103), 2) := by decide +kernel
theorem dX7_bargain_29 : decode cX7_bargain 29 = .ok (.goto 9, 3) := by decide +kernel
theorem dX7_bargain_32 : decode cX7_bargain 32 = .ok (.aload_n 0, 1) := by decide +kernel
theorem dX7_bargain_33 : decode cX7_bargain 33 = .ok (.iload_n 1, 1) := by decide +kernel
theorem dX7_bargain_34 : decode cX7_bargain 34 = .ok (.iload_n 2, 1) := by decide +kernel
theorem dX7_bargain_35 : decode cX7_bargain 35 = .ok (.invokevirtual 244, 3) := by decide +kernel
theorem dX7_bargain_38 : decode cX7_bargain 38 = .ok (.ireturn, 1) := by decide +kernel
theorem dX7_crossingOf_0 : decode cX7_crossingOf 0 = .ok (.iconst 0, 1) := by decide +kernel
theorem dX7_crossingOf_1 : decode cX7_crossingOf 1 = .ok (.istore_n 3, 1) := by decide +kernel
theorem dX7_crossingOf_2 : decode cX7_crossingOf 2 = .ok (.iload_n 3, 1) := by decide +kernel
theorem dX7_crossingOf_3 : decode cX7_crossingOf 3 = .ok (.bipush 64, 2) := by decide +kernel
theorem dX7_crossingOf_5 : decode cX7_crossingOf 5 = .ok (.if_icmp .ge 39, 3) := by decide +kernel
theorem dX7_crossingOf_8 : decode cX7_crossingOf 8 = .ok (.aload_n 0, 1) := by decide +kernel
theorem dX7_crossingOf_9 : decode cX7_crossingOf 9 = .ok (.iload_n 1, 1) := by decide +kernel
theorem dX7_crossingOf_10 : decode cX7_crossingOf 10 = .ok (.iload_n 3, 1) := by decide +kernel
theorem dX7_crossingOf_11 : decode cX7_crossingOf 11 = .ok (.invokevirtual 202, 3) := by decide +kernel
theorem dX7_crossingOf_14 : decode cX7_crossingOf 14 = .ok (.ifCond .eq 24, 3) := by decide +kernel
theorem dX7_crossingOf_17 : decode cX7_crossingOf 17 = .ok (.aload_n 0, 1) := by decide +kernel
theorem dX7_crossingOf_18 : decode cX7_crossingOf 18 = .ok (.iload_n 2, 1) := by decide +kernel
theorem dX7_crossingOf_19 : decode cX7_crossingOf 19 = .ok (.iload_n 3, 1) := by decide +kernel
theorem dX7_crossingOf_20 : decode cX7_crossingOf 20 = .ok (.invokevirtual 202, 3) := by decide +kernel
theorem dX7_crossingOf_23 : decode cX7_crossingOf 23 = .ok (.ifCond .eq 15, 3) := by decide +kernel
theorem dX7_crossingOf_26 : decode cX7_crossingOf 26 = .ok (.aload_n 0, 1) := by decide +kernel
theorem dX7_crossingOf_27 : decode cX7_crossingOf 27 = .ok (.iload_n 2, 1) := by decide +kernel
theorem dX7_crossingOf_28 : decode cX7_crossingOf 28 = .ok (.iload_n 1, 1) := by decide +kernel
theorem dX7_crossingOf_29 : decode cX7_crossingOf 29 = .ok (.iload_n 3, 1) := by decide +kernel
theorem dX7_crossingOf_30 : decode cX7_crossingOf 30 = .ok (.invokevirtual 159, 3) := by decide +kernel
theorem dX7_crossingOf_33 : decode cX7_crossingOf 33 = .ok (.ifCond .eq 5, 3) := by decide +kernel
theorem dX7_crossingOf_36 : decode cX7_crossingOf 36 = .ok (.iload_n 3, 1) := by decide +kernel
theorem dX7_crossingOf_37 : decode cX7_crossingOf 37 = .ok (.ireturn, 1) := by decide +kernel
theorem dX7_crossingOf_38 : decode cX7_crossingOf 38 = .ok (.iinc 3 1, 3) := by decide +kernel
theorem dX7_crossingOf_41 : decode cX7_crossingOf 41 = .ok (.goto (-39), 3) := by decide +kernel
theorem dX7_crossingOf_44 : decode cX7_crossingOf 44 = .ok (.iconst (-1), 1) := by decide +kernel
theorem dX7_crossingOf_45 : decode cX7_crossingOf 45 = .ok (.ireturn, 1) := by decide +kernel
theorem dX7_crossing_0 : decode cX7_crossing 0 = .ok (.aload_n 0, 1) := by decide +kernel
theorem dX7_crossing_1 : decode cX7_crossing 1 = .ok (.iload_n 1, 1) := by decide +kernel
theorem dX7_crossing_2 : decode cX7_crossing 2 = .ok (.invokevirtual 191, 3) := by decide +kernel
theorem dX7_crossing_5 : decode cX7_crossing 5 = .ok (.ifCond .eq 25, 3) := by decide +kernel
theorem dX7_crossing_8 : decode cX7_crossing 8 = .ok (.aload_n 0, 1) := by decide +kernel
theorem dX7_crossing_9 : decode cX7_crossing 9 = .ok (.iload_n 2, 1) := by decide +kernel
theorem dX7_crossing_10 : decode cX7_crossing 10 = .ok (.invokevirtual 191, 3) := by decide +kernel
theorem dX7_crossing_13 : decode cX7_crossing 13 = .ok (.ifCond .eq 17, 3) := by decide +kernel
theorem dX7_crossing_16 : decode cX7_crossing 16 = .ok (.iload_n 1, 1) := by decide +kernel
theorem dX7_crossing_17 : decode cX7_crossing 17 = .ok (.iload_n 2, 1) := by decide +kernel
theorem dX7_crossing_18 : decode cX7_crossing 18 = .ok (.if_icmp .eq 12, 3) := by decide +kernel
theorem dX7_crossing_21 : decode cX7_crossing 21 = .ok (.aload_n 0, 1) := by decide +kernel
theorem dX7_crossing_22 : decode cX7_crossing 22 = .ok (.iload_n 1, 1) := by decide +kernel
theorem dX7_crossing_23 : decode cX7_crossing 23 = .ok (.iload_n 2, 1) := by decide +kernel
theorem dX7_crossing_24 : decode cX7_crossing 24 = .ok (.invokevirtual 247, 3) := by decide +kernel
theorem dX7_crossing_27 : decode cX7_crossing 27 = .ok (.goto 5, 3) := by decide +kernel
theorem dX7_crossing_30 : decode cX7_crossing 30 = .ok (.bipush (-101), 2) := by decide +kernel
theorem dX7_crossing_32 : decode cX7_crossing 32 = .ok (.ireturn, 1) := by decide +kernel
theorem dX7_would_0 : decode cX7_would 0 = .ok (.aload_n 0, 1) := by decide +kernel
theorem dX7_would_1 : decode cX7_would 1 = .ok (.iload_n 1, 1) := by decide +kernel
theorem dX7_would_2 : decode cX7_would 2 = .ok (.iload_n 2, 1) := by decide +kernel
theorem dX7_would_3 : decode cX7_would 3 = .ok (.iload_n 3, 1) := by decide +kernel
theorem dX7_would_4 : decode cX7_would 4 = .ok (.iload 4, 2) := by decide +kernel
theorem dX7_would_6 : decode cX7_would 6 = .ok (.invokevirtual 219, 3) := by decide +kernel
theorem dX7_would_9 : decode cX7_would 9 = .ok (.istore 5, 2) := by decide +kernel
theorem dX7_would_11 : decode cX7_would 11 = .ok (.iload 5, 2) := by decide +kernel
theorem dX7_would_13 : decode cX7_would 13 = .ok (.ifCond .ge 6, 3) := by decide +kernel
theorem dX7_would_16 : decode cX7_would 16 = .ok (.iload 5, 2) := by decide +kernel
theorem dX7_would_18 : decode cX7_would 18 = .ok (.ireturn, 1) := by decide +kernel
theorem dX7_would_19 : decode cX7_would 19 = .ok (.aload_n 0, 1) := by decide +kernel
theorem dX7_would_20 : decode cX7_would 20 = .ok (.iload_n 1, 1) := by decide +kernel
theorem dX7_would_21 : decode cX7_would 21 = .ok (.iload_n 2, 1) := by decide +kernel
theorem dX7_would_22 : decode cX7_would 22 = .ok (.iload_n 3, 1) := by decide +kernel
theorem dX7_would_23 : decode cX7_would 23 = .ok (.iload 4, 2) := by decide +kernel
theorem dX7_would_25 : decode cX7_would 25 = .ok (.bipush 100, 2) := by decide +kernel
theorem dX7_would_27 : decode cX7_would 27 = .ok (.idiv, 1) := by decide +kernel
theorem dX7_would_28 : decode cX7_would 28 = .ok (.iload 4, 2) := by decide +kernel
theorem dX7_would_30 : decode cX7_would 30 = .ok (.bipush 100, 2) := by decide +kernel
theorem dX7_would_32 : decode cX7_would 32 = .ok (.irem, 1) := by decide +kernel
theorem dX7_would_33 : decode cX7_would 33 = .ok (.invokevirtual 115, 3) := by decide +kernel
theorem dX7_would_36 : decode cX7_would 36 = .ok (.aload_n 0, 1) := by decide +kernel
theorem dX7_would_37 : decode cX7_would 37 = .ok (.aload_n 0, 1) := by decide +kernel
theorem dX7_would_38 : decode cX7_would 38 = .ok (.getfield 108, 3) := by decide +kernel
theorem dX7_would_41 : decode cX7_would 41 = .ok (.iconst 1, 1) := by decide +kernel
theorem dX7_would_42 : decode cX7_would 42 = .ok (.isub, 1) := by decide +kernel
theorem dX7_would_43 : decode cX7_would 43 = .ok (.invokevirtual 182, 3) := by decide +kernel
theorem dX7_would_46 : decode cX7_would 46 = .ok (.istore 6, 2) := by decide +kernel
theorem dX7_would_48 : decode cX7_would 48 = .ok (.aload_n 0, 1) := by decide +kernel
theorem dX7_would_49 : decode cX7_would 49 = .ok (.aload_n 0, 1) := by decide +kernel
theorem dX7_would_50 : decode cX7_would 50 = .ok (.getfield 108, 3) := by decide +kernel
theorem dX7_would_53 : decode cX7_would 53 = .ok (.iconst 1, 1) := by decide +kernel
theorem dX7_would_54 : decode cX7_would 54 = .ok (.isub, 1) := by decide +kernel
theorem dX7_would_55 : decode cX7_would 55 = .ok (.invokevirtual 226, 3) := by decide +kernel
theorem dX7_would_58 : decode cX7_would 58 = .ok (.iload 6, 2) := by decide +kernel
theorem dX7_would_60 : decode cX7_would 60 = .ok (.ireturn, 1) := by decide +kernel
theorem dX7_see_0 : decode cX7_see 0 = .ok (.aload_n 0, 1) := by decide +kernel
theorem dX7_see_1 : decode cX7_see 1 = .ok (.iload_n 1, 1) := by decide +kernel
theorem dX7_see_2 : decode cX7_see 2 = .ok (.invokevirtual 191, 3) := by decide +kernel
theorem dX7_see_5 : decode cX7_see 5 = .ok (.ifCond .eq 10, 3) := by decide +kernel
theorem dX7_see_8 : decode cX7_see 8 = .ok (.iload_n 2, 1) := by decide +kernel
theorem dX7_see_9 : decode cX7_see 9 = .ok (.invokestatic 197, 3) := by decide +kernel
theorem dX7_see_12 : decode cX7_see 12 = .ok (.ifCond .ne 6, 3) := by decide +kernel
theorem dX7_see_15 : decode cX7_see 15 = .ok (.bipush (-101), 2) := by decide +kernel
theorem dX7_see_17 : decode cX7_see 17 = .ok (.ireturn, 1) := by decide +kernel
theorem dX7_see_18 : decode cX7_see 18 = .ok (.aload_n 0, 1) := by decide +kernel
theorem dX7_see_19 : decode cX7_see 19 = .ok (.getfield 122, 3) := by decide +kernel
theorem dX7_see_22 : decode cX7_see 22 = .ok (.bipush 6, 2) := by decide +kernel
theorem dX7_see_24 : decode cX7_see 24 = .ok (.if_icmp .ne 6, 3) := by decide +kernel
theorem dX7_see_27 : decode cX7_see 27 = .ok (.bipush (-104), 2) := by decide +kernel
theorem dX7_see_29 : decode cX7_see 29 = .ok (.ireturn, 1) := by decide +kernel
theorem dX7_see_30 : decode cX7_see 30 = .ok (.aload_n 0, 1) := by decide +kernel
theorem dX7_see_31 : decode cX7_see 31 = .ok (.getfield 28, 3) := by decide +kernel
theorem dX7_see_34 : decode cX7_see 34 = .ok (.aload_n 0, 1) := by decide +kernel
theorem dX7_see_35 : decode cX7_see 35 = .ok (.getfield 122, 3) := by decide +kernel
theorem dX7_see_38 : decode cX7_see 38 = .ok (.iload_n 1, 1) := by decide +kernel
theorem dX7_see_39 : decode cX7_see 39 = .ok (.iastore, 1) := by decide +kernel
theorem dX7_see_40 : decode cX7_see 40 = .ok (.aload_n 0, 1) := by decide +kernel
theorem dX7_see_41 : decode cX7_see 41 = .ok (.getfield 31, 3) := by decide +kernel
theorem dX7_see_44 : decode cX7_see 44 = .ok (.aload_n 0, 1) := by decide +kernel
theorem dX7_see_45 : decode cX7_see 45 = .ok (.getfield 122, 3) := by decide +kernel
theorem dX7_see_48 : decode cX7_see 48 = .ok (.iload_n 2, 1) := by decide +kernel
theorem dX7_see_49 : decode cX7_see 49 = .ok (.iastore, 1) := by decide +kernel
theorem dX7_see_50 : decode cX7_see 50 = .ok (.aload_n 0, 1) := by decide +kernel
theorem dX7_see_51 : decode cX7_see 51 = .ok (.getfield 34, 3) := by decide +kernel
theorem dX7_see_54 : decode cX7_see 54 = .ok (.aload_n 0, 1) := by decide +kernel
theorem dX7_see_55 : decode cX7_see 55 = .ok (.getfield 122, 3) := by decide +kernel
theorem dX7_see_58 : decode cX7_see 58 = .ok (.iload_n 3, 1) := by decide +kernel
theorem dX7_see_59 : decode cX7_see 59 = .ok (.iastore, 1) := by decide +kernel
theorem dX7_see_60 : decode cX7_see 60 = .ok (.aload_n 0, 1) := by decide +kernel
theorem dX7_see_61 : decode cX7_see 61 = .ok (.dup, 1) := by decide +kernel
theorem dX7_see_62 : decode cX7_see 62 = .ok (.getfield 122, 3) := by decide +kernel
theorem dX7_see_65 : decode cX7_see 65 = .ok (.iconst 1, 1) := by decide +kernel
theorem dX7_see_66 : decode cX7_see 66 = .ok (.iadd, 1) := by decide +kernel
theorem dX7_see_67 : decode cX7_see 67 = .ok (.putfield 122, 3) := by decide +kernel
theorem dX7_see_70 : decode cX7_see 70 = .ok (.aload_n 0, 1) := by decide +kernel
theorem dX7_see_71 : decode cX7_see 71 = .ok (.getfield 122, 3) := by decide +kernel
theorem dX7_see_74 : decode cX7_see 74 = .ok (.ireturn, 1) := by decide +kernel
theorem dX7_forget_0 : decode cX7_forget 0 = .ok (.aload_n 0, 1) := by decide +kernel
theorem dX7_forget_1 : decode cX7_forget 1 = .ok (.getfield 122, 3) := by decide +kernel
theorem dX7_forget_4 : decode cX7_forget 4 = .ok (.istore_n 1, 1) := by decide +kernel
theorem dX7_forget_5 : decode cX7_forget 5 = .ok (.aload_n 0, 1) := by decide +kernel
theorem dX7_forget_6 : decode cX7_forget 6 = .ok (.iconst 0, 1) := by decide +kernel
theorem dX7_forget_7 : decode cX7_forget 7 = .ok (.putfield 122, 3) := by decide +kernel
theorem dX7_forget_10 : decode cX7_forget 10 = .ok (.iload_n 1, 1) := by decide +kernel
theorem dX7_forget_11 : decode cX7_forget 11 = .ok (.ireturn, 1) := by decide +kernel
theorem dX7_asKind_0 : decode cX7_asKind 0 = .ok (.iload_n 2, 1) := by decide +kernel
theorem dX7_asKind_1 : decode cX7_asKind 1 = .ok (.aload_n 0, 1) := by decide +kernel
theorem dX7_asKind_2 : decode cX7_asKind 2 = .ok (.getfield 13, 3) := by decide +kernel
theorem dX7_asKind_5 : decode cX7_asKind 5 = .ok (.iload_n 1, 1) := by decide +kernel
theorem dX7_asKind_6 : decode cX7_asKind 6 = .ok (.iaload, 1) := by decide +kernel
theorem dX7_asKind_7 : decode cX7_asKind 7 = .ok (.aload_n 0, 1) := by decide +kernel
theorem dX7_asKind_8 : decode cX7_asKind 8 = .ok (.getfield 16, 3) := by decide +kernel
theorem dX7_asKind_11 : decode cX7_asKind 11 = .ok (.iload_n 1, 1) := by decide +kernel
theorem dX7_asKind_12 : decode cX7_asKind 12 = .ok (.iaload, 1) := by decide +kernel
theorem dX7_asKind_13 : decode cX7_asKind 13 = .ok (.aload_n 0, 1) := by decide +kernel
theorem dX7_asKind_14 : decode cX7_asKind 14 = .ok (.getfield 19, 3) := by decide +kernel
theorem dX7_asKind_17 : decode cX7_asKind 17 = .ok (.iload_n 1, 1) := by decide +kernel
theorem dX7_asKind_18 : decode cX7_asKind 18 = .ok (.iaload, 1) := by decide +kernel
theorem dX7_asKind_19 : decode cX7_asKind 19 = .ok (.iload_n 3, 1) := by decide +kernel
theorem dX7_asKind_20 : decode cX7_asKind 20 = .ok (.invokestatic 135, 3) := by decide +kernel
theorem dX7_asKind_23 : decode cX7_asKind 23 = .ok (.lreturn, 1) := by decide +kernel
theorem dX7_sortsOf_0 : decode cX7_sortsOf 0 = .ok (.iconst 0, 1) := by decide +kernel
theorem dX7_sortsOf_1 : decode cX7_sortsOf 1 = .ok (.istore_n 2, 1) := by decide +kernel
theorem dX7_sortsOf_2 : decode cX7_sortsOf 2 = .ok (.iconst 0, 1) := by decide +kernel
theorem dX7_sortsOf_3 : decode cX7_sortsOf 3 = .ok (.istore_n 3, 1) := by decide +kernel
theorem dX7_sortsOf_4 : decode cX7_sortsOf 4 = .ok (.iload_n 3, 1) := by decide +kernel
theorem dX7_sortsOf_5 : decode cX7_sortsOf 5 = .ok (.iconst 4, 1) := by decide +kernel
theorem dX7_sortsOf_6 : decode cX7_sortsOf 6 = .ok (.if_icmp .gt 93, 3) := by decide +kernel
theorem dX7_sortsOf_9 : decode cX7_sortsOf 9 = .ok (.iconst 1, 1) := by decide +kernel
theorem dX7_sortsOf_10 : decode cX7_sortsOf 10 = .ok (.istore 4, 2) := by decide +kernel
theorem dX7_sortsOf_12 : decode cX7_sortsOf 12 = .ok (.iconst 0, 1) := by decide +kernel
theorem dX7_sortsOf_13 : decode cX7_sortsOf 13 = .ok (.istore 5, 2) := by decide +kernel
theorem dX7_sortsOf_15 : decode cX7_sortsOf 15 = .ok (.iload 5, 2) := by decide +kernel
theorem dX7_sortsOf_17 : decode cX7_sortsOf 17 = .ok (.aload_n 0, 1) := by decide +kernel
theorem dX7_sortsOf_18 : decode cX7_sortsOf 18 = .ok (.getfield 122, 3) := by decide +kernel
theorem dX7_sortsOf_21 : decode cX7_sortsOf 21 = .ok (.if_icmp .ge 57, 3) := by decide +kernel
theorem dX7_sortsOf_24 : decode cX7_sortsOf 24 = .ok (.iload 4, 2) := by decide +kernel
theorem dX7_sortsOf_26 : decode cX7_sortsOf 26 = .ok (.ifCond .eq 43, 3) := by decide +kernel
theorem dX7_sortsOf_29 : decode cX7_sortsOf 29 = .ok (.aload_n 0, 1) := by decide +kernel
theorem dX7_sortsOf_30 : decode cX7_sortsOf 30 = .ok (.getfield 28, 3) := by decide +kernel
theorem dX7_sortsOf_33 : decode cX7_sortsOf 33 = .ok (.iload 5, 2) := by decide +kernel
theorem dX7_sortsOf_35 : decode cX7_sortsOf 35 = .ok (.iaload, 1) := by decide +kernel
theorem dX7_sortsOf_36 : decode cX7_sortsOf 36 = .ok (.iload_n 1, 1) := by decide +kernel
theorem dX7_sortsOf_37 : decode cX7_sortsOf 37 = .ok (.if_icmp .ne 28, 3) := by decide +kernel
theorem dX7_sortsOf_40 : decode cX7_sortsOf 40 = .ok (.aload_n 0, 1) := by decide +kernel
theorem dX7_sortsOf_41 : decode cX7_sortsOf 41 = .ok (.iload_n 1, 1) := by decide +kernel
theorem dX7_sortsOf_42 : decode cX7_sortsOf 42 = .ok (.iload_n 3, 1) := by decide +kernel
theorem dX7_sortsOf_43 : decode cX7_sortsOf 43 = .ok (.aload_n 0, 1) := by decide +kernel
theorem dX7_sortsOf_44 : decode cX7_sortsOf 44 = .ok (.getfield 31, 3) := by decide +kernel
theorem dX7_sortsOf_47 : decode cX7_sortsOf 47 = .ok (.iload 5, 2) := by decide +kernel
theorem dX7_sortsOf_49 : decode cX7_sortsOf 49 = .ok (.iaload, 1) := by decide +kernel
theorem dX7_sortsOf_50 : decode cX7_sortsOf 50 = .ok (.invokevirtual 250, 3) := by decide +kernel
theorem dX7_sortsOf_53 : decode cX7_sortsOf 53 = .ok (.aload_n 0, 1) := by decide +kernel
theorem dX7_sortsOf_54 : decode cX7_sortsOf 54 = .ok (.getfield 34, 3) := by decide +kernel
theorem dX7_sortsOf_57 : decode cX7_sortsOf 57 = .ok (.iload 5, 2) := by decide +kernel
theorem dX7_sortsOf_59 : decode cX7_sortsOf 59 = .ok (.iaload, 1) := by decide +kernel
theorem dX7_sortsOf_60 : decode cX7_sortsOf 60 = .ok (.i2l, 1) := by decide +kernel
theorem dX7_sortsOf_61 : decode cX7_sortsOf 61 = .ok (.lcmp, 1) := by decide +kernel
theorem dX7_sortsOf_62 : decode cX7_sortsOf 62 = .ok (.ifCond .ne 7, 3) := by decide +kernel
theorem dX7_sortsOf_65 : decode cX7_sortsOf 65 = .ok (.iconst 1, 1) := by decide +kernel
theorem dX7_sortsOf_66 : decode cX7_sortsOf 66 = .ok (.goto 4, 3) := by decide +kernel
theorem dX7_sortsOf_69 : decode cX7_sortsOf 69 = .ok (.iconst 0, 1) := by decide +kernel
theorem dX7_sortsOf_70 : decode cX7_sortsOf 70 = .ok (.istore 4, 2) := by decide +kernel
theorem dX7_sortsOf_72 : decode cX7_sortsOf 72 = .ok (.iinc 5 1, 3) := by decide +kernel
theorem dX7_sortsOf_75 : decode cX7_sortsOf 75 = .ok (.goto (-60), 3) := by decide +kernel
theorem dX7_sortsOf_78 : decode cX7_sortsOf 78 = .ok (.iload_n 2, 1) := by decide +kernel
theorem dX7_sortsOf_79 : decode cX7_sortsOf 79 = .ok (.iload 4, 2) := by decide +kernel
theorem dX7_sortsOf_81 : decode cX7_sortsOf 81 = .ok (.ifCond .eq 9, 3) := by decide +kernel
theorem dX7_sortsOf_84 : decode cX7_sortsOf 84 = .ok (.iconst 1, 1) := by decide +kernel
theorem dX7_sortsOf_85 : decode cX7_sortsOf 85 = .ok (.iload_n 3, 1) := by decide +kernel
theorem dX7_sortsOf_86 : decode cX7_sortsOf 86 = .ok (.ishl, 1) := by decide +kernel
theorem dX7_sortsOf_87 : decode cX7_sortsOf 87 = .ok (.goto 4, 3) := by decide +kernel
theorem dX7_sortsOf_90 : decode cX7_sortsOf 90 = .ok (.iconst 0, 1) := by decide +kernel
theorem dX7_sortsOf_91 : decode cX7_sortsOf 91 = .ok (.ior, 1) := by decide +kernel
theorem dX7_sortsOf_92 : decode cX7_sortsOf 92 = .ok (.istore_n 2, 1) := by decide +kernel
theorem dX7_sortsOf_93 : decode cX7_sortsOf 93 = .ok (.iinc 3 1, 3) := by decide +kernel
theorem dX7_sortsOf_96 : decode cX7_sortsOf 96 = .ok (.goto (-92), 3) := by decide +kernel
theorem dX7_sortsOf_99 : decode cX7_sortsOf 99 = .ok (.iload_n 2, 1) := by decide +kernel
theorem dX7_sortsOf_100 : decode cX7_sortsOf 100 = .ok (.ireturn, 1) := by decide +kernel
theorem dX7_worstBy_0 : decode cX7_worstBy 0 = .ok (.iconst 0, 1) := by decide +kernel
theorem dX7_worstBy_1 : decode cX7_worstBy 1 = .ok (.istore 4, 2) := by decide +kernel
theorem dX7_worstBy_3 : decode cX7_worstBy 3 = .ok (.iconst 0, 1) := by decide +kernel
theorem dX7_worstBy_4 : decode cX7_worstBy 4 = .ok (.istore 5, 2) := by decide +kernel
theorem dX7_worstBy_6 : decode cX7_worstBy 6 = .ok (.iload 5, 2) := by decide +kernel
theorem dX7_worstBy_8 : decode cX7_worstBy 8 = .ok (.iconst 4, 1) := by decide +kernel
theorem dX7_worstBy_9 : decode cX7_worstBy 9 = .ok (.if_icmp .gt 91, 3) := by decide +kernel
theorem dX7_worstBy_12 : decode cX7_worstBy 12 = .ok (.iconst 0, 1) := by decide +kernel
theorem dX7_worstBy_13 : decode cX7_worstBy 13 = .ok (.istore 6, 2) := by decide +kernel
theorem dX7_worstBy_15 : decode cX7_worstBy 15 = .ok (.iconst 0, 1) := by decide +kernel
theorem dX7_worstBy_16 : decode cX7_worstBy 16 = .ok (.istore 7, 2) := by decide +kernel
theorem dX7_worstBy_18 : decode cX7_worstBy 18 = .ok (.iload 7, 2) := by decide +kernel
theorem dX7_worstBy_20 : decode cX7_worstBy 20 = .ok (.iconst 4, 1) := by decide +kernel
theorem dX7_worstBy_21 : decode cX7_worstBy 21 = .ok (.if_icmp .gt 57, 3) := by decide +kernel
theorem dX7_worstBy_24 : decode cX7_worstBy 24 = .ok (.iload 6, 2) := by decide +kernel
theorem dX7_worstBy_26 : decode cX7_worstBy 26 = .ok (.iload_n 2, 1) := by decide +kernel
theorem dX7_worstBy_27 : decode cX7_worstBy 27 = .ok (.iload 5, 2) := by decide +kernel
theorem dX7_worstBy_29 : decode cX7_worstBy 29 = .ok (.invokestatic 253, 3) := by decide +kernel
theorem dX7_worstBy_32 : decode cX7_worstBy 32 = .ok (.ifCond .eq 36, 3) := by decide +kernel
theorem dX7_worstBy_35 : decode cX7_worstBy 35 = .ok (.iload_n 2, 1) := by decide +kernel
theorem dX7_worstBy_36 : decode cX7_worstBy 36 = .ok (.iload 7, 2) := by decide +kernel
theorem dX7_worstBy_38 : decode cX7_worstBy 38 = .ok (.invokestatic 253, 3) := by decide +kernel
theorem dX7_worstBy_41 : decode cX7_worstBy 41 = .ok (.ifCond .eq 27, 3) := by decide +kernel
theorem dX7_worstBy_44 : decode cX7_worstBy 44 = .ok (.aload_n 0, 1) := by decide +kernel
theorem dX7_worstBy_45 : decode cX7_worstBy 45 = .ok (.iload_n 1, 1) := by decide +kernel
theorem dX7_worstBy_46 : decode cX7_worstBy 46 = .ok (.iload 5, 2) := by decide +kernel
theorem dX7_worstBy_48 : decode cX7_worstBy 48 = .ok (.iload_n 3, 1) := by decide +kernel
theorem dX7_worstBy_49 : decode cX7_worstBy 49 = .ok (.invokevirtual 250, 3) := by decide +kernel
theorem dX7_worstBy_52 : decode cX7_worstBy 52 = .ok (.aload_n 0, 1) := by decide +kernel
theorem dX7_worstBy_53 : decode cX7_worstBy 53 = .ok (.iload_n 1, 1) := by decide +kernel
theorem dX7_worstBy_54 : decode cX7_worstBy 54 = .ok (.iload 7, 2) := by decide +kernel
theorem dX7_worstBy_56 : decode cX7_worstBy 56 = .ok (.iload_n 3, 1) := by decide +kernel
theorem dX7_worstBy_57 : decode cX7_worstBy 57 = .ok (.invokevirtual 250, 3) := by decide +kernel
theorem dX7_worstBy_60 : decode cX7_worstBy 60 = .ok (.lcmp, 1) := by decide +kernel
theorem dX7_worstBy_61 : decode cX7_worstBy 61 = .ok (.ifCond .ne 7, 3) := by decide +kernel
theorem dX7_worstBy_64 : decode cX7_worstBy 64 = .ok (.iconst 1, 1) := by decide +kernel
theorem dX7_worstBy_65 : decode cX7_worstBy 65 = .ok (.goto 4, 3) := by decide +kernel
theorem dX7_worstBy_68 : decode cX7_worstBy 68 = .ok (.iconst 0, 1) := by decide +kernel
theorem dX7_worstBy_69 : decode cX7_worstBy 69 = .ok (.iadd, 1) := by decide +kernel
theorem dX7_worstBy_70 : decode cX7_worstBy 70 = .ok (.istore 6, 2) := by decide +kernel
theorem dX7_worstBy_72 : decode cX7_worstBy 72 = .ok (.iinc 7 1, 3) := by decide +kernel
theorem dX7_worstBy_75 : decode cX7_worstBy 75 = .ok (.goto (-57), 3) := by decide +kernel
theorem dX7_worstBy_78 : decode cX7_worstBy 78 = .ok (.iload 6, 2) := by decide +kernel
theorem dX7_worstBy_80 : decode cX7_worstBy 80 = .ok (.iload 4, 2) := by decide +kernel
theorem dX7_worstBy_82 : decode cX7_worstBy 82 = .ok (.if_icmp .le 8, 3) := by decide +kernel
theorem dX7_worstBy_85 : decode cX7_worstBy 85 = .ok (.iload 6, 2) := by decide +kernel
theorem dX7_worstBy_87 : decode cX7_worstBy 87 = .ok (.goto 5, 3) := by decide +kernel
theorem dX7_worstBy_90 : decode cX7_worstBy 90 = .ok (.iload 4, 2) := by decide +kernel
theorem dX7_worstBy_92 : decode cX7_worstBy 92 = .ok (.istore 4, 2) := by decide +kernel
theorem dX7_worstBy_94 : decode cX7_worstBy 94 = .ok (.iinc 5 1, 3) := by decide +kernel
theorem dX7_worstBy_97 : decode cX7_worstBy 97 = .ok (.goto (-91), 3) := by decide +kernel
theorem dX7_worstBy_100 : decode cX7_worstBy 100 = .ok (.iload 4, 2) := by decide +kernel
theorem dX7_worstBy_102 : decode cX7_worstBy 102 = .ok (.ireturn, 1) := by decide +kernel
theorem dX7_askOf_0 : decode cX7_askOf 0 = .ok (.aload_n 0, 1) := by decide +kernel
theorem dX7_askOf_1 : decode cX7_askOf 1 = .ok (.iload_n 1, 1) := by decide +kernel
theorem dX7_askOf_2 : decode cX7_askOf 2 = .ok (.invokevirtual 185, 3) := by decide +kernel
theorem dX7_askOf_5 : decode cX7_askOf 5 = .ok (.istore_n 2, 1) := by decide +kernel
theorem dX7_askOf_6 : decode cX7_askOf 6 = .ok (.iconst (-1), 1) := by decide +kernel
theorem dX7_askOf_7 : decode cX7_askOf 7 = .ok (.istore_n 3, 1) := by decide +kernel
theorem dX7_askOf_8 : decode cX7_askOf 8 = .ok (.ldc_w 256, 3) := by decide +kernel
theorem dX7_askOf_11 : decode cX7_askOf 11 = .ok (.istore 4, 2) := by decide +kernel
theorem dX7_askOf_13 : decode cX7_askOf 13 = .ok (.aload_n 0, 1) := by decide +kernel
theorem dX7_askOf_14 : decode cX7_askOf 14 = .ok (.getfield 19, 3) := by decide +kernel
theorem dX7_askOf_17 : decode cX7_askOf 17 = .ok (.iload_n 1, 1) := by decide +kernel
theorem dX7_askOf_18 : decode cX7_askOf 18 = .ok (.iaload, 1) := by decide +kernel
theorem dX7_askOf_19 : decode cX7_askOf 19 = .ok (.istore 5, 2) := by decide +kernel
theorem dX7_askOf_21 : decode cX7_askOf 21 = .ok (.iload 5, 2) := by decide +kernel
theorem dX7_askOf_23 : decode cX7_askOf 23 = .ok (.aload_n 0, 1) := by decide +kernel
theorem dX7_askOf_24 : decode cX7_askOf 24 = .ok (.getfield 22, 3) := by decide +kernel
theorem dX7_askOf_27 : decode cX7_askOf 27 = .ok (.iload_n 1, 1) := by decide +kernel
theorem dX7_askOf_28 : decode cX7_askOf 28 = .ok (.iaload, 1) := by decide +kernel
theorem dX7_askOf_29 : decode cX7_askOf 29 = .ok (.if_icmp .gt 53, 3) := by decide +kernel
theorem dX7_askOf_32 : decode cX7_askOf 32 = .ok (.iload_n 2, 1) := by decide +kernel
theorem dX7_askOf_33 : decode cX7_askOf 33 = .ok (.ifCond .eq 49, 3) := by decide +kernel
theorem dX7_askOf_36 : decode cX7_askOf 36 = .ok (.aload_n 0, 1) := by decide +kernel
theorem dX7_askOf_37 : decode cX7_askOf 37 = .ok (.iload_n 1, 1) := by decide +kernel
theorem dX7_askOf_38 : decode cX7_askOf 38 = .ok (.iload_n 2, 1) := by decide +kernel
theorem dX7_askOf_39 : decode cX7_askOf 39 = .ok (.iload 5, 2) := by decide +kernel
theorem dX7_askOf_41 : decode cX7_askOf 41 = .ok (.invokevirtual 257, 3) := by decide +kernel
theorem dX7_askOf_44 : decode cX7_askOf 44 = .ok (.istore 6, 2) := by decide +kernel
theorem dX7_askOf_46 : decode cX7_askOf 46 = .ok (.iload 6, 2) := by decide +kernel
theorem dX7_askOf_48 : decode cX7_askOf 48 = .ok (.iload 4, 2) := by decide +kernel
theorem dX7_askOf_50 : decode cX7_askOf 50 = .ok (.if_icmp .ge 8, 3) := by decide +kernel
theorem dX7_askOf_53 : decode cX7_askOf 53 = .ok (.iload 5, 2) := by decide +kernel
theorem dX7_askOf_55 : decode cX7_askOf 55 = .ok (.goto 4, 3) := by decide +kernel
theorem dX7_askOf_58 : decode cX7_askOf 58 = .ok (.iload_n 3, 1) := by decide +kernel
