theorem dX3_init_0 : decode cX3_init 0 = .ok (.aload_n 0, 1) := by decide +kernel
theorem dX3_init_1 : decode cX3_init 1 = .ok (.invokespecial 3, 3) := by decide +kernel
theorem dX3_init_4 : decode cX3_init 4 = .ok (.aload_n 0, 1) := by decide +kernel
theorem dX3_init_5 : decode cX3_init 5 = .ok (.iconst 1, 1) := by decide +kernel
theorem dX3_init_6 : decode cX3_init 6 = .ok (.putfield 9, 3) := by decide +kernel
theorem dX3_init_9 : decode cX3_init 9 = .ok (.aload_n 0, 1) := by decide +kernel
theorem dX3_init_10 : decode cX3_init 10 = .ok (.bipush 60, 2) := by decide +kernel
theorem dX3_init_12 : decode cX3_init 12 = .ok (.newarray .int, 2) := by decide +kernel
theorem dX3_init_14 : decode cX3_init 14 = .ok (.putfield 13, 3) := by decide +kernel
theorem dX3_init_17 : decode cX3_init 17 = .ok (.aload_n 0, 1) := by decide +kernel
theorem dX3_init_18 : decode cX3_init 18 = .ok (.bipush 60, 2) := by decide +kernel
theorem dX3_init_20 : decode cX3_init 20 = .ok (.newarray .int, 2) := by decide +kernel
theorem dX3_init_22 : decode cX3_init 22 = .ok (.putfield 17, 3) := by decide +kernel
theorem dX3_init_25 : decode cX3_init 25 = .ok (.aload_n 0, 1) := by decide +kernel
theorem dX3_init_26 : decode cX3_init 26 = .ok (.bipush 60, 2) := by decide +kernel
theorem dX3_init_28 : decode cX3_init 28 = .ok (.newarray .int, 2) := by decide +kernel
theorem dX3_init_30 : decode cX3_init 30 = .ok (.putfield 20, 3) := by decide +kernel
theorem dX3_init_33 : decode cX3_init 33 = .ok (.aload_n 0, 1) := by decide +kernel
theorem dX3_init_34 : decode cX3_init 34 = .ok (.bipush 60, 2) := by decide +kernel
theorem dX3_init_36 : decode cX3_init 36 = .ok (.newarray .int, 2) := by decide +kernel
theorem dX3_init_38 : decode cX3_init 38 = .ok (.putfield 23, 3) := by decide +kernel
theorem dX3_init_41 : decode cX3_init 41 = .ok (.aload_n 0, 1) := by decide +kernel
theorem dX3_init_42 : decode cX3_init 42 = .ok (.bipush 60, 2) := by decide +kernel
theorem dX3_init_44 : decode cX3_init 44 = .ok (.newarray .int, 2) := by decide +kernel
theorem dX3_init_46 : decode cX3_init 46 = .ok (.putfield 26, 3) := by decide +kernel
theorem dX3_init_49 : decode cX3_init 49 = .ok (.aload_n 0, 1) := by decide +kernel
theorem dX3_init_50 : decode cX3_init 50 = .ok (.sipush 1020, 3) := by decide +kernel
theorem dX3_init_53 : decode cX3_init 53 = .ok (.newarray .int, 2) := by decide +kernel
theorem dX3_init_55 : decode cX3_init 55 = .ok (.putfield 29, 3) := by decide +kernel
theorem dX3_init_58 : decode cX3_init 58 = .ok (.aload_n 0, 1) := by decide +kernel
theorem dX3_init_59 : decode cX3_init 59 = .ok (.bipush 17, 2) := by decide +kernel
theorem dX3_init_61 : decode cX3_init 61 = .ok (.newarray .int, 2) := by decide +kernel
theorem dX3_init_63 : decode cX3_init 63 = .ok (.putfield 32, 3) := by decide +kernel
theorem dX3_init_66 : decode cX3_init 66 = .ok (.aload_n 0, 1) := by decide +kernel
theorem dX3_init_67 : decode cX3_init 67 = .ok (.getfield 13, 3) := by decide +kernel
theorem dX3_init_70 : decode cX3_init 70 = .ok (.iconst 0, 1) := by decide +kernel
theorem dX3_init_71 : decode cX3_init 71 = .ok (.iconst (-1), 1) := by decide +kernel
theorem dX3_init_72 : decode cX3_init 72 = .ok (.iastore, 1) := by decide +kernel
theorem dX3_init_73 : decode cX3_init 73 = .ok (.aload_n 0, 1) := by decide +kernel
theorem dX3_init_74 : decode cX3_init 74 = .ok (.getfield 17, 3) := by decide +kernel
theorem dX3_init_77 : decode cX3_init 77 = .ok (.iconst 0, 1) := by decide +kernel
theorem dX3_init_78 : decode cX3_init 78 = .ok (.iconst (-1), 1) := by decide +kernel
theorem dX3_init_79 : decode cX3_init 79 = .ok (.iastore, 1) := by decide +kernel
theorem dX3_init_80 : decode cX3_init 80 = .ok (.aload_n 0, 1) := by decide +kernel
theorem dX3_init_81 : decode cX3_init 81 = .ok (.getfield 20, 3) := by decide +kernel
theorem dX3_init_84 : decode cX3_init 84 = .ok (.iconst 0, 1) := by decide +kernel
theorem dX3_init_85 : decode cX3_init 85 = .ok (.iconst (-1), 1) := by decide +kernel
theorem dX3_init_86 : decode cX3_init 86 = .ok (.iastore, 1) := by decide +kernel
theorem dX3_init_87 : decode cX3_init 87 = .ok (.aload_n 0, 1) := by decide +kernel
theorem dX3_init_88 : decode cX3_init 88 = .ok (.getfield 26, 3) := by decide +kernel
theorem dX3_init_91 : decode cX3_init 91 = .ok (.iconst 0, 1) := by decide +kernel
theorem dX3_init_92 : decode cX3_init 92 = .ok (.iconst (-1), 1) := by decide +kernel
theorem dX3_init_93 : decode cX3_init 93 = .ok (.iastore, 1) := by decide +kernel
theorem dX3_init_94 : decode cX3_init 94 = .ok (.return_, 1) := by decide +kernel
theorem dX3_thrown_0 : decode cX3_thrown 0 = .ok (.aload_n 0, 1) := by decide +kernel
theorem dX3_thrown_1 : decode cX3_thrown 1 = .ok (.getfield 35, 3) := by decide +kernel
theorem dX3_thrown_4 : decode cX3_thrown 4 = .ok (.ireturn, 1) := by decide +kernel
theorem dX3_no_0 : decode cX3_no 0 = .ok (.aload_n 0, 1) := by decide +kernel
theorem dX3_no_1 : decode cX3_no 1 = .ok (.iload_n 1, 1) := by decide +kernel
theorem dX3_no_2 : decode cX3_no 2 = .ok (.putfield 35, 3) := by decide +kernel
theorem dX3_no_5 : decode cX3_no 5 = .ok (.iconst 0, 1) := by decide +kernel
theorem dX3_no_6 : decode cX3_no 6 = .ok (.ireturn, 1) := by decide +kernel
theorem dX3_isNot_0 : decode cX3_isNot 0 = .ok (.aload_n 0, 1) := by decide +kernel
theorem dX3_isNot_1 : decode cX3_isNot 1 = .ok (.iload_n 1, 1) := by decide +kernel
theorem dX3_isNot_2 : decode cX3_isNot 2 = .ok (.putfield 35, 3) := by decide +kernel
theorem dX3_isNot_5 : decode cX3_isNot 5 = .ok (.iconst 0, 1) := by decide +kernel
theorem dX3_isNot_6 : decode cX3_isNot 6 = .ok (.ireturn, 1) := by decide +kernel
theorem dX3_ok_0 : decode cX3_ok 0 = .ok (.aload_n 0, 1) := by decide +kernel
theorem dX3_ok_1 : decode cX3_ok 1 = .ok (.iconst 0, 1) := by decide +kernel
theorem dX3_ok_2 : decode cX3_ok 2 = .ok (.putfield 35, 3) := by decide +kernel
theorem dX3_ok_5 : decode cX3_ok 5 = .ok (.iload_n 1, 1) := by decide +kernel
theorem dX3_ok_6 : decode cX3_ok 6 = .ok (.ireturn, 1) := by decide +kernel
theorem dX3_isIn_0 : decode cX3_isIn 0 = .ok (.iload_n 0, 1) := by decide +kernel
theorem dX3_isIn_1 : decode cX3_isIn 1 = .ok (.iload_n 1, 1) := by decide +kernel
theorem dX3_isIn_2 : decode cX3_isIn 2 = .ok (.if_icmp .lt 12, 3) := by decide +kernel
theorem dX3_isIn_5 : decode cX3_isIn 5 = .ok (.iload_n 0, 1) := by decide +kernel
theorem dX3_isIn_6 : decode cX3_isIn 6 = .ok (.iload_n 2, 1) := by decide +kernel
theorem dX3_isIn_7 : decode cX3_isIn 7 = .ok (.if_icmp .gt 7, 3) := by decide +kernel
theorem dX3_isIn_10 : decode cX3_isIn 10 = .ok (.iconst 1, 1) := by decide +kernel
theorem dX3_isIn_11 : decode cX3_isIn 11 = .ok (.goto 4, 3) := by decide +kernel
theorem dX3_isIn_14 : decode cX3_isIn 14 = .ok (.iconst 0, 1) := by decide +kernel
theorem dX3_isIn_15 : decode cX3_isIn 15 = .ok (.ireturn, 1) := by decide +kernel
theorem dX3_isEvening_0 : decode cX3_isEvening 0 = .ok (.iload_n 1, 1) := by decide +kernel
theorem dX3_isEvening_1 : decode cX3_isEvening 1 = .ok (.iconst 0, 1) := by decide +kernel
theorem dX3_isEvening_2 : decode cX3_isEvening 2 = .ok (.aload_n 0, 1) := by decide +kernel
theorem dX3_isEvening_3 : decode cX3_isEvening 3 = .ok (.getfield 9, 3) := by decide +kernel
theorem dX3_isEvening_6 : decode cX3_isEvening 6 = .ok (.iconst 1, 1) := by decide +kernel
theorem dX3_isEvening_7 : decode cX3_isEvening 7 = .ok (.isub, 1) := by decide +kernel
theorem dX3_isEvening_8 : decode cX3_isEvening 8 = .ok (.invokestatic 38, 3) := by decide +kernel
theorem dX3_isEvening_11 : decode cX3_isEvening 11 = .ok (.ireturn, 1) := by decide +kernel
theorem dX3_isPiece_0 : decode cX3_isPiece 0 = .ok (.iload_n 1, 1) := by decide +kernel
theorem dX3_isPiece_1 : decode cX3_isPiece 1 = .ok (.iconst 0, 1) := by decide +kernel
theorem dX3_isPiece_2 : decode cX3_isPiece 2 = .ok (.aload_n 0, 1) := by decide +kernel
theorem dX3_isPiece_3 : decode cX3_isPiece 3 = .ok (.getfield 42, 3) := by decide +kernel
theorem dX3_isPiece_6 : decode cX3_isPiece 6 = .ok (.iconst 1, 1) := by decide +kernel
theorem dX3_isPiece_7 : decode cX3_isPiece 7 = .ok (.isub, 1) := by decide +kernel
theorem dX3_isPiece_8 : decode cX3_isPiece 8 = .ok (.invokestatic 38, 3) := by decide +kernel
theorem dX3_isPiece_11 : decode cX3_isPiece 11 = .ok (.ireturn, 1) := by decide +kernel
theorem dX3_isOn_0 : decode cX3_isOn 0 = .ok (.iload_n 0, 1) := by decide +kernel
theorem dX3_isOn_1 : decode cX3_isOn 1 = .ok (.iconst 0, 1) := by decide +kernel
theorem dX3_isOn_2 : decode cX3_isOn 2 = .ok (.bipush 7, 2) := by decide +kernel
theorem dX3_isOn_4 : decode cX3_isOn 4 = .ok (.invokestatic 38, 3) := by decide +kernel
theorem dX3_isOn_7 : decode cX3_isOn 7 = .ok (.ireturn, 1) := by decide +kernel
theorem dX3_isPaw_0 : decode cX3_isPaw 0 = .ok (.iload_n 0, 1) := by decide +kernel
theorem dX3_isPaw_1 : decode cX3_isPaw 1 = .ok (.iconst 0, 1) := by decide +kernel
theorem dX3_isPaw_2 : decode cX3_isPaw 2 = .ok (.iconst 3, 1) := by decide +kernel
theorem dX3_isPaw_3 : decode cX3_isPaw 3 = .ok (.invokestatic 38, 3) := by decide +kernel
theorem dX3_isPaw_6 : decode cX3_isPaw 6 = .ok (.ifCond .eq 31, 3) := by decide +kernel
theorem dX3_isPaw_9 : decode cX3_isPaw 9 = .ok (.iload_n 1, 1) := by decide +kernel
theorem dX3_isPaw_10 : decode cX3_isPaw 10 = .ok (.iconst 0, 1) := by decide +kernel
theorem dX3_isPaw_11 : decode cX3_isPaw 11 = .ok (.iload_n 0, 1) := by decide +kernel
theorem dX3_isPaw_12 : decode cX3_isPaw 12 = .ok (.ifCond .eq 8, 3) := by decide +kernel
theorem dX3_isPaw_15 : decode cX3_isPaw 15 = .ok (.iload_n 0, 1) := by decide +kernel
theorem dX3_isPaw_16 : decode cX3_isPaw 16 = .ok (.iconst 3, 1) := by decide +kernel
theorem dX3_isPaw_17 : decode cX3_isPaw 17 = .ok (.if_icmp .ne 8, 3) := by decide +kernel
theorem dX3_isPaw_20 : decode cX3_isPaw 20 = .ok (.bipush 7, 2) := by decide +kernel
theorem dX3_isPaw_22 : decode cX3_isPaw 22 = .ok (.goto 5, 3) := by decide +kernel
theorem dX3_isPaw_25 : decode cX3_isPaw 25 = .ok (.bipush 15, 2) := by decide +kernel
theorem dX3_isPaw_27 : decode cX3_isPaw 27 = .ok (.invokestatic 38, 3) := by decide +kernel
theorem dX3_isPaw_30 : decode cX3_isPaw 30 = .ok (.ifCond .eq 7, 3) := by decide +kernel
theorem dX3_isPaw_33 : decode cX3_isPaw 33 = .ok (.iconst 1, 1) := by decide +kernel
theorem dX3_isPaw_34 : decode cX3_isPaw 34 = .ok (.goto 4, 3) := by decide +kernel
theorem dX3_isPaw_37 : decode cX3_isPaw 37 = .ok (.iconst 0, 1) := by decide +kernel
theorem dX3_isPaw_38 : decode cX3_isPaw 38 = .ok (.ireturn, 1) := by decide +kernel
theorem dX3_at_0 : decode cX3_at 0 = .ok (.aload_n 0, 1) := by decide +kernel
theorem dX3_at_1 : decode cX3_at 1 = .ok (.getfield 29, 3) := by decide +kernel
theorem dX3_at_4 : decode cX3_at 4 = .ok (.bipush 17, 2) := by decide +kernel
theorem dX3_at_6 : decode cX3_at 6 = .ok (.iload_n 1, 1) := by decide +kernel
theorem dX3_at_7 : decode cX3_at 7 = .ok (.imul, 1) := by decide +kernel
theorem dX3_at_8 : decode cX3_at 8 = .ok (.iload_n 2, 1) := by decide +kernel
theorem dX3_at_9 : decode cX3_at 9 = .ok (.iadd, 1) := by decide +kernel
theorem dX3_at_10 : decode cX3_at 10 = .ok (.iaload, 1) := by decide +kernel
theorem dX3_at_11 : decode cX3_at 11 = .ok (.ireturn, 1) := by decide +kernel
theorem dX3_cat_0 : decode cX3_cat 0 = .ok (.aload_n 0, 1) := by decide +kernel
theorem dX3_cat_1 : decode cX3_cat 1 = .ok (.aload_n 0, 1) := by decide +kernel
theorem dX3_cat_2 : decode cX3_cat 2 = .ok (.getfield 45, 3) := by decide +kernel
theorem dX3_cat_5 : decode cX3_cat 5 = .ok (.iconst 0, 1) := by decide +kernel
theorem dX3_cat_6 : decode cX3_cat 6 = .ok (.invokevirtual 48, 3) := by decide +kernel
theorem dX3_cat_9 : decode cX3_cat 9 = .ok (.ireturn, 1) := by decide +kernel
theorem dX3_piece_0 : decode cX3_piece 0 = .ok (.aload_n 0, 1) := by decide +kernel
theorem dX3_piece_1 : decode cX3_piece 1 = .ok (.iload_n 1, 1) := by decide +kernel
theorem dX3_piece_2 : decode cX3_piece 2 = .ok (.iconst 1, 1) := by decide +kernel
theorem dX3_piece_3 : decode cX3_piece 3 = .ok (.iload_n 2, 1) := by decide +kernel
theorem dX3_piece_4 : decode cX3_piece 4 = .ok (.iadd, 1) := by decide +kernel
theorem dX3_piece_5 : decode cX3_piece 5 = .ok (.invokevirtual 48, 3) := by decide +kernel
theorem dX3_piece_8 : decode cX3_piece 8 = .ok (.ireturn, 1) := by decide +kernel
theorem dX3_pieceOn_0 : decode cX3_pieceOn 0 = .ok (.iconst 0, 1) := by decide +kernel
theorem dX3_pieceOn_1 : decode cX3_pieceOn 1 = .ok (.istore_n 2, 1) := by decide +kernel
theorem dX3_pieceOn_2 : decode cX3_pieceOn 2 = .ok (.iload_n 2, 1) := by decide +kernel
theorem dX3_pieceOn_3 : decode cX3_pieceOn 3 = .ok (.aload_n 0, 1) := by decide +kernel
theorem dX3_pieceOn_4 : decode cX3_pieceOn 4 = .ok (.getfield 42, 3) := by decide +kernel
theorem dX3_pieceOn_7 : decode cX3_pieceOn 7 = .ok (.if_icmp .ge 27, 3) := by decide +kernel
theorem dX3_pieceOn_10 : decode cX3_pieceOn 10 = .ok (.aload_n 0, 1) := by decide +kernel
theorem dX3_pieceOn_11 : decode cX3_pieceOn 11 = .ok (.aload_n 0, 1) := by decide +kernel
theorem dX3_pieceOn_12 : decode cX3_pieceOn 12 = .ok (.getfield 45, 3) := by decide +kernel
theorem dX3_pieceOn_15 : decode cX3_pieceOn 15 = .ok (.iload_n 2, 1) := by decide +kernel
theorem dX3_pieceOn_16 : decode cX3_pieceOn 16 = .ok (.invokevirtual 52, 3) := by decide +kernel
theorem dX3_pieceOn_19 : decode cX3_pieceOn 19 = .ok (.bipush 100, 2) := by decide +kernel
theorem dX3_pieceOn_21 : decode cX3_pieceOn 21 = .ok (.irem, 1) := by decide +kernel
theorem dX3_pieceOn_22 : decode cX3_pieceOn 22 = .ok (.iload_n 1, 1) := by decide +kernel
theorem dX3_pieceOn_23 : decode cX3_pieceOn 23 = .ok (.if_icmp .ne 5, 3) := by decide +kernel
theorem dX3_pieceOn_26 : decode cX3_pieceOn 26 = .ok (.iload_n 2, 1) := by decide +kernel
theorem dX3_pieceOn_27 : decode cX3_pieceOn 27 = .ok (.ireturn, 1) := by decide +kernel
theorem dX3_pieceOn_28 : decode cX3_pieceOn 28 = .ok (.iinc 2 1, 3) := by decide +kernel
theorem dX3_pieceOn_31 : decode cX3_pieceOn 31 = .ok (.goto (-29), 3) := by decide +kernel
theorem dX3_pieceOn_34 : decode cX3_pieceOn 34 = .ok (.iconst (-1), 1) := by decide +kernel
theorem dX3_pieceOn_35 : decode cX3_pieceOn 35 = .ok (.ireturn, 1) := by decide +kernel
theorem dX3_farther_0 : decode cX3_farther 0 = .ok (.iload_n 0, 1) := by decide +kernel
theorem dX3_farther_1 : decode cX3_farther 1 = .ok (.bipush 8, 2) := by decide +kernel
theorem dX3_farther_3 : decode cX3_farther 3 = .ok (.idiv, 1) := by decide +kernel
theorem dX3_farther_4 : decode cX3_farther 4 = .ok (.getstatic 55, 3) := by decide +kernel
theorem dX3_farther_7 : decode cX3_farther 7 = .ok (.iload_n 1, 1) := by decide +kernel
theorem dX3_farther_8 : decode cX3_farther 8 = .ok (.iaload, 1) := by decide +kernel
theorem dX3_farther_9 : decode cX3_farther 9 = .ok (.iadd, 1) := by decide +kernel
theorem dX3_farther_10 : decode cX3_farther 10 = .ok (.istore_n 2, 1) := by decide +kernel
theorem dX3_farther_11 : decode cX3_farther 11 = .ok (.iload_n 0, 1) := by decide +kernel
theorem dX3_farther_12 : decode cX3_farther 12 = .ok (.bipush 8, 2) := by decide +kernel
theorem dX3_farther_14 : decode cX3_farther 14 = .ok (.irem, 1) := by decide +kernel
theorem dX3_farther_15 : decode cX3_farther 15 = .ok (.getstatic 55, 3) := by decide +kernel
theorem dX3_farther_18 : decode cX3_farther 18 = .ok (.iload_n 1, 1) := by decide +kernel
theorem dX3_farther_19 : decode cX3_farther 19 = .ok (.iconst 2, 1) := by decide +kernel
theorem dX3_farther_20 : decode cX3_farther 20 = .ok (.iadd, 1) := by decide +kernel
theorem dX3_farther_21 : decode cX3_farther 21 = .ok (.bipush 8, 2) := by decide +kernel
theorem dX3_farther_23 : decode cX3_farther 23 = .ok (.irem, 1) := by decide +kernel
theorem dX3_farther_24 : decode cX3_farther 24 = .ok (.iaload, 1) := by decide +kernel
theorem dX3_farther_25 : decode cX3_farther 25 = .ok (.iadd, 1) := by decide +kernel
theorem dX3_farther_26 : decode cX3_farther 26 = .ok (.istore_n 3, 1) := by decide +kernel
theorem dX3_farther_27 : decode cX3_farther 27 = .ok (.iload_n 2, 1) := by decide +kernel
theorem dX3_farther_28 : decode cX3_farther 28 = .ok (.invokestatic 58, 3) := by decide +kernel
theorem dX3_farther_31 : decode cX3_farther 31 = .ok (.ifCond .eq 19, 3) := by decide +kernel
theorem dX3_farther_34 : decode cX3_farther 34 = .ok (.iload_n 3, 1) := by decide +kernel
theorem dX3_farther_35 : decode cX3_farther 35 = .ok (.invokestatic 58, 3) := by decide +kernel
theorem dX3_farther_38 : decode cX3_farther 38 = .ok (.ifCond .eq 12, 3) := by decide +kernel
theorem dX3_farther_41 : decode cX3_farther 41 = .ok (.bipush 8, 2) := by decide +kernel
theorem dX3_farther_43 : decode cX3_farther 43 = .ok (.iload_n 2, 1) := by decide +kernel
theorem dX3_farther_44 : decode cX3_farther 44 = .ok (.imul, 1) := by decide +kernel
theorem dX3_farther_45 : decode cX3_farther 45 = .ok (.iload_n 3, 1) := by decide +kernel
theorem dX3_farther_46 : decode cX3_farther 46 = .ok (.iadd, 1) := by decide +kernel
theorem dX3_farther_47 : decode cX3_farther 47 = .ok (.goto 4, 3) := by decide +kernel
theorem dX3_farther_50 : decode cX3_farther 50 = .ok (.iconst (-1), 1) := by decide +kernel
theorem dX3_farther_51 : decode cX3_farther 51 = .ok (.ireturn, 1) := by decide +kernel
theorem dX3_isBeside_0 : decode cX3_isBeside 0 = .ok (.iload_n 0, 1) := by decide +kernel
theorem dX3_isBeside_1 : decode cX3_isBeside 1 = .ok (.bipush 8, 2) := by decide +kernel
theorem dX3_isBeside_3 : decode cX3_isBeside 3 = .ok (.idiv, 1) := by decide +kernel
theorem dX3_isBeside_4 : decode cX3_isBeside 4 = .ok (.iload_n 1, 1) := by decide +kernel
theorem dX3_isBeside_5 : decode cX3_isBeside 5 = .ok (.bipush 8, 2) := by decide +kernel
theorem dX3_isBeside_7 : decode cX3_isBeside 7 = .ok (.idiv, 1) := by decide +kernel
theorem dX3_isBeside_8 : decode cX3_isBeside 8 = .ok (.isub, 1) := by decide +kernel
theorem dX3_isBeside_9 : decode cX3_isBeside 9 = .ok (.invokestatic 62, 3) := by decide +kernel
theorem dX3_isBeside_12 : decode cX3_isBeside 12 = .ok (.iconst 2, 1) := by decide +kernel
theorem dX3_isBeside_13 : decode cX3_isBeside 13 = .ok (.if_icmp .ge 23, 3) := by decide +kernel
theorem dX3_isBeside_16 : decode cX3_isBeside 16 = .ok (.iload_n 0, 1) := by decide +kernel
theorem dX3_isBeside_17 : decode cX3_isBeside 17 = .ok (.bipush 8, 2) := by decide +kernel
theorem dX3_isBeside_19 : decode cX3_isBeside 19 = .ok (.irem, 1) := by decide +kernel
theorem dX3_isBeside_20 : decode cX3_isBeside 20 = .ok (.iload_n 1, 1) := by decide +kernel
theorem dX3_isBeside_21 : decode cX3_isBeside 21 = .ok (.bipush 8, 2) := by decide +kernel
theorem dX3_isBeside_23 : decode cX3_isBeside 23 = .ok (.irem, 1) := by decide +kernel
theorem dX3_isBeside_24 : decode cX3_isBeside 24 = .ok (.isub, 1) := by decide +kernel
theorem dX3_isBeside_25 : decode cX3_isBeside 25 = .ok (.invokestatic 62, 3) := by decide +kernel
theorem dX3_isBeside_28 : decode cX3_isBeside 28 = .ok (.iconst 2, 1) := by decide +kernel
theorem dX3_isBeside_29 : decode cX3_isBeside 29 = .ok (.if_icmp .ge 7, 3) := by decide +kernel
theorem dX3_isBeside_32 : decode cX3_isBeside 32 = .ok (.iconst 1, 1) := by decide +kernel
theorem dX3_isBeside_33 : decode cX3_isBeside 33 = .ok (.goto 4, 3) := by decide +kernel
theorem dX3_isBeside_36 : decode cX3_isBeside 36 = .ok (.iconst 0, 1) := by decide +kernel
theorem dX3_isBeside_37 : decode cX3_isBeside 37 = .ok (.ireturn, 1) := by decide +kernel
theorem dX3_steps_0 : decode cX3_steps 0 = .ok (.aload_n 0, 1) := by decide +kernel
theorem dX3_steps_1 : decode cX3_steps 1 = .ok (.getfield 32, 3) := by decide +kernel
theorem dX3_steps_4 : decode cX3_steps 4 = .ok (.iconst 0, 1) := by decide +kernel
theorem dX3_steps_5 : decode cX3_steps 5 = .ok (.aload_n 0, 1) := by decide +kernel
theorem dX3_steps_6 : decode cX3_steps 6 = .ok (.invokevirtual 68, 3) := by decide +kernel
theorem dX3_steps_9 : decode cX3_steps 9 = .ok (.iload_n 1, 1) := by decide +kernel
theorem dX3_steps_10 : decode cX3_steps 10 = .ok (.invokestatic 72, 3) := by decide +kernel
theorem dX3_steps_13 : decode cX3_steps 13 = .ok (.iastore, 1) := by decide +kernel
theorem dX3_steps_14 : decode cX3_steps 14 = .ok (.aload_n 0, 1) := by decide +kernel
theorem dX3_steps_15 : decode cX3_steps 15 = .ok (.getfield 32, 3) := by decide +kernel
theorem dX3_steps_18 : decode cX3_steps 18 = .ok (.iconst 0, 1) := by decide +kernel
theorem dX3_steps_19 : decode cX3_steps 19 = .ok (.iaload, 1) := by decide +kernel
theorem dX3_steps_20 : decode cX3_steps 20 = .ok (.iconst (-1), 1) := by decide +kernel
theorem dX3_steps_21 : decode cX3_steps 21 = .ok (.if_icmp .eq 7, 3) := by decide +kernel
theorem dX3_steps_24 : decode cX3_steps 24 = .ok (.iconst 1, 1) := by decide +kernel
theorem dX3_steps_25 : decode cX3_steps 25 = .ok (.goto 4, 3) := by decide +kernel
theorem dX3_steps_28 : decode cX3_steps 28 = .ok (.iconst 0, 1) := by decide +kernel
theorem dX3_steps_29 : decode cX3_steps 29 = .ok (.ireturn, 1) := by decide +kernel
theorem dX3_turns_0 : decode cX3_turns 0 = .ok (.aload_n 0, 1) := by decide +kernel
theorem dX3_turns_1 : decode cX3_turns 1 = .ok (.iload_n 1, 1) := by decide +kernel
theorem dX3_turns_2 : decode cX3_turns 2 = .ok (.invokevirtual 75, 3) := by decide +kernel
theorem dX3_turns_5 : decode cX3_turns 5 = .ok (.ifCond .eq 48, 3) := by decide +kernel
theorem dX3_turns_8 : decode cX3_turns 8 = .ok (.aload_n 0, 1) := by decide +kernel
theorem dX3_turns_9 : decode cX3_turns 9 = .ok (.aload_n 0, 1) := by decide +kernel
theorem dX3_turns_10 : decode cX3_turns 10 = .ok (.getfield 45, 3) := by decide +kernel
theorem dX3_turns_13 : decode cX3_turns 13 = .ok (.iload_n 1, 1) := by decide +kernel
theorem dX3_turns_14 : decode cX3_turns 14 = .ok (.invokevirtual 52, 3) := by decide +kernel
theorem dX3_turns_17 : decode cX3_turns 17 = .ok (.bipush 100, 2) := by decide +kernel
theorem dX3_turns_19 : decode cX3_turns 19 = .ok (.if_icmp .lt 7, 3) := by decide +kernel
theorem dX3_turns_22 : decode cX3_turns 22 = .ok (.iconst 1, 1) := by decide +kernel
theorem dX3_turns_23 : decode cX3_turns 23 = .ok (.goto 4, 3) := by decide +kernel
theorem dX3_turns_26 : decode cX3_turns 26 = .ok (.iconst 0, 1) := by decide +kernel
theorem dX3_turns_27 : decode cX3_turns 27 = .ok (.iload_n 2, 1) := by decide +kernel
theorem dX3_turns_28 : decode cX3_turns 28 = .ok (.if_icmp .ne 25, 3) := by decide +kernel
theorem dX3_turns_31 : decode cX3_turns 31 = .ok (.aload_n 0, 1) := by decide +kernel
theorem dX3_turns_32 : decode cX3_turns 32 = .ok (.invokevirtual 68, 3) := by decide +kernel
theorem dX3_turns_35 : decode cX3_turns 35 = .ok (.aload_n 0, 1) := by decide +kernel
theorem dX3_turns_36 : decode cX3_turns 36 = .ok (.aload_n 0, 1) := by decide +kernel
theorem dX3_turns_37 : decode cX3_turns 37 = .ok (.getfield 45, 3) := by decide +kernel
theorem dX3_turns_40 : decode cX3_turns 40 = .ok (.iload_n 1, 1) := by decide +kernel
theorem dX3_turns_41 : decode cX3_turns 41 = .ok (.invokevirtual 52, 3) := by decide +kernel
theorem dX3_turns_44 : decode cX3_turns 44 = .ok (.bipush 100, 2) := by decide +kernel
theorem dX3_turns_46 : decode cX3_turns 46 = .ok (.irem, 1) := by decide +kernel
theorem dX3_turns_47 : decode cX3_turns 47 = .ok (.invokestatic 78, 3) := by decide +kernel
theorem dX3_turns_50 : decode cX3_turns 50 = .ok (.ifCond .ne 5, 3) := by decide +kernel
theorem dX3_turns_53 : decode cX3_turns 53 = .ok (.iconst 0, 1) := by decide +kernel
theorem dX3_turns_54 : decode cX3_turns 54 = .ok (.ireturn, 1) := by decide +kernel
theorem dX3_turns_55 : decode cX3_turns 55 = .ok (.aload_n 0, 1) := by decide +kernel
theorem dX3_turns_56 : decode cX3_turns 56 = .ok (.getfield 32, 3) := by decide +kernel
theorem dX3_turns_59 : decode cX3_turns 59 = .ok (.iconst 1, 1) := by decide +kernel
theorem dX3_turns_60 : decode cX3_turns 60 = .ok (.iload_n 1, 1) := by decide +kernel
theorem dX3_turns_61 : decode cX3_turns 61 = .ok (.iadd, 1) := by decide +kernel
theorem dX3_turns_62 : decode cX3_turns 62 = .ok (.dup2, 1) := by decide +kernel
theorem dX3_turns_63 : decode cX3_turns 63 = .ok (.iaload, 1) := by decide +kernel
theorem dX3_turns_64 : decode cX3_turns 64 = .ok (.iload_n 2, 1) := by decide +kernel
theorem dX3_turns_65 : decode cX3_turns 65 = .ok (.ifCond .eq 8, 3) := by decide +kernel
theorem dX3_turns_68 : decode cX3_turns 68 = .ok (.bipush (-100), 2) := by decide +kernel
theorem dX3_turns_70 : decode cX3_turns 70 = .ok (.goto 5, 3) := by decide +kernel
theorem dX3_turns_73 : decode cX3_turns 73 = .ok (.bipush 100, 2) := by decide +kernel
theorem dX3_turns_75 : decode cX3_turns 75 = .ok (.iadd, 1) := by decide +kernel
theorem dX3_turns_76 : decode cX3_turns 76 = .ok (.iastore, 1) := by decide +kernel
theorem dX3_turns_77 : decode cX3_turns 77 = .ok (.iconst 1, 1) := by decide +kernel
theorem dX3_turns_78 : decode cX3_turns 78 = .ok (.ireturn, 1) := by decide +kernel
theorem dX3_pushes_0 : decode cX3_pushes 0 = .ok (.aload_n 0, 1) := by decide +kernel
theorem dX3_pushes_1 : decode cX3_pushes 1 = .ok (.invokevirtual 68, 3) := by decide +kernel
theorem dX3_pushes_4 : decode cX3_pushes 4 = .ok (.iload_n 1, 1) := by decide +kernel
theorem dX3_pushes_5 : decode cX3_pushes 5 = .ok (.invokestatic 72, 3) := by decide +kernel
theorem dX3_pushes_8 : decode cX3_pushes 8 = .ok (.istore_n 2, 1) := by decide +kernel
theorem dX3_pushes_9 : decode cX3_pushes 9 = .ok (.iload_n 2, 1) := by decide +kernel
theorem dX3_pushes_10 : decode cX3_pushes 10 = .ok (.iconst (-1), 1) := by decide +kernel
theorem dX3_pushes_11 : decode cX3_pushes 11 = .ok (.if_icmp .ne 7, 3) := by decide +kernel
theorem dX3_pushes_14 : decode cX3_pushes 14 = .ok (.iconst (-1), 1) := by decide +kernel
theorem dX3_pushes_15 : decode cX3_pushes 15 = .ok (.goto 8, 3) := by decide +kernel
theorem dX3_pushes_18 : decode cX3_pushes 18 = .ok (.aload_n 0, 1) := by decide +kernel
theorem dX3_pushes_19 : decode cX3_pushes 19 = .ok (.iload_n 2, 1) := by decide +kernel
theorem dX3_pushes_20 : decode cX3_pushes 20 = .ok (.invokevirtual 82, 3) := by decide +kernel
theorem dX3_pushes_23 : decode cX3_pushes 23 = .ok (.istore_n 3, 1) := by decide +kernel
theorem dX3_pushes_24 : decode cX3_pushes 24 = .ok (.iload_n 3, 1) := by decide +kernel
theorem dX3_pushes_25 : decode cX3_pushes 25 = .ok (.iconst (-1), 1) := by decide +kernel
theorem dX3_pushes_26 : decode cX3_pushes 26 = .ok (.if_icmp .eq 17, 3) := by decide +kernel
theorem dX3_pushes_29 : decode cX3_pushes 29 = .ok (.aload_n 0, 1) := by decide +kernel
theorem dX3_pushes_30 : decode cX3_pushes 30 = .ok (.aload_n 0, 1) := by decide +kernel
theorem dX3_pushes_31 : decode cX3_pushes 31 = .ok (.getfield 45, 3) := by decide +kernel
theorem dX3_pushes_34 : decode cX3_pushes 34 = .ok (.iload_n 3, 1) := by decide +kernel
theorem dX3_pushes_35 : decode cX3_pushes 35 = .ok (.invokevirtual 52, 3) := by decide +kernel
theorem dX3_pushes_38 : decode cX3_pushes 38 = .ok (.bipush 100, 2) := by decide +kernel
theorem dX3_pushes_40 : decode cX3_pushes 40 = .ok (.if_icmp .lt 5, 3) := by decide +kernel
theorem dX3_pushes_43 : decode cX3_pushes 43 = .ok (.iconst 0, 1) := by decide +kernel
theorem dX3_pushes_44 : decode cX3_pushes 44 = .ok (.ireturn, 1) := by decide +kernel
theorem dX3_pushes_45 : decode cX3_pushes 45 = .ok (.iload_n 2, 1) := by decide +kernel
theorem dX3_pushes_46 : decode cX3_pushes 46 = .ok (.iload_n 1, 1) := by decide +kernel
theorem dX3_pushes_47 : decode cX3_pushes 47 = .ok (.invokestatic 72, 3) := by decide +kernel
theorem dX3_pushes_50 : decode cX3_pushes 50 = .ok (.istore 4, 2) := by decide +kernel
theorem dX3_pushes_52 : decode cX3_pushes 52 = .ok (.iload 4, 2) := by decide +kernel
theorem dX3_pushes_54 : decode cX3_pushes 54 = .ok (.iconst (-1), 1) := by decide +kernel
theorem dX3_pushes_55 : decode cX3_pushes 55 = .ok (.if_icmp .eq 13, 3) := by decide +kernel
theorem dX3_pushes_58 : decode cX3_pushes 58 = .ok (.aload_n 0, 1) := by decide +kernel
theorem dX3_pushes_59 : decode cX3_pushes 59 = .ok (.iload 4, 2) := by decide +kernel
theorem dX3_pushes_61 : decode cX3_pushes 61 = .ok (.invokevirtual 82, 3) := by decide +kernel
theorem dX3_pushes_64 : decode cX3_pushes 64 = .ok (.iconst (-1), 1) := by decide +kernel
theorem dX3_pushes_65 : decode cX3_pushes 65 = .ok (.if_icmp .eq 5, 3) := by decide +kernel
theorem dX3_pushes_68 : decode cX3_pushes 68 = .ok (.iconst 0, 1) := by decide +kernel
theorem dX3_pushes_69 : decode cX3_pushes 69 = .ok (.ireturn, 1) := by decide +kernel
theorem dX3_pushes_70 : decode cX3_pushes 70 = .ok (.aload_n 0, 1) := by decide +kernel
theorem dX3_pushes_71 : decode cX3_pushes 71 = .ok (.getfield 32, 3) := by decide +kernel
theorem dX3_pushes_74 : decode cX3_pushes 74 = .ok (.iconst 0, 1) := by decide +kernel
theorem dX3_pushes_75 : decode cX3_pushes 75 = .ok (.iload_n 2, 1) := by decide +kernel
theorem dX3_pushes_76 : decode cX3_pushes 76 = .ok (.iastore, 1) := by decide +kernel
theorem dX3_pushes_77 : decode cX3_pushes 77 = .ok (.aload_n 0, 1) := by decide +kernel
theorem dX3_pushes_78 : decode cX3_pushes 78 = .ok (.getfield 32, 3) := by decide +kernel
theorem dX3_pushes_81 : decode cX3_pushes 81 = .ok (.iconst 1, 1) := by decide +kernel
theorem dX3_pushes_82 : decode cX3_pushes 82 = .ok (.iload_n 3, 1) := by decide +kernel
theorem dX3_pushes_83 : decode cX3_pushes 83 = .ok (.iadd, 1) := by decide +kernel
theorem dX3_pushes_84 : decode cX3_pushes 84 = .ok (.iload 4, 2) := by decide +kernel
theorem dX3_pushes_86 : decode cX3_pushes 86 = .ok (.iastore, 1) := by decide +kernel
theorem dX3_pushes_87 : decode cX3_pushes 87 = .ok (.iconst 1, 1) := by decide +kernel
theorem dX3_pushes_88 : decode cX3_pushes 88 = .ok (.ireturn, 1) := by decide +kernel
theorem dX3_does_0 : decode cX3_does 0 = .ok (.aload_n 0, 1) := by decide +kernel
theorem dX3_does_1 : decode cX3_does 1 = .ok (.getfield 29, 3) := by decide +kernel
theorem dX3_does_4 : decode cX3_does 4 = .ok (.bipush 17, 2) := by decide +kernel
theorem dX3_does_6 : decode cX3_does 6 = .ok (.aload_n 0, 1) := by decide +kernel
theorem dX3_does_7 : decode cX3_does 7 = .ok (.getfield 45, 3) := by decide +kernel
theorem dX3_does_10 : decode cX3_does 10 = .ok (.imul, 1) := by decide +kernel
theorem dX3_does_11 : decode cX3_does 11 = .ok (.aload_n 0, 1) := by decide +kernel
theorem dX3_does_12 : decode cX3_does 12 = .ok (.getfield 32, 3) := by decide +kernel
theorem dX3_does_15 : decode cX3_does 15 = .ok (.iconst 0, 1) := by decide +kernel
theorem dX3_does_16 : decode cX3_does 16 = .ok (.bipush 17, 2) := by decide +kernel
theorem dX3_does_18 : decode cX3_does 18 = .ok (.invokestatic 85, 3) := by decide +kernel
theorem dX3_does_21 : decode cX3_does 21 = .ok (.iload_n 1, 1) := by decide +kernel
theorem dX3_does_22 : decode cX3_does 22 = .ok (.ifCond .ne 11, 3) := by decide +kernel
theorem dX3_does_25 : decode cX3_does 25 = .ok (.aload_n 0, 1) := by decide +kernel
theorem dX3_does_26 : decode cX3_does 26 = .ok (.iload_n 2, 1) := by decide +kernel
theorem dX3_does_27 : decode cX3_does 27 = .ok (.invokevirtual 91, 3) := by decide +kernel
theorem dX3_does_30 : decode cX3_does 30 = .ok (.goto 31, 3) := by decide +kernel
theorem dX3_does_33 : decode cX3_does 33 = .ok (.iload_n 1, 1) := by decide +kernel
theorem dX3_does_34 : decode cX3_does 34 = .ok (.iconst 3, 1) := by decide +kernel
theorem dX3_does_35 : decode cX3_does 35 = .ok (.if_icmp .ne 11, 3) := by decide +kernel
theorem dX3_does_38 : decode cX3_does 38 = .ok (.aload_n 0, 1) := by decide +kernel
theorem dX3_does_39 : decode cX3_does 39 = .ok (.iload_n 2, 1) := by decide +kernel
theorem dX3_does_40 : decode cX3_does 40 = .ok (.invokevirtual 94, 3) := by decide +kernel
theorem dX3_does_43 : decode cX3_does 43 = .ok (.goto 18, 3) := by decide +kernel
theorem dX3_does_46 : decode cX3_does 46 = .ok (.aload_n 0, 1) := by decide +kernel
theorem dX3_does_47 : decode cX3_does 47 = .ok (.iload_n 2, 1) := by decide +kernel
theorem dX3_does_48 : decode cX3_does 48 = .ok (.iload_n 1, 1) := by decide +kernel
theorem dX3_does_49 : decode cX3_does 49 = .ok (.iconst 2, 1) := by decide +kernel
theorem dX3_does_50 : decode cX3_does 50 = .ok (.if_icmp .ne 7, 3) := by decide +kernel
theorem dX3_does_53 : decode cX3_does 53 = .ok (.iconst 1, 1) := by decide +kernel
theorem dX3_does_54 : decode cX3_does 54 = .ok (.goto 4, 3) := by decide +kernel
theorem dX3_does_57 : decode cX3_does 57 = .ok (.iconst 0, 1) := by decide +kernel
theorem dX3_does_58 : decode cX3_does 58 = .ok (.invokevirtual 97, 3) := by decide +kernel
theorem dX3_does_61 : decode cX3_does 61 = .ok (.ireturn, 1) := by decide +kernel
theorem dX3_down_0 : decode cX3_down 0 = .ok (.iconst 0, 1) := by decide +kernel
theorem dX3_down_1 : decode cX3_down 1 = .ok (.istore_n 3, 1) := by decide +kernel
theorem dX3_down_2 : decode cX3_down 2 = .ok (.iconst 0, 1) := by decide +kernel
theorem dX3_down_3 : decode cX3_down 3 = .ok (.istore 4, 2) := by decide +kernel
theorem dX3_down_5 : decode cX3_down 5 = .ok (.iload 4, 2) := by decide +kernel
theorem dX3_down_7 : decode cX3_down 7 = .ok (.iload_n 2, 1) := by decide +kernel
theorem dX3_down_8 : decode cX3_down 8 = .ok (.if_icmp .ge 29, 3) := by decide +kernel
theorem dX3_down_11 : decode cX3_down 11 = .ok (.iload_n 3, 1) := by decide +kernel
theorem dX3_down_12 : decode cX3_down 12 = .ok (.aload_n 0, 1) := by decide +kernel
theorem dX3_down_13 : decode cX3_down 13 = .ok (.iload_n 1, 1) := by decide +kernel
theorem dX3_down_14 : decode cX3_down 14 = .ok (.iload 4, 2) := by decide +kernel
theorem dX3_down_16 : decode cX3_down 16 = .ok (.invokevirtual 52, 3) := by decide +kernel
theorem dX3_down_19 : decode cX3_down 19 = .ok (.bipush 100, 2) := by decide +kernel
theorem dX3_down_21 : decode cX3_down 21 = .ok (.if_icmp .lt 7, 3) := by decide +kernel
theorem dX3_down_24 : decode cX3_down 24 = .ok (.iconst 1, 1) := by decide +kernel
theorem dX3_down_25 : decode cX3_down 25 = .ok (.goto 4, 3) := by decide +kernel
theorem dX3_down_28 : decode cX3_down 28 = .ok (.iconst 0, 1) := by decide +kernel
theorem dX3_down_29 : decode cX3_down 29 = .ok (.iadd, 1) := by decide +kernel
theorem dX3_down_30 : decode cX3_down 30 = .ok (.istore_n 3, 1) := by decide +kernel
theorem dX3_down_31 : decode cX3_down 31 = .ok (.iinc 4 1, 3) := by decide +kernel
theorem dX3_down_34 : decode cX3_down 34 = .ok (.goto (-29), 3) := by decide +kernel
theorem dX3_down_37 : decode cX3_down 37 = .ok (.iload_n 3, 1) := by decide +kernel
theorem dX3_down_38 : decode cX3_down 38 = .ok (.ireturn, 1) := by decide +kernel
theorem dX3_setPiece_0 : decode cX3_setPiece 0 = .ok (.aload_n 0, 1) := by decide +kernel
theorem dX3_setPiece_1 : decode cX3_setPiece 1 = .ok (.iconst 0, 1) := by decide +kernel
theorem dX3_setPiece_2 : decode cX3_setPiece 2 = .ok (.putfield 35, 3) := by decide +kernel
theorem dX3_setPiece_5 : decode cX3_setPiece 5 = .ok (.iload_n 1, 1) := by decide +kernel
theorem dX3_setPiece_6 : decode cX3_setPiece 6 = .ok (.invokestatic 58, 3) := by decide +kernel
theorem dX3_setPiece_9 : decode cX3_setPiece 9 = .ok (.ifCond .eq 10, 3) := by decide +kernel
theorem dX3_setPiece_12 : decode cX3_setPiece 12 = .ok (.iload_n 2, 1) := by decide +kernel
theorem dX3_setPiece_13 : decode cX3_setPiece 13 = .ok (.invokestatic 58, 3) := by decide +kernel
theorem dX3_setPiece_16 : decode cX3_setPiece 16 = .ok (.ifCond .ne 9, 3) := by decide +kernel
theorem dX3_setPiece_19 : decode cX3_setPiece 19 = .ok (.aload_n 0, 1) := by decide +kernel
theorem dX3_setPiece_20 : decode cX3_setPiece 20 = .ok (.iconst 1, 1) := by decide +kernel
theorem dX3_setPiece_21 : decode cX3_setPiece 21 = .ok (.invokevirtual 101, 3) := by decide +kernel
theorem dX3_setPiece_24 : decode cX3_setPiece 24 = .ok (.ireturn, 1) := by decide +kernel
theorem dX3_setPiece_25 : decode cX3_setPiece 25 = .ok (.bipush 8, 2) := by decide +kernel
theorem dX3_setPiece_27 : decode cX3_setPiece 27 = .ok (.iload_n 1, 1) := by decide +kernel
theorem dX3_setPiece_28 : decode cX3_setPiece 28 = .ok (.imul, 1) := by decide +kernel
theorem dX3_setPiece_29 : decode cX3_setPiece 29 = .ok (.iload_n 2, 1) := by decide +kernel
theorem dX3_setPiece_30 : decode cX3_setPiece 30 = .ok (.iadd, 1) := by decide +kernel
theorem dX3_setPiece_31 : decode cX3_setPiece 31 = .ok (.istore_n 3, 1) := by decide +kernel
theorem dX3_setPiece_32 : decode cX3_setPiece 32 = .ok (.aload_n 0, 1) := by decide +kernel
theorem dX3_setPiece_33 : decode cX3_setPiece 33 = .ok (.getfield 42, 3) := by decide +kernel
theorem dX3_setPiece_36 : decode cX3_setPiece 36 = .ok (.bipush 16, 2) := by decide +kernel
theorem dX3_setPiece_38 : decode cX3_setPiece 38 = .ok (.if_icmp .eq 20, 3) := by decide +kernel
theorem dX3_setPiece_41 : decode cX3_setPiece 41 = .ok (.aload_n 0, 1) := by decide +kernel
theorem dX3_setPiece_42 : decode cX3_setPiece 42 = .ok (.getfield 9, 3) := by decide +kernel
theorem dX3_setPiece_45 : decode cX3_setPiece 45 = .ok (.iconst 1, 1) := by decide +kernel
theorem dX3_setPiece_46 : decode cX3_setPiece 46 = .ok (.if_icmp .gt 12, 3) := by decide +kernel
theorem dX3_setPiece_49 : decode cX3_setPiece 49 = .ok (.aload_n 0, 1) := by decide +kernel
theorem dX3_setPiece_50 : decode cX3_setPiece 50 = .ok (.iload_n 3, 1) := by decide +kernel
theorem dX3_setPiece_51 : decode cX3_setPiece 51 = .ok (.invokevirtual 82, 3) := by decide +kernel
theorem dX3_setPiece_54 : decode cX3_setPiece 54 = .ok (.iconst (-1), 1) := by decide +kernel
theorem dX3_setPiece_55 : decode cX3_setPiece 55 = .ok (.if_icmp .eq 9, 3) := by decide +kernel
theorem dX3_setPiece_58 : decode cX3_setPiece 58 = .ok (.aload_n 0, 1) := by decide +kernel
theorem dX3_setPiece_59 : decode cX3_setPiece 59 = .ok (.iconst 2, 1) := by decide +kernel
theorem dX3_setPiece_60 : decode cX3_setPiece 60 = .ok (.invokevirtual 101, 3) := by decide +kernel
theorem dX3_setPiece_63 : decode cX3_setPiece 63 = .ok (.ireturn, 1) := by decide +kernel
theorem dX3_setPiece_64 : decode cX3_setPiece 64 = .ok (.aload_n 0, 1) := by decide +kernel
theorem dX3_setPiece_65 : decode cX3_setPiece 65 = .ok (.getfield 29, 3) := by decide +kernel
theorem dX3_setPiece_68 : decode cX3_setPiece 68 = .ok (.iconst 1, 1) := by decide +kernel
theorem dX3_setPiece_69 : decode cX3_setPiece 69 = .ok (.aload_n 0, 1) := by decide +kernel
theorem dX3_setPiece_70 : decode cX3_setPiece 70 = .ok (.getfield 42, 3) := by decide +kernel
theorem dX3_setPiece_73 : decode cX3_setPiece 73 = .ok (.iadd, 1) := by decide +kernel
theorem dX3_setPiece_74 : decode cX3_setPiece 74 = .ok (.iload_n 3, 1) := by decide +kernel
theorem dX3_setPiece_75 : decode cX3_setPiece 75 = .ok (.iastore, 1) := by decide +kernel
theorem dX3_setPiece_76 : decode cX3_setPiece 76 = .ok (.aload_n 0, 1) := by decide +kernel
theorem dX3_setPiece_77 : decode cX3_setPiece 77 = .ok (.dup, 1) := by decide +kernel
theorem dX3_setPiece_78 : decode cX3_setPiece 78 = .ok (.getfield 42, 3) := by decide +kernel
theorem dX3_setPiece_81 : decode cX3_setPiece 81 = .ok (.iconst 1, 1) := by decide +kernel
theorem dX3_setPiece_82 : decode cX3_setPiece 82 = .ok (.iadd, 1) := by decide +kernel
theorem dX3_setPiece_83 : decode cX3_setPiece 83 = .ok (.putfield 42, 3) := by decide +kernel
theorem dX3_setPiece_86 : decode cX3_setPiece 86 = .ok (.aload_n 0, 1) := by decide +kernel
theorem dX3_setPiece_87 : decode cX3_setPiece 87 = .ok (.getfield 42, 3) := by decide +kernel
theorem dX3_setPiece_90 : decode cX3_setPiece 90 = .ok (.iconst 1, 1) := by decide +kernel
theorem dX3_setPiece_91 : decode cX3_setPiece 91 = .ok (.isub, 1) := by decide +kernel
theorem dX3_setPiece_92 : decode cX3_setPiece 92 = .ok (.ireturn, 1) := by decide +kernel
theorem dX3_paw_0 : decode cX3_paw 0 = .ok (.aload_n 0, 1) := by decide +kernel
theorem dX3_paw_1 : decode cX3_paw 1 = .ok (.iconst 0, 1) := by decide +kernel
theorem dX3_paw_2 : decode cX3_paw 2 = .ok (.putfield 35, 3) := by decide +kernel
theorem dX3_paw_5 : decode cX3_paw 5 = .ok (.iload_n 1, 1) := by decide +kernel
theorem dX3_paw_6 : decode cX3_paw 6 = .ok (.iload_n 2, 1) := by decide +kernel
theorem dX3_paw_7 : decode cX3_paw 7 = .ok (.invokestatic 104, 3) := by decide +kernel
theorem dX3_paw_10 : decode cX3_paw 10 = .ok (.ifCond .ne 9, 3) := by decide +kernel
theorem dX3_paw_13 : decode cX3_paw 13 = .ok (.aload_n 0, 1) := by decide +kernel
theorem dX3_paw_14 : decode cX3_paw 14 = .ok (.iconst 1, 1) := by decide +kernel
theorem dX3_paw_15 : decode cX3_paw 15 = .ok (.invokevirtual 101, 3) := by decide +kernel
theorem dX3_paw_18 : decode cX3_paw 18 = .ok (.ireturn, 1) := by decide +kernel
theorem dX3_paw_19 : decode cX3_paw 19 = .ok (.aload_n 0, 1) := by decide +kernel
theorem dX3_paw_20 : decode cX3_paw 20 = .ok (.iload_n 1, 1) := by decide +kernel
theorem dX3_paw_21 : decode cX3_paw 21 = .ok (.iload_n 2, 1) := by decide +kernel
theorem dX3_paw_22 : decode cX3_paw 22 = .ok (.invokevirtual 107, 3) := by decide +kernel
theorem dX3_paw_25 : decode cX3_paw 25 = .ok (.ifCond .eq 12, 3) := by decide +kernel
theorem dX3_paw_28 : decode cX3_paw 28 = .ok (.aload_n 0, 1) := by decide +kernel
theorem dX3_paw_29 : decode cX3_paw 29 = .ok (.getfield 9, 3) := by decide +kernel
theorem dX3_paw_32 : decode cX3_paw 32 = .ok (.bipush 60, 2) := by decide +kernel
theorem dX3_paw_34 : decode cX3_paw 34 = .ok (.if_icmp .ne 9, 3) := by decide +kernel
theorem dX3_paw_37 : decode cX3_paw 37 = .ok (.aload_n 0, 1) := by decide +kernel
theorem dX3_paw_38 : decode cX3_paw 38 = .ok (.iconst 2, 1) := by decide +kernel
theorem dX3_paw_39 : decode cX3_paw 39 = .ok (.invokevirtual 101, 3) := by decide +kernel
theorem dX3_paw_42 : decode cX3_paw 42 = .ok (.ireturn, 1) := by decide +kernel
theorem dX3_paw_43 : decode cX3_paw 43 = .ok (.aload_n 0, 1) := by decide +kernel
theorem dX3_paw_44 : decode cX3_paw 44 = .ok (.getfield 32, 3) := by decide +kernel
theorem dX3_paw_47 : decode cX3_paw 47 = .ok (.iconst 0, 1) := by decide +kernel
theorem dX3_paw_48 : decode cX3_paw 48 = .ok (.aload_n 0, 1) := by decide +kernel
theorem dX3_paw_49 : decode cX3_paw 49 = .ok (.getfield 29, 3) := by decide +kernel
theorem dX3_paw_52 : decode cX3_paw 52 = .ok (.bipush 17, 2) := by decide +kernel
theorem dX3_paw_54 : decode cX3_paw 54 = .ok (.aload_n 0, 1) := by decide +kernel
theorem dX3_paw_55 : decode cX3_paw 55 = .ok (.getfield 9, 3) := by decide +kernel
theorem dX3_paw_58 : decode cX3_paw 58 = .ok (.imul, 1) := by decide +kernel
theorem dX3_paw_59 : decode cX3_paw 59 = .ok (.bipush 17, 2) := by decide +kernel
theorem dX3_paw_61 : decode cX3_paw 61 = .ok (.invokestatic 85, 3) := by decide +kernel
theorem dX3_paw_64 : decode cX3_paw 64 = .ok (.aload_n 0, 1) := by decide +kernel
theorem dX3_paw_65 : decode cX3_paw 65 = .ok (.getfield 13, 3) := by decide +kernel
theorem dX3_paw_68 : decode cX3_paw 68 = .ok (.aload_n 0, 1) := by decide +kernel
theorem dX3_paw_69 : decode cX3_paw 69 = .ok (.getfield 9, 3) := by decide +kernel
theorem dX3_paw_72 : decode cX3_paw 72 = .ok (.aload_n 0, 1) := by decide +kernel
theorem dX3_paw_73 : decode cX3_paw 73 = .ok (.getfield 45, 3) := by decide +kernel
theorem dX3_paw_76 : decode cX3_paw 76 = .ok (.iastore, 1) := by decide +kernel
theorem dX3_paw_77 : decode cX3_paw 77 = .ok (.aload_n 0, 1) := by decide +kernel
theorem dX3_paw_78 : decode cX3_paw 78 = .ok (.getfield 17, 3) := by decide +kernel
theorem dX3_paw_81 : decode cX3_paw 81 = .ok (.aload_n 0, 1) := by decide +kernel
theorem dX3_paw_82 : decode cX3_paw 82 = .ok (.getfield 9, 3) := by decide +kernel
theorem dX3_paw_85 : decode cX3_paw 85 = .ok (.iload_n 1, 1) := by decide +kernel
theorem dX3_paw_86 : decode cX3_paw 86 = .ok (.iastore, 1) := by decide +kernel
theorem dX3_paw_87 : decode cX3_paw 87 = .ok (.aload_n 0, 1) := by decide +kernel
theorem dX3_paw_88 : decode cX3_paw 88 = .ok (.getfield 20, 3) := by decide +kernel
theorem dX3_paw_91 : decode cX3_paw 91 = .ok (.aload_n 0, 1) := by decide +kernel
theorem dX3_paw_92 : decode cX3_paw 92 = .ok (.getfield 9, 3) := by decide +kernel
theorem dX3_paw_95 : decode cX3_paw 95 = .ok (.iload_n 2, 1) := by decide +kernel
theorem dX3_paw_96 : decode cX3_paw 96 = .ok (.iastore, 1) := by decide +kernel
theorem dX3_paw_97 : decode cX3_paw 97 = .ok (.aload_n 0, 1) := by decide +kernel
theorem dX3_paw_98 : decode cX3_paw 98 = .ok (.getfield 23, 3) := by decide +kernel
theorem dX3_paw_101 : decode cX3_paw 101 = .ok (.aload_n 0, 1) := by decide +kernel
theorem dX3_paw_102 : decode cX3_paw 102 = .ok (.getfield 9, 3) := by decide +kernel
theorem dX3_paw_105 : decode cX3_paw 105 = .ok (.aload_n 0, 1) := by decide +kernel
theorem dX3_paw_106 : decode cX3_paw 106 = .ok (.getfield 23, 3) := by decide +kernel
theorem dX3_paw_109 : decode cX3_paw 109 = .ok (.aload_n 0, 1) := by decide +kernel
theorem dX3_paw_110 : decode cX3_paw 110 = .ok (.getfield 45, 3) := by decide +kernel
theorem dX3_paw_113 : decode cX3_paw 113 = .ok (.iaload, 1) := by decide +kernel
theorem dX3_paw_114 : decode cX3_paw 114 = .ok (.iconst 1, 1) := by decide +kernel
theorem dX3_paw_115 : decode cX3_paw 115 = .ok (.iadd, 1) := by decide +kernel
theorem dX3_paw_116 : decode cX3_paw 116 = .ok (.iastore, 1) := by decide +kernel
theorem dX3_paw_117 : decode cX3_paw 117 = .ok (.aload_n 0, 1) := by decide +kernel
theorem dX3_paw_118 : decode cX3_paw 118 = .ok (.getfield 26, 3) := by decide +kernel
theorem dX3_paw_121 : decode cX3_paw 121 = .ok (.aload_n 0, 1) := by decide +kernel
theorem dX3_paw_122 : decode cX3_paw 122 = .ok (.getfield 9, 3) := by decide +kernel
theorem dX3_paw_125 : decode cX3_paw 125 = .ok (.iconst (-1), 1) := by decide +kernel
theorem dX3_paw_126 : decode cX3_paw 126 = .ok (.iastore, 1) := by decide +kernel
theorem dX3_paw_127 : decode cX3_paw 127 = .ok (.aload_n 0, 1) := by decide +kernel
theorem dX3_paw_128 : decode cX3_paw 128 = .ok (.getfield 26, 3) := by decide +kernel
theorem dX3_paw_131 : decode cX3_paw 131 = .ok (.aload_n 0, 1) := by decide +kernel
theorem dX3_paw_132 : decode cX3_paw 132 = .ok (.getfield 45, 3) := by decide +kernel
theorem dX3_paw_135 : decode cX3_paw 135 = .ok (.aload_n 0, 1) := by decide +kernel
theorem dX3_paw_136 : decode cX3_paw 136 = .ok (.getfield 9, 3) := by decide +kernel
theorem dX3_paw_139 : decode cX3_paw 139 = .ok (.iastore, 1) := by decide +kernel
theorem dX3_paw_140 : decode cX3_paw 140 = .ok (.aload_n 0, 1) := by decide +kernel
theorem dX3_paw_141 : decode cX3_paw 141 = .ok (.aload_n 0, 1) := by decide +kernel
theorem dX3_paw_142 : decode cX3_paw 142 = .ok (.getfield 9, 3) := by decide +kernel
theorem dX3_paw_145 : decode cX3_paw 145 = .ok (.putfield 45, 3) := by decide +kernel
theorem dX3_paw_148 : decode cX3_paw 148 = .ok (.aload_n 0, 1) := by decide +kernel
theorem dX3_paw_149 : decode cX3_paw 149 = .ok (.dup, 1) := by decide +kernel
theorem dX3_paw_150 : decode cX3_paw 150 = .ok (.getfield 9, 3) := by decide +kernel
theorem dX3_paw_153 : decode cX3_paw 153 = .ok (.iconst 1, 1) := by decide +kernel
theorem dX3_paw_154 : decode cX3_paw 154 = .ok (.iadd, 1) := by decide +kernel
theorem dX3_paw_155 : decode cX3_paw 155 = .ok (.putfield 9, 3) := by decide +kernel
theorem dX3_paw_158 : decode cX3_paw 158 = .ok (.aload_n 0, 1) := by decide +kernel
theorem dX3_paw_159 : decode cX3_paw 159 = .ok (.getfield 45, 3) := by decide +kernel
theorem dX3_paw_162 : decode cX3_paw 162 = .ok (.ireturn, 1) := by decide +kernel
theorem dX3_undo_0 : decode cX3_undo 0 = .ok (.aload_n 0, 1) := by decide +kernel
theorem dX3_undo_1 : decode cX3_undo 1 = .ok (.iconst 0, 1) := by decide +kernel
theorem dX3_undo_2 : decode cX3_undo 2 = .ok (.putfield 35, 3) := by decide +kernel
theorem dX3_undo_5 : decode cX3_undo 5 = .ok (.iload_n 1, 1) := by decide +kernel
theorem dX3_undo_6 : decode cX3_undo 6 = .ok (.iconst 1, 1) := by decide +kernel
theorem dX3_undo_7 : decode cX3_undo 7 = .ok (.bipush 60, 2) := by decide +kernel
theorem dX3_undo_9 : decode cX3_undo 9 = .ok (.invokestatic 38, 3) := by decide +kernel
theorem dX3_undo_12 : decode cX3_undo 12 = .ok (.ifCond .ne 9, 3) := by decide +kernel
theorem dX3_undo_15 : decode cX3_undo 15 = .ok (.aload_n 0, 1) := by decide +kernel
theorem dX3_undo_16 : decode cX3_undo 16 = .ok (.iconst 1, 1) := by decide +kernel
theorem dX3_undo_17 : decode cX3_undo 17 = .ok (.invokevirtual 101, 3) := by decide +kernel
theorem dX3_undo_20 : decode cX3_undo 20 = .ok (.ireturn, 1) := by decide +kernel
theorem dX3_undo_21 : decode cX3_undo 21 = .ok (.aload_n 0, 1) := by decide +kernel
theorem dX3_undo_22 : decode cX3_undo 22 = .ok (.getfield 23, 3) := by decide +kernel
theorem dX3_undo_25 : decode cX3_undo 25 = .ok (.aload_n 0, 1) := by decide +kernel
theorem dX3_undo_26 : decode cX3_undo 26 = .ok (.getfield 45, 3) := by decide +kernel
theorem dX3_undo_29 : decode cX3_undo 29 = .ok (.iaload, 1) := by decide +kernel
theorem dX3_undo_30 : decode cX3_undo 30 = .ok (.iload_n 1, 1) := by decide +kernel
theorem dX3_undo_31 : decode cX3_undo 31 = .ok (.if_icmp .ge 9, 3) := by decide +kernel
theorem dX3_undo_34 : decode cX3_undo 34 = .ok (.aload_n 0, 1) := by decide +kernel
theorem dX3_undo_35 : decode cX3_undo 35 = .ok (.iconst 2, 1) := by decide +kernel
theorem dX3_undo_36 : decode cX3_undo 36 = .ok (.invokevirtual 101, 3) := by decide +kernel
theorem dX3_undo_39 : decode cX3_undo 39 = .ok (.ireturn, 1) := by decide +kernel
theorem dX3_undo_40 : decode cX3_undo 40 = .ok (.iconst 0, 1) := by decide +kernel
theorem dX3_undo_41 : decode cX3_undo 41 = .ok (.istore_n 2, 1) := by decide +kernel
theorem dX3_undo_42 : decode cX3_undo 42 = .ok (.iload_n 2, 1) := by decide +kernel
theorem dX3_undo_43 : decode cX3_undo 43 = .ok (.iload_n 1, 1) := by decide +kernel
theorem dX3_undo_44 : decode cX3_undo 44 = .ok (.if_icmp .ge 22, 3) := by decide +kernel
theorem dX3_undo_47 : decode cX3_undo 47 = .ok (.aload_n 0, 1) := by decide +kernel
theorem dX3_undo_48 : decode cX3_undo 48 = .ok (.aload_n 0, 1) := by decide +kernel
theorem dX3_undo_49 : decode cX3_undo 49 = .ok (.getfield 13, 3) := by decide +kernel
theorem dX3_undo_52 : decode cX3_undo 52 = .ok (.aload_n 0, 1) := by decide +kernel
theorem dX3_undo_53 : decode cX3_undo 53 = .ok (.getfield 45, 3) := by decide +kernel
theorem dX3_undo_56 : decode cX3_undo 56 = .ok (.iaload, 1) := by decide +kernel
theorem dX3_undo_57 : decode cX3_undo 57 = .ok (.putfield 45, 3) := by decide +kernel
theorem dX3_undo_60 : decode cX3_undo 60 = .ok (.iinc 2 1, 3) := by decide +kernel
theorem dX3_undo_63 : decode cX3_undo 63 = .ok (.goto (-21), 3) := by decide +kernel
theorem dX3_undo_66 : decode cX3_undo 66 = .ok (.aload_n 0, 1) := by decide +kernel
theorem dX3_undo_67 : decode cX3_undo 67 = .ok (.getfield 45, 3) := by decide +kernel
theorem dX3_undo_70 : decode cX3_undo 70 = .ok (.ireturn, 1) := by decide +kernel
theorem dX3_redo_0 : decode cX3_redo 0 = .ok (.aload_n 0, 1) := by decide +kernel
theorem dX3_redo_1 : decode cX3_redo 1 = .ok (.iconst 0, 1) := by decide +kernel
theorem dX3_redo_2 : decode cX3_redo 2 = .ok (.putfield 35, 3) := by decide +kernel
theorem dX3_redo_5 : decode cX3_redo 5 = .ok (.iload_n 1, 1) := by decide +kernel
theorem dX3_redo_6 : decode cX3_redo 6 = .ok (.iconst 1, 1) := by decide +kernel
theorem dX3_redo_7 : decode cX3_redo 7 = .ok (.bipush 60, 2) := by decide +kernel
theorem dX3_redo_9 : decode cX3_redo 9 = .ok (.invokestatic 38, 3) := by decide +kernel
theorem dX3_redo_12 : decode cX3_redo 12 = .ok (.ifCond .ne 9, 3) := by decide +kernel
theorem dX3_redo_15 : decode cX3_redo 15 = .ok (.aload_n 0, 1) := by decide +kernel
theorem dX3_redo_16 : decode cX3_redo 16 = .ok (.iconst 1, 1) := by decide +kernel
theorem dX3_redo_17 : decode cX3_redo 17 = .ok (.invokevirtual 101, 3) := by decide +kernel
theorem dX3_redo_20 : decode cX3_redo 20 = .ok (.ireturn, 1) := by decide +kernel
theorem dX3_redo_21 : decode cX3_redo 21 = .ok (.aload_n 0, 1) := by decide +kernel
theorem dX3_redo_22 : decode cX3_redo 22 = .ok (.getfield 45, 3) := by decide +kernel
theorem dX3_redo_25 : decode cX3_redo 25 = .ok (.istore_n 2, 1) := by decide +kernel
theorem dX3_redo_26 : decode cX3_redo 26 = .ok (.iconst 0, 1) := by decide +kernel
theorem dX3_redo_27 : decode cX3_redo 27 = .ok (.istore_n 3, 1) := by decide +kernel
theorem dX3_redo_28 : decode cX3_redo 28 = .ok (.iload_n 3, 1) := by decide +kernel
theorem dX3_redo_29 : decode cX3_redo 29 = .ok (.iload_n 1, 1) := by decide +kernel
theorem dX3_redo_30 : decode cX3_redo 30 = .ok (.if_icmp .ge 21, 3) := by decide +kernel
theorem dX3_redo_33 : decode cX3_redo 33 = .ok (.iload_n 2, 1) := by decide +kernel
theorem dX3_redo_34 : decode cX3_redo 34 = .ok (.iconst (-1), 1) := by decide +kernel
theorem dX3_redo_35 : decode cX3_redo 35 = .ok (.if_icmp .eq 16, 3) := by decide +kernel
theorem dX3_redo_38 : decode cX3_redo 38 = .ok (.aload_n 0, 1) := by decide +kernel
theorem dX3_redo_39 : decode cX3_redo 39 = .ok (.getfield 26, 3) := by decide +kernel
theorem dX3_redo_42 : decode cX3_redo 42 = .ok (.iload_n 2, 1) := by decide +kernel
theorem dX3_redo_43 : decode cX3_redo 43 = .ok (.iaload, 1) := by decide +kernel
theorem dX3_redo_44 : decode cX3_redo 44 = .ok (.istore_n 2, 1) := by decide +kernel
theorem dX3_redo_45 : decode cX3_redo 45 = .ok (.iinc 3 1, 3) := by decide +kernel
theorem dX3_redo_48 : decode cX3_redo 48 = .ok (.goto (-20), 3) := by decide +kernel
theorem dX3_redo_51 : decode cX3_redo 51 = .ok (.iload_n 2, 1) := by decide +kernel
theorem dX3_redo_52 : decode cX3_redo 52 = .ok (.iconst (-1), 1) := by decide +kernel
theorem dX3_redo_53 : decode cX3_redo 53 = .ok (.if_icmp .ne 9, 3) := by decide +kernel
theorem dX3_redo_56 : decode cX3_redo 56 = .ok (.aload_n 0, 1) := by decide +kernel
theorem dX3_redo_57 : decode cX3_redo 57 = .ok (.iconst 2, 1) := by decide +kernel
theorem dX3_redo_58 : decode cX3_redo 58 = .ok (.invokevirtual 101, 3) := by decide +kernel
theorem dX3_redo_61 : decode cX3_redo 61 = .ok (.ireturn, 1) := by decide +kernel
theorem dX3_redo_62 : decode cX3_redo 62 = .ok (.aload_n 0, 1) := by decide +kernel
theorem dX3_redo_63 : decode cX3_redo 63 = .ok (.iload_n 2, 1) := by decide +kernel
theorem dX3_redo_64 : decode cX3_redo 64 = .ok (.putfield 45, 3) := by decide +kernel
theorem dX3_redo_67 : decode cX3_redo 67 = .ok (.aload_n 0, 1) := by decide +kernel
theorem dX3_redo_68 : decode cX3_redo 68 = .ok (.getfield 45, 3) := by decide +kernel
theorem dX3_redo_71 : decode cX3_redo 71 = .ok (.ireturn, 1) := by decide +kernel
theorem dX3_meeting_0 : decode cX3_meeting 0 = .ok (.iload_n 1, 1) := by decide +kernel
theorem dX3_meeting_1 : decode cX3_meeting 1 = .ok (.istore_n 3, 1) := by decide +kernel
theorem dX3_meeting_2 : decode cX3_meeting 2 = .ok (.iload_n 2, 1) := by decide +kernel
theorem dX3_meeting_3 : decode cX3_meeting 3 = .ok (.istore 4, 2) := by decide +kernel
theorem dX3_meeting_5 : decode cX3_meeting 5 = .ok (.iload_n 3, 1) := by decide +kernel
theorem dX3_meeting_6 : decode cX3_meeting 6 = .ok (.iload 4, 2) := by decide +kernel
theorem dX3_meeting_8 : decode cX3_meeting 8 = .ok (.if_icmp .eq 41, 3) := by decide +kernel
theorem dX3_meeting_11 : decode cX3_meeting 11 = .ok (.aload_n 0, 1) := by decide +kernel
theorem dX3_meeting_12 : decode cX3_meeting 12 = .ok (.getfield 23, 3) := by decide +kernel
theorem dX3_meeting_15 : decode cX3_meeting 15 = .ok (.iload_n 3, 1) := by decide +kernel
theorem dX3_meeting_16 : decode cX3_meeting 16 = .ok (.iaload, 1) := by decide +kernel
theorem dX3_meeting_17 : decode cX3_meeting 17 = .ok (.aload_n 0, 1) := by decide +kernel
theorem dX3_meeting_18 : decode cX3_meeting 18 = .ok (.getfield 23, 3) := by decide +kernel
theorem dX3_meeting_21 : decode cX3_meeting 21 = .ok (.iload 4, 2) := by decide +kernel
theorem dX3_meeting_23 : decode cX3_meeting 23 = .ok (.iaload, 1) := by decide +kernel
theorem dX3_meeting_24 : decode cX3_meeting 24 = .ok (.if_icmp .lt 13, 3) := by decide +kernel
theorem dX3_meeting_27 : decode cX3_meeting 27 = .ok (.aload_n 0, 1) := by decide +kernel
theorem dX3_meeting_28 : decode cX3_meeting 28 = .ok (.getfield 13, 3) := by decide +kernel
theorem dX3_meeting_31 : decode cX3_meeting 31 = .ok (.iload_n 3, 1) := by decide +kernel
theorem dX3_meeting_32 : decode cX3_meeting 32 = .ok (.iaload, 1) := by decide +kernel
theorem dX3_meeting_33 : decode cX3_meeting 33 = .ok (.istore_n 3, 1) := by decide +kernel
theorem dX3_meeting_34 : decode cX3_meeting 34 = .ok (.goto (-29), 3) := by decide +kernel
theorem dX3_meeting_37 : decode cX3_meeting 37 = .ok (.aload_n 0, 1) := by decide +kernel
theorem dX3_meeting_38 : decode cX3_meeting 38 = .ok (.getfield 13, 3) := by decide +kernel
theorem dX3_meeting_41 : decode cX3_meeting 41 = .ok (.iload 4, 2) := by decide +kernel
theorem dX3_meeting_43 : decode cX3_meeting 43 = .ok (.iaload, 1) := by decide +kernel
theorem dX3_meeting_44 : decode cX3_meeting 44 = .ok (.istore 4, 2) := by decide +kernel
theorem dX3_meeting_46 : decode cX3_meeting 46 = .ok (.goto (-41), 3) := by decide +kernel
theorem dX3_meeting_49 : decode cX3_meeting 49 = .ok (.iload_n 3, 1) := by decide +kernel
theorem dX3_meeting_50 : decode cX3_meeting 50 = .ok (.ireturn, 1) := by decide +kernel
theorem dX3_way_0 : decode cX3_way 0 = .ok (.aload_n 0, 1) := by decide +kernel
theorem dX3_way_1 : decode cX3_way 1 = .ok (.getfield 23, 3) := by decide +kernel
theorem dX3_way_4 : decode cX3_way 4 = .ok (.iload_n 1, 1) := by decide +kernel
theorem dX3_way_5 : decode cX3_way 5 = .ok (.iaload, 1) := by decide +kernel
theorem dX3_way_6 : decode cX3_way 6 = .ok (.aload_n 0, 1) := by decide +kernel
theorem dX3_way_7 : decode cX3_way 7 = .ok (.getfield 23, 3) := by decide +kernel
theorem dX3_way_10 : decode cX3_way 10 = .ok (.iload_n 2, 1) := by decide +kernel
theorem dX3_way_11 : decode cX3_way 11 = .ok (.iaload, 1) := by decide +kernel
theorem dX3_way_12 : decode cX3_way 12 = .ok (.iadd, 1) := by decide +kernel
theorem dX3_way_13 : decode cX3_way 13 = .ok (.iconst 2, 1) := by decide +kernel
theorem dX3_way_14 : decode cX3_way 14 = .ok (.aload_n 0, 1) := by decide +kernel
theorem dX3_way_15 : decode cX3_way 15 = .ok (.getfield 23, 3) := by decide +kernel
theorem dX3_way_18 : decode cX3_way 18 = .ok (.aload_n 0, 1) := by decide +kernel
theorem dX3_way_19 : decode cX3_way 19 = .ok (.iload_n 1, 1) := by decide +kernel
theorem dX3_way_20 : decode cX3_way 20 = .ok (.iload_n 2, 1) := by decide +kernel
theorem dX3_way_21 : decode cX3_way 21 = .ok (.invokevirtual 110, 3) := by decide +kernel
theorem dX3_way_24 : decode cX3_way 24 = .ok (.iaload, 1) := by decide +kernel
theorem dX3_way_25 : decode cX3_way 25 = .ok (.imul, 1) := by decide +kernel
theorem dX3_way_26 : decode cX3_way 26 = .ok (.isub, 1) := by decide +kernel
theorem dX3_way_27 : decode cX3_way 27 = .ok (.ireturn, 1) := by decide +kernel
theorem dX3_goTo_0 : decode cX3_goTo 0 = .ok (.aload_n 0, 1) := by decide +kernel
theorem dX3_goTo_1 : decode cX3_goTo 1 = .ok (.iconst 0, 1) := by decide +kernel
theorem dX3_goTo_2 : decode cX3_goTo 2 = .ok (.putfield 35, 3) := by decide +kernel
theorem dX3_goTo_5 : decode cX3_goTo 5 = .ok (.aload_n 0, 1) := by decide +kernel
theorem dX3_goTo_6 : decode cX3_goTo 6 = .ok (.iload_n 1, 1) := by decide +kernel
theorem dX3_goTo_7 : decode cX3_goTo 7 = .ok (.invokevirtual 113, 3) := by decide +kernel
theorem dX3_goTo_10 : decode cX3_goTo 10 = .ok (.ifCond .ne 9, 3) := by decide +kernel
theorem dX3_goTo_13 : decode cX3_goTo 13 = .ok (.aload_n 0, 1) := by decide +kernel
theorem dX3_goTo_14 : decode cX3_goTo 14 = .ok (.iconst 1, 1) := by decide +kernel
theorem dX3_goTo_15 : decode cX3_goTo 15 = .ok (.invokevirtual 101, 3) := by decide +kernel
theorem dX3_goTo_18 : decode cX3_goTo 18 = .ok (.ireturn, 1) := by decide +kernel
theorem dX3_goTo_19 : decode cX3_goTo 19 = .ok (.aload_n 0, 1) := by decide +kernel
theorem dX3_goTo_20 : decode cX3_goTo 20 = .ok (.aload_n 0, 1) := by decide +kernel
theorem dX3_goTo_21 : decode cX3_goTo 21 = .ok (.getfield 45, 3) := by decide +kernel
theorem dX3_goTo_24 : decode cX3_goTo 24 = .ok (.iload_n 1, 1) := by decide +kernel
theorem dX3_goTo_25 : decode cX3_goTo 25 = .ok (.invokevirtual 116, 3) := by decide +kernel
theorem dX3_goTo_28 : decode cX3_goTo 28 = .ok (.istore_n 2, 1) := by decide +kernel
theorem dX3_goTo_29 : decode cX3_goTo 29 = .ok (.aload_n 0, 1) := by decide +kernel
theorem dX3_goTo_30 : decode cX3_goTo 30 = .ok (.aload_n 0, 1) := by decide +kernel
theorem dX3_goTo_31 : decode cX3_goTo 31 = .ok (.getfield 45, 3) := by decide +kernel
theorem dX3_goTo_34 : decode cX3_goTo 34 = .ok (.iload_n 1, 1) := by decide +kernel
theorem dX3_goTo_35 : decode cX3_goTo 35 = .ok (.invokevirtual 110, 3) := by decide +kernel
theorem dX3_goTo_38 : decode cX3_goTo 38 = .ok (.istore_n 3, 1) := by decide +kernel
theorem dX3_goTo_39 : decode cX3_goTo 39 = .ok (.iload_n 1, 1) := by decide +kernel
theorem dX3_goTo_40 : decode cX3_goTo 40 = .ok (.istore 4, 2) := by decide +kernel
theorem dX3_goTo_42 : decode cX3_goTo 42 = .ok (.iload 4, 2) := by decide +kernel
theorem dX3_goTo_44 : decode cX3_goTo 44 = .ok (.iload_n 3, 1) := by decide +kernel
theorem dX3_goTo_45 : decode cX3_goTo 45 = .ok (.if_icmp .eq 29, 3) := by decide +kernel
theorem dX3_goTo_48 : decode cX3_goTo 48 = .ok (.aload_n 0, 1) := by decide +kernel
theorem dX3_goTo_49 : decode cX3_goTo 49 = .ok (.getfield 26, 3) := by decide +kernel
theorem dX3_goTo_52 : decode cX3_goTo 52 = .ok (.aload_n 0, 1) := by decide +kernel
theorem dX3_goTo_53 : decode cX3_goTo 53 = .ok (.getfield 13, 3) := by decide +kernel
theorem dX3_goTo_56 : decode cX3_goTo 56 = .ok (.iload 4, 2) := by decide +kernel
theorem dX3_goTo_58 : decode cX3_goTo 58 = .ok (.iaload, 1) := by decide +kernel
theorem dX3_goTo_59 : decode cX3_goTo 59 = .ok (.iload 4, 2) := by decide +kernel
theorem dX3_goTo_61 : decode cX3_goTo 61 = .ok (.iastore, 1) := by decide +kernel
theorem dX3_goTo_62 : decode cX3_goTo 62 = .ok (.aload_n 0, 1) := by decide +kernel
theorem dX3_goTo_63 : decode cX3_goTo 63 = .ok (.getfield 13, 3) := by decide +kernel
theorem dX3_goTo_66 : decode cX3_goTo 66 = .ok (.iload 4, 2) := by decide +kernel
theorem dX3_goTo_68 : decode cX3_goTo 68 = .ok (.iaload, 1) := by decide +kernel
theorem dX3_goTo_69 : decode cX3_goTo 69 = .ok (.istore 4, 2) := by decide +kernel
theorem dX3_goTo_71 : decode cX3_goTo 71 = .ok (.goto (-29), 3) := by decide +kernel
theorem dX3_goTo_74 : decode cX3_goTo 74 = .ok (.aload_n 0, 1) := by decide +kernel
theorem dX3_goTo_75 : decode cX3_goTo 75 = .ok (.iload_n 1, 1) := by decide +kernel
theorem dX3_goTo_76 : decode cX3_goTo 76 = .ok (.putfield 45, 3) := by decide +kernel
theorem dX3_goTo_79 : decode cX3_goTo 79 = .ok (.iload_n 2, 1) := by decide +kernel
theorem dX3_goTo_80 : decode cX3_goTo 80 = .ok (.ireturn, 1) := by decide +kernel
theorem dX3_evening_0 : decode cX3_evening 0 = .ok (.aload_n 0, 1) := by decide +kernel
theorem dX3_evening_1 : decode cX3_evening 1 = .ok (.aload_n 0, 1) := by decide +kernel
theorem dX3_evening_2 : decode cX3_evening 2 = .ok (.getfield 45, 3) := by decide +kernel
theorem dX3_evening_5 : decode cX3_evening 5 = .ok (.invokevirtual 119, 3) := by decide +kernel
theorem dX3_evening_8 : decode cX3_evening 8 = .ok (.ireturn, 1) := by decide +kernel
theorem dX3_evenings_0 : decode cX3_evenings 0 = .ok (.aload_n 0, 1) := by decide +kernel
theorem dX3_evenings_1 : decode cX3_evenings 1 = .ok (.aload_n 0, 1) := by decide +kernel
theorem dX3_evenings_2 : decode cX3_evenings 2 = .ok (.getfield 9, 3) := by decide +kernel
theorem dX3_evenings_5 : decode cX3_evenings 5 = .ok (.invokevirtual 119, 3) := by decide +kernel
theorem dX3_evenings_8 : decode cX3_evenings 8 = .ok (.ireturn, 1) := by decide +kernel
theorem dX3_pieces_0 : decode cX3_pieces 0 = .ok (.aload_n 0, 1) := by decide +kernel
theorem dX3_pieces_1 : decode cX3_pieces 1 = .ok (.aload_n 0, 1) := by decide +kernel
theorem dX3_pieces_2 : decode cX3_pieces 2 = .ok (.getfield 42, 3) := by decide +kernel
theorem dX3_pieces_5 : decode cX3_pieces 5 = .ok (.invokevirtual 119, 3) := by decide +kernel
theorem dX3_pieces_8 : decode cX3_pieces 8 = .ok (.ireturn, 1) := by decide +kernel
theorem dX3_catColumn_0 : decode cX3_catColumn 0 = .ok (.aload_n 0, 1) := by decide +kernel
theorem dX3_catColumn_1 : decode cX3_catColumn 1 = .ok (.aload_n 0, 1) := by decide +kernel
theorem dX3_catColumn_2 : decode cX3_catColumn 2 = .ok (.invokevirtual 68, 3) := by decide +kernel
theorem dX3_catColumn_5 : decode cX3_catColumn 5 = .ok (.bipush 8, 2) := by decide +kernel
theorem dX3_catColumn_7 : decode cX3_catColumn 7 = .ok (.idiv, 1) := by decide +kernel
theorem dX3_catColumn_8 : decode cX3_catColumn 8 = .ok (.invokevirtual 119, 3) := by decide +kernel
theorem dX3_catColumn_11 : decode cX3_catColumn 11 = .ok (.ireturn, 1) := by decide +kernel
theorem dX3_catRow_0 : decode cX3_catRow 0 = .ok (.aload_n 0, 1) := by decide +kernel
theorem dX3_catRow_1 : decode cX3_catRow 1 = .ok (.aload_n 0, 1) := by decide +kernel
theorem dX3_catRow_2 : decode cX3_catRow 2 = .ok (.invokevirtual 68, 3) := by decide +kernel
theorem dX3_catRow_5 : decode cX3_catRow 5 = .ok (.bipush 8, 2) := by decide +kernel
theorem dX3_catRow_7 : decode cX3_catRow 7 = .ok (.irem, 1) := by decide +kernel
theorem dX3_catRow_8 : decode cX3_catRow 8 = .ok (.invokevirtual 119, 3) := by decide +kernel
theorem dX3_catRow_11 : decode cX3_catRow 11 = .ok (.ireturn, 1) := by decide +kernel
theorem dX3_lying_0 : decode cX3_lying 0 = .ok (.aload_n 0, 1) := by decide +kernel
theorem dX3_lying_1 : decode cX3_lying 1 = .ok (.aload_n 0, 1) := by decide +kernel
theorem dX3_lying_2 : decode cX3_lying 2 = .ok (.aload_n 0, 1) := by decide +kernel
theorem dX3_lying_3 : decode cX3_lying 3 = .ok (.getfield 45, 3) := by decide +kernel
theorem dX3_lying_6 : decode cX3_lying 6 = .ok (.aload_n 0, 1) := by decide +kernel
theorem dX3_lying_7 : decode cX3_lying 7 = .ok (.getfield 42, 3) := by decide +kernel
theorem dX3_lying_10 : decode cX3_lying 10 = .ok (.invokevirtual 122, 3) := by decide +kernel
theorem dX3_lying_13 : decode cX3_lying 13 = .ok (.invokevirtual 119, 3) := by decide +kernel
theorem dX3_lying_16 : decode cX3_lying 16 = .ok (.ireturn, 1) := by decide +kernel
theorem dX3_placeOf_0 : decode cX3_placeOf 0 = .ok (.aload_n 0, 1) := by decide +kernel
theorem dX3_placeOf_1 : decode cX3_placeOf 1 = .ok (.iconst 0, 1) := by decide +kernel
theorem dX3_placeOf_2 : decode cX3_placeOf 2 = .ok (.putfield 35, 3) := by decide +kernel
theorem dX3_placeOf_5 : decode cX3_placeOf 5 = .ok (.aload_n 0, 1) := by decide +kernel
theorem dX3_placeOf_6 : decode cX3_placeOf 6 = .ok (.iload_n 1, 1) := by decide +kernel
theorem dX3_placeOf_7 : decode cX3_placeOf 7 = .ok (.invokevirtual 75, 3) := by decide +kernel
theorem dX3_placeOf_10 : decode cX3_placeOf 10 = .ok (.ifCond .eq 18, 3) := by decide +kernel
theorem dX3_placeOf_13 : decode cX3_placeOf 13 = .ok (.aload_n 0, 1) := by decide +kernel
theorem dX3_placeOf_14 : decode cX3_placeOf 14 = .ok (.aload_n 0, 1) := by decide +kernel
theorem dX3_placeOf_15 : decode cX3_placeOf 15 = .ok (.getfield 45, 3) := by decide +kernel
theorem dX3_placeOf_18 : decode cX3_placeOf 18 = .ok (.iload_n 1, 1) := by decide +kernel
theorem dX3_placeOf_19 : decode cX3_placeOf 19 = .ok (.invokevirtual 52, 3) := by decide +kernel
theorem dX3_placeOf_22 : decode cX3_placeOf 22 = .ok (.bipush 100, 2) := by decide +kernel
theorem dX3_placeOf_24 : decode cX3_placeOf 24 = .ok (.irem, 1) := by decide +kernel
theorem dX3_placeOf_25 : decode cX3_placeOf 25 = .ok (.goto 8, 3) := by decide +kernel
theorem dX3_placeOf_28 : decode cX3_placeOf 28 = .ok (.aload_n 0, 1) := by decide +kernel
theorem dX3_placeOf_29 : decode cX3_placeOf 29 = .ok (.iconst 1, 1) := by decide +kernel
theorem dX3_placeOf_30 : decode cX3_placeOf 30 = .ok (.invokevirtual 101, 3) := by decide +kernel
theorem dX3_placeOf_33 : decode cX3_placeOf 33 = .ok (.ireturn, 1) := by decide +kernel
theorem dX3_lies_0 : decode cX3_lies 0 = .ok (.aload_n 0, 1) := by decide +kernel
theorem dX3_lies_1 : decode cX3_lies 1 = .ok (.iconst 0, 1) := by decide +kernel
theorem dX3_lies_2 : decode cX3_lies 2 = .ok (.putfield 35, 3) := by decide +kernel
theorem dX3_lies_5 : decode cX3_lies 5 = .ok (.aload_n 0, 1) := by decide +kernel
theorem dX3_lies_6 : decode cX3_lies 6 = .ok (.iload_n 1, 1) := by decide +kernel
theorem dX3_lies_7 : decode cX3_lies 7 = .ok (.invokevirtual 75, 3) := by decide +kernel
theorem dX3_lies_10 : decode cX3_lies 10 = .ok (.ifCond .eq 25, 3) := by decide +kernel
theorem dX3_lies_13 : decode cX3_lies 13 = .ok (.aload_n 0, 1) := by decide +kernel
theorem dX3_lies_14 : decode cX3_lies 14 = .ok (.aload_n 0, 1) := by decide +kernel
theorem dX3_lies_15 : decode cX3_lies 15 = .ok (.getfield 45, 3) := by decide +kernel
theorem dX3_lies_18 : decode cX3_lies 18 = .ok (.iload_n 1, 1) := by decide +kernel
theorem dX3_lies_19 : decode cX3_lies 19 = .ok (.invokevirtual 52, 3) := by decide +kernel
theorem dX3_lies_22 : decode cX3_lies 22 = .ok (.bipush 100, 2) := by decide +kernel
theorem dX3_lies_24 : decode cX3_lies 24 = .ok (.if_icmp .lt 7, 3) := by decide +kernel
theorem dX3_lies_27 : decode cX3_lies 27 = .ok (.iconst 1, 1) := by decide +kernel
theorem dX3_lies_28 : decode cX3_lies 28 = .ok (.goto 12, 3) := by decide +kernel
theorem dX3_lies_31 : decode cX3_lies 31 = .ok (.iconst 0, 1) := by decide +kernel
theorem dX3_lies_32 : decode cX3_lies 32 = .ok (.goto 8, 3) := by decide +kernel
theorem dX3_lies_35 : decode cX3_lies 35 = .ok (.aload_n 0, 1) := by decide +kernel
theorem dX3_lies_36 : decode cX3_lies 36 = .ok (.iconst 1, 1) := by decide +kernel
theorem dX3_lies_37 : decode cX3_lies 37 = .ok (.invokevirtual 125, 3) := by decide +kernel
theorem dX3_lies_40 : decode cX3_lies 40 = .ok (.ireturn, 1) := by decide +kernel
theorem dX3_pieceAt_0 : decode cX3_pieceAt 0 = .ok (.aload_n 0, 1) := by decide +kernel
theorem dX3_pieceAt_1 : decode cX3_pieceAt 1 = .ok (.iconst 0, 1) := by decide +kernel
theorem dX3_pieceAt_2 : decode cX3_pieceAt 2 = .ok (.putfield 35, 3) := by decide +kernel
theorem dX3_pieceAt_5 : decode cX3_pieceAt 5 = .ok (.iload_n 1, 1) := by decide +kernel
theorem dX3_pieceAt_6 : decode cX3_pieceAt 6 = .ok (.invokestatic 58, 3) := by decide +kernel
theorem dX3_pieceAt_9 : decode cX3_pieceAt 9 = .ok (.ifCond .eq 23, 3) := by decide +kernel
theorem dX3_pieceAt_12 : decode cX3_pieceAt 12 = .ok (.iload_n 2, 1) := by decide +kernel
theorem dX3_pieceAt_13 : decode cX3_pieceAt 13 = .ok (.invokestatic 58, 3) := by decide +kernel
theorem dX3_pieceAt_16 : decode cX3_pieceAt 16 = .ok (.ifCond .eq 16, 3) := by decide +kernel
theorem dX3_pieceAt_19 : decode cX3_pieceAt 19 = .ok (.aload_n 0, 1) := by decide +kernel
theorem dX3_pieceAt_20 : decode cX3_pieceAt 20 = .ok (.bipush 8, 2) := by decide +kernel
theorem dX3_pieceAt_22 : decode cX3_pieceAt 22 = .ok (.iload_n 1, 1) := by decide +kernel
theorem dX3_pieceAt_23 : decode cX3_pieceAt 23 = .ok (.imul, 1) := by decide +kernel
theorem dX3_pieceAt_24 : decode cX3_pieceAt 24 = .ok (.iload_n 2, 1) := by decide +kernel
theorem dX3_pieceAt_25 : decode cX3_pieceAt 25 = .ok (.iadd, 1) := by decide +kernel
theorem dX3_pieceAt_26 : decode cX3_pieceAt 26 = .ok (.invokevirtual 82, 3) := by decide +kernel
theorem dX3_pieceAt_29 : decode cX3_pieceAt 29 = .ok (.goto 8, 3) := by decide +kernel
theorem dX3_pieceAt_32 : decode cX3_pieceAt 32 = .ok (.aload_n 0, 1) := by decide +kernel
theorem dX3_pieceAt_33 : decode cX3_pieceAt 33 = .ok (.iconst 1, 1) := by decide +kernel
theorem dX3_pieceAt_34 : decode cX3_pieceAt 34 = .ok (.invokevirtual 101, 3) := by decide +kernel
theorem dX3_pieceAt_37 : decode cX3_pieceAt 37 = .ok (.ireturn, 1) := by decide +kernel
theorem dX3_canDo_0 : decode cX3_canDo 0 = .ok (.aload_n 0, 1) := by decide +kernel
theorem dX3_canDo_1 : decode cX3_canDo 1 = .ok (.iconst 0, 1) := by decide +kernel
theorem dX3_canDo_2 : decode cX3_canDo 2 = .ok (.putfield 35, 3) := by decide +kernel
theorem dX3_canDo_5 : decode cX3_canDo 5 = .ok (.iload_n 1, 1) := by decide +kernel
theorem dX3_canDo_6 : decode cX3_canDo 6 = .ok (.iload_n 2, 1) := by decide +kernel
theorem dX3_canDo_7 : decode cX3_canDo 7 = .ok (.invokestatic 104, 3) := by decide +kernel
theorem dX3_canDo_10 : decode cX3_canDo 10 = .ok (.ifCond .eq 12, 3) := by decide +kernel
theorem dX3_canDo_13 : decode cX3_canDo 13 = .ok (.aload_n 0, 1) := by decide +kernel
theorem dX3_canDo_14 : decode cX3_canDo 14 = .ok (.iload_n 1, 1) := by decide +kernel
theorem dX3_canDo_15 : decode cX3_canDo 15 = .ok (.iload_n 2, 1) := by decide +kernel
theorem dX3_canDo_16 : decode cX3_canDo 16 = .ok (.invokevirtual 107, 3) := by decide +kernel
theorem dX3_canDo_19 : decode cX3_canDo 19 = .ok (.goto 8, 3) := by decide +kernel
theorem dX3_canDo_22 : decode cX3_canDo 22 = .ok (.aload_n 0, 1) := by decide +kernel
theorem dX3_canDo_23 : decode cX3_canDo 23 = .ok (.iconst 1, 1) := by decide +kernel
theorem dX3_canDo_24 : decode cX3_canDo 24 = .ok (.invokevirtual 125, 3) := by decide +kernel
theorem dX3_canDo_27 : decode cX3_canDo 27 = .ok (.ireturn, 1) := by decide +kernel
theorem dX3_of_0 : decode cX3_of 0 = .ok (.aload_n 0, 1) := by decide +kernel
theorem dX3_of_1 : decode cX3_of 1 = .ok (.iconst 0, 1) := by decide +kernel
theorem dX3_of_2 : decode cX3_of 2 = .ok (.putfield 35, 3) := by decide +kernel
theorem dX3_of_5 : decode cX3_of 5 = .ok (.aload_n 0, 1) := by decide +kernel
theorem dX3_of_6 : decode cX3_of 6 = .ok (.iload_n 2, 1) := by decide +kernel
theorem dX3_of_7 : decode cX3_of 7 = .ok (.invokevirtual 113, 3) := by decide +kernel
theorem dX3_of_10 : decode cX3_of 10 = .ok (.ifCond .eq 9, 3) := by decide +kernel
theorem dX3_of_13 : decode cX3_of 13 = .ok (.aload_n 1, 1) := by decide +kernel
theorem dX3_of_14 : decode cX3_of 14 = .ok (.iload_n 2, 1) := by decide +kernel
theorem dX3_of_15 : decode cX3_of 15 = .ok (.iaload, 1) := by decide +kernel
theorem dX3_of_16 : decode cX3_of 16 = .ok (.goto 8, 3) := by decide +kernel
theorem dX3_of_19 : decode cX3_of 19 = .ok (.aload_n 0, 1) := by decide +kernel
theorem dX3_of_20 : decode cX3_of 20 = .ok (.iconst 1, 1) := by decide +kernel
theorem dX3_of_21 : decode cX3_of 21 = .ok (.invokevirtual 101, 3) := by decide +kernel
theorem dX3_of_24 : decode cX3_of 24 = .ok (.ireturn, 1) := by decide +kernel
theorem dX3_hangsOn_0 : decode cX3_hangsOn 0 = .ok (.aload_n 0, 1) := by decide +kernel
theorem dX3_hangsOn_1 : decode cX3_hangsOn 1 = .ok (.aload_n 0, 1) := by decide +kernel
theorem dX3_hangsOn_2 : decode cX3_hangsOn 2 = .ok (.getfield 13, 3) := by decide +kernel
theorem dX3_hangsOn_5 : decode cX3_hangsOn 5 = .ok (.iload_n 1, 1) := by decide +kernel
theorem dX3_hangsOn_6 : decode cX3_hangsOn 6 = .ok (.invokevirtual 128, 3) := by decide +kernel
theorem dX3_hangsOn_9 : decode cX3_hangsOn 9 = .ok (.ireturn, 1) := by decide +kernel
theorem dX3_kindOf_0 : decode cX3_kindOf 0 = .ok (.aload_n 0, 1) := by decide +kernel
theorem dX3_kindOf_1 : decode cX3_kindOf 1 = .ok (.aload_n 0, 1) := by decide +kernel
theorem dX3_kindOf_2 : decode cX3_kindOf 2 = .ok (.getfield 17, 3) := by decide +kernel
theorem dX3_kindOf_5 : decode cX3_kindOf 5 = .ok (.iload_n 1, 1) := by decide +kernel
theorem dX3_kindOf_6 : decode cX3_kindOf 6 = .ok (.invokevirtual 128, 3) := by decide +kernel
theorem dX3_kindOf_9 : decode cX3_kindOf 9 = .ok (.ireturn, 1) := by decide +kernel
theorem dX3_numberOf_0 : decode cX3_numberOf 0 = .ok (.aload_n 0, 1) := by decide +kernel
theorem dX3_numberOf_1 : decode cX3_numberOf 1 = .ok (.aload_n 0, 1) := by decide +kernel
theorem dX3_numberOf_2 : decode cX3_numberOf 2 = .ok (.getfield 20, 3) := by decide +kernel
theorem dX3_numberOf_5 : decode cX3_numberOf 5 = .ok (.iload_n 1, 1) := by decide +kernel
theorem dX3_numberOf_6 : decode cX3_numberOf 6 = .ok (.invokevirtual 128, 3) := by decide +kernel
theorem dX3_numberOf_9 : decode cX3_numberOf 9 = .ok (.ireturn, 1) := by decide +kernel
theorem dX3_depthOf_0 : decode cX3_depthOf 0 = .ok (.aload_n 0, 1) := by decide +kernel
theorem dX3_depthOf_1 : decode cX3_depthOf 1 = .ok (.aload_n 0, 1) := by decide +kernel
theorem dX3_depthOf_2 : decode cX3_depthOf 2 = .ok (.getfield 23, 3) := by decide +kernel
theorem dX3_depthOf_5 : decode cX3_depthOf 5 = .ok (.iload_n 1, 1) := by decide +kernel
theorem dX3_depthOf_6 : decode cX3_depthOf 6 = .ok (.invokevirtual 128, 3) := by decide +kernel
theorem dX3_depthOf_9 : decode cX3_depthOf 9 = .ok (.ireturn, 1) := by decide +kernel
theorem dX3_again_0 : decode cX3_again 0 = .ok (.aload_n 0, 1) := by decide +kernel
theorem dX3_again_1 : decode cX3_again 1 = .ok (.aload_n 0, 1) := by decide +kernel
theorem dX3_again_2 : decode cX3_again 2 = .ok (.getfield 26, 3) := by decide +kernel
theorem dX3_again_5 : decode cX3_again 5 = .ok (.iload_n 1, 1) := by decide +kernel
theorem dX3_again_6 : decode cX3_again 6 = .ok (.invokevirtual 128, 3) := by decide +kernel
theorem dX3_again_9 : decode cX3_again 9 = .ok (.ireturn, 1) := by decide +kernel
theorem dX3_below_0 : decode cX3_below 0 = .ok (.iconst 0, 1) := by decide +kernel
theorem dX3_below_1 : decode cX3_below 1 = .ok (.istore_n 2, 1) := by decide +kernel
theorem dX3_below_2 : decode cX3_below 2 = .ok (.iconst 1, 1) := by decide +kernel
theorem dX3_below_3 : decode cX3_below 3 = .ok (.istore_n 3, 1) := by decide +kernel
theorem dX3_below_4 : decode cX3_below 4 = .ok (.iload_n 3, 1) := by decide +kernel
theorem dX3_below_5 : decode cX3_below 5 = .ok (.aload_n 0, 1) := by decide +kernel
theorem dX3_below_6 : decode cX3_below 6 = .ok (.getfield 9, 3) := by decide +kernel
theorem dX3_below_9 : decode cX3_below 9 = .ok (.if_icmp .ge 27, 3) := by decide +kernel
theorem dX3_below_12 : decode cX3_below 12 = .ok (.iload_n 2, 1) := by decide +kernel
theorem dX3_below_13 : decode cX3_below 13 = .ok (.aload_n 0, 1) := by decide +kernel
theorem dX3_below_14 : decode cX3_below 14 = .ok (.getfield 13, 3) := by decide +kernel
theorem dX3_below_17 : decode cX3_below 17 = .ok (.iload_n 3, 1) := by decide +kernel
theorem dX3_below_18 : decode cX3_below 18 = .ok (.iaload, 1) := by decide +kernel
theorem dX3_below_19 : decode cX3_below 19 = .ok (.iload_n 1, 1) := by decide +kernel
theorem dX3_below_20 : decode cX3_below 20 = .ok (.if_icmp .ne 7, 3) := by decide +kernel
theorem dX3_below_23 : decode cX3_below 23 = .ok (.iconst 1, 1) := by decide +kernel
theorem dX3_below_24 : decode cX3_below 24 = .ok (.goto 4, 3) := by decide +kernel
theorem dX3_below_27 : decode cX3_below 27 = .ok (.iconst 0, 1) := by decide +kernel
theorem dX3_below_28 : decode cX3_below 28 = .ok (.iadd, 1) := by decide +kernel
theorem dX3_below_29 : decode cX3_below 29 = .ok (.istore_n 2, 1) := by decide +kernel
theorem dX3_below_30 : decode cX3_below 30 = .ok (.iinc 3 1, 3) := by decide +kernel
theorem dX3_below_33 : decode cX3_below 33 = .ok (.goto (-29), 3) := by decide +kernel
theorem dX3_below_36 : decode cX3_below 36 = .ok (.iload_n 2, 1) := by decide +kernel
theorem dX3_below_37 : decode cX3_below 37 = .ok (.ireturn, 1) := by decide +kernel
theorem dX3_branches_0 : decode cX3_branches 0 = .ok (.aload_n 0, 1) := by decide +kernel
theorem dX3_branches_1 : decode cX3_branches 1 = .ok (.iconst 0, 1) := by decide +kernel
theorem dX3_branches_2 : decode cX3_branches 2 = .ok (.putfield 35, 3) := by decide +kernel
theorem dX3_branches_5 : decode cX3_branches 5 = .ok (.aload_n 0, 1) := by decide +kernel
theorem dX3_branches_6 : decode cX3_branches 6 = .ok (.iload_n 1, 1) := by decide +kernel
theorem dX3_branches_7 : decode cX3_branches 7 = .ok (.invokevirtual 113, 3) := by decide +kernel
theorem dX3_branches_10 : decode cX3_branches 10 = .ok (.ifCond .eq 11, 3) := by decide +kernel
theorem dX3_branches_13 : decode cX3_branches 13 = .ok (.aload_n 0, 1) := by decide +kernel
theorem dX3_branches_14 : decode cX3_branches 14 = .ok (.iload_n 1, 1) := by decide +kernel
theorem dX3_branches_15 : decode cX3_branches 15 = .ok (.invokevirtual 132, 3) := by decide +kernel
theorem dX3_branches_18 : decode cX3_branches 18 = .ok (.goto 8, 3) := by decide +kernel
theorem dX3_branches_21 : decode cX3_branches 21 = .ok (.aload_n 0, 1) := by decide +kernel
theorem dX3_branches_22 : decode cX3_branches 22 = .ok (.iconst 1, 1) := by decide +kernel
theorem dX3_branches_23 : decode cX3_branches 23 = .ok (.invokevirtual 101, 3) := by decide +kernel
theorem dX3_branches_26 : decode cX3_branches 26 = .ok (.ireturn, 1) := by decide +kernel
theorem dX3_allBelow_0 : decode cX3_allBelow 0 = .ok (.iconst 0, 1) := by decide +kernel
theorem dX3_allBelow_1 : decode cX3_allBelow 1 = .ok (.istore_n 2, 1) := by decide +kernel
theorem dX3_allBelow_2 : decode cX3_allBelow 2 = .ok (.iload_n 1, 1) := by decide +kernel
theorem dX3_allBelow_3 : decode cX3_allBelow 3 = .ok (.iconst 1, 1) := by decide +kernel
theorem dX3_allBelow_4 : decode cX3_allBelow 4 = .ok (.iadd, 1) := by decide +kernel
theorem dX3_allBelow_5 : decode cX3_allBelow 5 = .ok (.istore_n 3, 1) := by decide +kernel
theorem dX3_allBelow_6 : decode cX3_allBelow 6 = .ok (.iload_n 3, 1) := by decide +kernel
theorem dX3_allBelow_7 : decode cX3_allBelow 7 = .ok (.aload_n 0, 1) := by decide +kernel
theorem dX3_allBelow_8 : decode cX3_allBelow 8 = .ok (.getfield 9, 3) := by decide +kernel
theorem dX3_allBelow_11 : decode cX3_allBelow 11 = .ok (.if_icmp .ge 27, 3) := by decide +kernel
theorem dX3_allBelow_14 : decode cX3_allBelow 14 = .ok (.iload_n 2, 1) := by decide +kernel
theorem dX3_allBelow_15 : decode cX3_allBelow 15 = .ok (.aload_n 0, 1) := by decide +kernel
theorem dX3_allBelow_16 : decode cX3_allBelow 16 = .ok (.iload_n 3, 1) := by decide +kernel
theorem dX3_allBelow_17 : decode cX3_allBelow 17 = .ok (.iload_n 1, 1) := by decide +kernel
theorem dX3_allBelow_18 : decode cX3_allBelow 18 = .ok (.invokevirtual 110, 3) := by decide +kernel
theorem dX3_allBelow_21 : decode cX3_allBelow 21 = .ok (.iload_n 1, 1) := by decide +kernel
theorem dX3_allBelow_22 : decode cX3_allBelow 22 = .ok (.if_icmp .ne 7, 3) := by decide +kernel
theorem dX3_allBelow_25 : decode cX3_allBelow 25 = .ok (.iconst 1, 1) := by decide +kernel
theorem dX3_allBelow_26 : decode cX3_allBelow 26 = .ok (.goto 4, 3) := by decide +kernel
theorem dX3_allBelow_29 : decode cX3_allBelow 29 = .ok (.iconst 0, 1) := by decide +kernel
theorem dX3_allBelow_30 : decode cX3_allBelow 30 = .ok (.iadd, 1) := by decide +kernel
theorem dX3_allBelow_31 : decode cX3_allBelow 31 = .ok (.istore_n 2, 1) := by decide +kernel
theorem dX3_allBelow_32 : decode cX3_allBelow 32 = .ok (.iinc 3 1, 3) := by decide +kernel
theorem dX3_allBelow_35 : decode cX3_allBelow 35 = .ok (.goto (-29), 3) := by decide +kernel
theorem dX3_allBelow_38 : decode cX3_allBelow 38 = .ok (.iload_n 2, 1) := by decide +kernel
theorem dX3_allBelow_39 : decode cX3_allBelow 39 = .ok (.ireturn, 1) := by decide +kernel
theorem dX3_behind_0 : decode cX3_behind 0 = .ok (.aload_n 0, 1) := by decide +kernel
theorem dX3_behind_1 : decode cX3_behind 1 = .ok (.iconst 0, 1) := by decide +kernel
theorem dX3_behind_2 : decode cX3_behind 2 = .ok (.putfield 35, 3) := by decide +kernel
theorem dX3_behind_5 : decode cX3_behind 5 = .ok (.aload_n 0, 1) := by decide +kernel
theorem dX3_behind_6 : decode cX3_behind 6 = .ok (.iload_n 1, 1) := by decide +kernel
theorem dX3_behind_7 : decode cX3_behind 7 = .ok (.invokevirtual 113, 3) := by decide +kernel
theorem dX3_behind_10 : decode cX3_behind 10 = .ok (.ifCond .eq 11, 3) := by decide +kernel
theorem dX3_behind_13 : decode cX3_behind 13 = .ok (.aload_n 0, 1) := by decide +kernel
theorem dX3_behind_14 : decode cX3_behind 14 = .ok (.iload_n 1, 1) := by decide +kernel
theorem dX3_behind_15 : decode cX3_behind 15 = .ok (.invokevirtual 135, 3) := by decide +kernel
theorem dX3_behind_18 : decode cX3_behind 18 = .ok (.goto 8, 3) := by decide +kernel
theorem dX3_behind_21 : decode cX3_behind 21 = .ok (.aload_n 0, 1) := by decide +kernel
theorem dX3_behind_22 : decode cX3_behind 22 = .ok (.iconst 1, 1) := by decide +kernel
theorem dX3_behind_23 : decode cX3_behind 23 = .ok (.invokevirtual 101, 3) := by decide +kernel
theorem dX3_behind_26 : decode cX3_behind 26 = .ok (.ireturn, 1) := by decide +kernel
theorem dX3_meet_0 : decode cX3_meet 0 = .ok (.aload_n 0, 1) := by decide +kernel
theorem dX3_meet_1 : decode cX3_meet 1 = .ok (.iconst 0, 1) := by decide +kernel
theorem dX3_meet_2 : decode cX3_meet 2 = .ok (.putfield 35, 3) := by decide +kernel
theorem dX3_meet_5 : decode cX3_meet 5 = .ok (.aload_n 0, 1) := by decide +kernel
theorem dX3_meet_6 : decode cX3_meet 6 = .ok (.iload_n 1, 1) := by decide +kernel
theorem dX3_meet_7 : decode cX3_meet 7 = .ok (.invokevirtual 113, 3) := by decide +kernel
theorem dX3_meet_10 : decode cX3_meet 10 = .ok (.ifCond .eq 20, 3) := by decide +kernel
theorem dX3_meet_13 : decode cX3_meet 13 = .ok (.aload_n 0, 1) := by decide +kernel
theorem dX3_meet_14 : decode cX3_meet 14 = .ok (.iload_n 2, 1) := by decide +kernel
theorem dX3_meet_15 : decode cX3_meet 15 = .ok (.invokevirtual 113, 3) := by decide +kernel
theorem dX3_meet_18 : decode cX3_meet 18 = .ok (.ifCond .eq 12, 3) := by decide +kernel
theorem dX3_meet_21 : decode cX3_meet 21 = .ok (.aload_n 0, 1) := by decide +kernel
theorem dX3_meet_22 : decode cX3_meet 22 = .ok (.iload_n 1, 1) := by decide +kernel
theorem dX3_meet_23 : decode cX3_meet 23 = .ok (.iload_n 2, 1) := by decide +kernel
theorem dX3_meet_24 : decode cX3_meet 24 = .ok (.invokevirtual 110, 3) := by decide +kernel
theorem dX3_meet_27 : decode cX3_meet 27 = .ok (.goto 8, 3) := by decide +kernel
theorem dX3_meet_30 : decode cX3_meet 30 = .ok (.aload_n 0, 1) := by decide +kernel
theorem dX3_meet_31 : decode cX3_meet 31 = .ok (.iconst 1, 1) := by decide +kernel
theorem dX3_meet_32 : decode cX3_meet 32 = .ok (.invokevirtual 101, 3) := by decide +kernel
theorem dX3_meet_35 : decode cX3_meet 35 = .ok (.ireturn, 1) := by decide +kernel
theorem dX3_apart_0 : decode cX3_apart 0 = .ok (.aload_n 0, 1) := by decide +kernel
theorem dX3_apart_1 : decode cX3_apart 1 = .ok (.iconst 0, 1) := by decide +kernel
theorem dX3_apart_2 : decode cX3_apart 2 = .ok (.putfield 35, 3) := by decide +kernel
theorem dX3_apart_5 : decode cX3_apart 5 = .ok (.aload_n 0, 1) := by decide +kernel
theorem dX3_apart_6 : decode cX3_apart 6 = .ok (.iload_n 1, 1) := by decide +kernel
theorem dX3_apart_7 : decode cX3_apart 7 = .ok (.invokevirtual 113, 3) := by decide +kernel
theorem dX3_apart_10 : decode cX3_apart 10 = .ok (.ifCond .eq 20, 3) := by decide +kernel
theorem dX3_apart_13 : decode cX3_apart 13 = .ok (.aload_n 0, 1) := by decide +kernel
theorem dX3_apart_14 : decode cX3_apart 14 = .ok (.iload_n 2, 1) := by decide +kernel
theorem dX3_apart_15 : decode cX3_apart 15 = .ok (.invokevirtual 113, 3) := by decide +kernel
theorem dX3_apart_18 : decode cX3_apart 18 = .ok (.ifCond .eq 12, 3) := by decide +kernel
theorem dX3_apart_21 : decode cX3_apart 21 = .ok (.aload_n 0, 1) := by decide +kernel
theorem dX3_apart_22 : decode cX3_apart 22 = .ok (.iload_n 1, 1) := by decide +kernel
theorem dX3_apart_23 : decode cX3_apart 23 = .ok (.iload_n 2, 1) := by decide +kernel
theorem dX3_apart_24 : decode cX3_apart 24 = .ok (.invokevirtual 116, 3) := by decide +kernel
theorem dX3_apart_27 : decode cX3_apart 27 = .ok (.goto 8, 3) := by decide +kernel
theorem dX3_apart_30 : decode cX3_apart 30 = .ok (.aload_n 0, 1) := by decide +kernel
theorem dX3_apart_31 : decode cX3_apart 31 = .ok (.iconst 1, 1) := by decide +kernel
theorem dX3_apart_32 : decode cX3_apart 32 = .ok (.invokevirtual 101, 3) := by decide +kernel
theorem dX3_apart_35 : decode cX3_apart 35 = .ok (.ireturn, 1) := by decide +kernel
theorem dX3_leaves_0 : decode cX3_leaves 0 = .ok (.iconst 0, 1) := by decide +kernel
theorem dX3_leaves_1 : decode cX3_leaves 1 = .ok (.istore_n 1, 1) := by decide +kernel
theorem dX3_leaves_2 : decode cX3_leaves 2 = .ok (.iconst 0, 1) := by decide +kernel
theorem dX3_leaves_3 : decode cX3_leaves 3 = .ok (.istore_n 2, 1) := by decide +kernel
theorem dX3_leaves_4 : decode cX3_leaves 4 = .ok (.iload_n 2, 1) := by decide +kernel
theorem dX3_leaves_5 : decode cX3_leaves 5 = .ok (.aload_n 0, 1) := by decide +kernel
theorem dX3_leaves_6 : decode cX3_leaves 6 = .ok (.getfield 9, 3) := by decide +kernel
theorem dX3_leaves_9 : decode cX3_leaves 9 = .ok (.if_icmp .ge 25, 3) := by decide +kernel
theorem dX3_leaves_12 : decode cX3_leaves 12 = .ok (.iload_n 1, 1) := by decide +kernel
theorem dX3_leaves_13 : decode cX3_leaves 13 = .ok (.aload_n 0, 1) := by decide +kernel
theorem dX3_leaves_14 : decode cX3_leaves 14 = .ok (.iload_n 2, 1) := by decide +kernel
theorem dX3_leaves_15 : decode cX3_leaves 15 = .ok (.invokevirtual 132, 3) := by decide +kernel
theorem dX3_leaves_18 : decode cX3_leaves 18 = .ok (.ifCond .ne 7, 3) := by decide +kernel
theorem dX3_leaves_21 : decode cX3_leaves 21 = .ok (.iconst 1, 1) := by decide +kernel
theorem dX3_leaves_22 : decode cX3_leaves 22 = .ok (.goto 4, 3) := by decide +kernel
theorem dX3_leaves_25 : decode cX3_leaves 25 = .ok (.iconst 0, 1) := by decide +kernel
theorem dX3_leaves_26 : decode cX3_leaves 26 = .ok (.iadd, 1) := by decide +kernel
theorem dX3_leaves_27 : decode cX3_leaves 27 = .ok (.istore_n 1, 1) := by decide +kernel
theorem dX3_leaves_28 : decode cX3_leaves 28 = .ok (.iinc 2 1, 3) := by decide +kernel
theorem dX3_leaves_31 : decode cX3_leaves 31 = .ok (.goto (-27), 3) := by decide +kernel
theorem dX3_leaves_34 : decode cX3_leaves 34 = .ok (.iload_n 1, 1) := by decide +kernel
theorem dX3_leaves_35 : decode cX3_leaves 35 = .ok (.ireturn, 1) := by decide +kernel
theorem dX3_ends_0 : decode cX3_ends 0 = .ok (.aload_n 0, 1) := by decide +kernel
theorem dX3_ends_1 : decode cX3_ends 1 = .ok (.aload_n 0, 1) := by decide +kernel
theorem dX3_ends_2 : decode cX3_ends 2 = .ok (.invokevirtual 138, 3) := by decide +kernel
theorem dX3_ends_5 : decode cX3_ends 5 = .ok (.invokevirtual 119, 3) := by decide +kernel
theorem dX3_ends_8 : decode cX3_ends 8 = .ok (.ireturn, 1) := by decide +kernel
theorem dX3_placeIn_0 : decode cX3_placeIn 0 = .ok (.aload_n 0, 1) := by decide +kernel
theorem dX3_placeIn_1 : decode cX3_placeIn 1 = .ok (.iconst 0, 1) := by decide +kernel
theorem dX3_placeIn_2 : decode cX3_placeIn 2 = .ok (.putfield 35, 3) := by decide +kernel
theorem dX3_placeIn_5 : decode cX3_placeIn 5 = .ok (.aload_n 0, 1) := by decide +kernel
theorem dX3_placeIn_6 : decode cX3_placeIn 6 = .ok (.iload_n 1, 1) := by decide +kernel
theorem dX3_placeIn_7 : decode cX3_placeIn 7 = .ok (.invokevirtual 113, 3) := by decide +kernel
theorem dX3_placeIn_10 : decode cX3_placeIn 10 = .ok (.ifCond .eq 20, 3) := by decide +kernel
theorem dX3_placeIn_13 : decode cX3_placeIn 13 = .ok (.aload_n 0, 1) := by decide +kernel
theorem dX3_placeIn_14 : decode cX3_placeIn 14 = .ok (.iload_n 2, 1) := by decide +kernel
theorem dX3_placeIn_15 : decode cX3_placeIn 15 = .ok (.invokevirtual 75, 3) := by decide +kernel
theorem dX3_placeIn_18 : decode cX3_placeIn 18 = .ok (.ifCond .eq 12, 3) := by decide +kernel
theorem dX3_placeIn_21 : decode cX3_placeIn 21 = .ok (.aload_n 0, 1) := by decide +kernel
theorem dX3_placeIn_22 : decode cX3_placeIn 22 = .ok (.iload_n 1, 1) := by decide +kernel
theorem dX3_placeIn_23 : decode cX3_placeIn 23 = .ok (.iload_n 2, 1) := by decide +kernel
theorem dX3_placeIn_24 : decode cX3_placeIn 24 = .ok (.invokevirtual 52, 3) := by decide +kernel
theorem dX3_placeIn_27 : decode cX3_placeIn 27 = .ok (.goto 8, 3) := by decide +kernel
theorem dX3_placeIn_30 : decode cX3_placeIn 30 = .ok (.aload_n 0, 1) := by decide +kernel
theorem dX3_placeIn_31 : decode cX3_placeIn 31 = .ok (.iconst 1, 1) := by decide +kernel
theorem dX3_placeIn_32 : decode cX3_placeIn 32 = .ok (.invokevirtual 101, 3) := by decide +kernel
theorem dX3_placeIn_35 : decode cX3_placeIn 35 = .ok (.ireturn, 1) := by decide +kernel
theorem dX3_lyingIn_0 : decode cX3_lyingIn 0 = .ok (.aload_n 0, 1) := by decide +kernel
theorem dX3_lyingIn_1 : decode cX3_lyingIn 1 = .ok (.iconst 0, 1) := by decide +kernel
theorem dX3_lyingIn_2 : decode cX3_lyingIn 2 = .ok (.putfield 35, 3) := by decide +kernel
theorem dX3_lyingIn_5 : decode cX3_lyingIn 5 = .ok (.aload_n 0, 1) := by decide +kernel
theorem dX3_lyingIn_6 : decode cX3_lyingIn 6 = .ok (.iload_n 1, 1) := by decide +kernel
theorem dX3_lyingIn_7 : decode cX3_lyingIn 7 = .ok (.invokevirtual 113, 3) := by decide +kernel
theorem dX3_lyingIn_10 : decode cX3_lyingIn 10 = .ok (.ifCond .eq 15, 3) := by decide +kernel
theorem dX3_lyingIn_13 : decode cX3_lyingIn 13 = .ok (.aload_n 0, 1) := by decide +kernel
theorem dX3_lyingIn_14 : decode cX3_lyingIn 14 = .ok (.iload_n 1, 1) := by decide +kernel
theorem dX3_lyingIn_15 : decode cX3_lyingIn 15 = .ok (.aload_n 0, 1) := by decide +kernel
theorem dX3_lyingIn_16 : decode cX3_lyingIn 16 = .ok (.getfield 42, 3) := by decide +kernel
theorem dX3_lyingIn_19 : decode cX3_lyingIn 19 = .ok (.invokevirtual 122, 3) := by decide +kernel
theorem dX3_lyingIn_22 : decode cX3_lyingIn 22 = .ok (.goto 8, 3) := by decide +kernel
theorem dX3_lyingIn_25 : decode cX3_lyingIn 25 = .ok (.aload_n 0, 1) := by decide +kernel
theorem dX3_lyingIn_26 : decode cX3_lyingIn 26 = .ok (.iconst 1, 1) := by decide +kernel
theorem dX3_lyingIn_27 : decode cX3_lyingIn 27 = .ok (.invokevirtual 101, 3) := by decide +kernel
theorem dX3_lyingIn_30 : decode cX3_lyingIn 30 = .ok (.ireturn, 1) := by decide +kernel
theorem dX3_isLike_0 : decode cX3_isLike 0 = .ok (.iconst 0, 1) := by decide +kernel
theorem dX3_isLike_1 : decode cX3_isLike 1 = .ok (.istore_n 3, 1) := by decide +kernel
theorem dX3_isLike_2 : decode cX3_isLike 2 = .ok (.iload_n 3, 1) := by decide +kernel
theorem dX3_isLike_3 : decode cX3_isLike 3 = .ok (.aload_n 0, 1) := by decide +kernel
theorem dX3_isLike_4 : decode cX3_isLike 4 = .ok (.getfield 42, 3) := by decide +kernel
theorem dX3_isLike_7 : decode cX3_isLike 7 = .ok (.if_icmp .gt 26, 3) := by decide +kernel
theorem dX3_isLike_10 : decode cX3_isLike 10 = .ok (.aload_n 0, 1) := by decide +kernel
theorem dX3_isLike_11 : decode cX3_isLike 11 = .ok (.iload_n 1, 1) := by decide +kernel
theorem dX3_isLike_12 : decode cX3_isLike 12 = .ok (.iload_n 3, 1) := by decide +kernel
theorem dX3_isLike_13 : decode cX3_isLike 13 = .ok (.invokevirtual 48, 3) := by decide +kernel
theorem dX3_isLike_16 : decode cX3_isLike 16 = .ok (.aload_n 0, 1) := by decide +kernel
theorem dX3_isLike_17 : decode cX3_isLike 17 = .ok (.iload_n 2, 1) := by decide +kernel
theorem dX3_isLike_18 : decode cX3_isLike 18 = .ok (.iload_n 3, 1) := by decide +kernel
theorem dX3_isLike_19 : decode cX3_isLike 19 = .ok (.invokevirtual 48, 3) := by decide +kernel
theorem dX3_isLike_22 : decode cX3_isLike 22 = .ok (.if_icmp .eq 5, 3) := by decide +kernel
theorem dX3_isLike_25 : decode cX3_isLike 25 = .ok (.iconst 0, 1) := by decide +kernel
theorem dX3_isLike_26 : decode cX3_isLike 26 = .ok (.ireturn, 1) := by decide +kernel
theorem dX3_isLike_27 : decode cX3_isLike 27 = .ok (.iinc 3 1, 3) := by decide +kernel
theorem dX3_isLike_30 : decode cX3_isLike 30 = .ok (.goto (-28), 3) := by decide +kernel
theorem dX3_isLike_33 : decode cX3_isLike 33 = .ok (.iconst 1, 1) := by decide +kernel
theorem dX3_isLike_34 : decode cX3_isLike 34 = .ok (.ireturn, 1) := by decide +kernel
theorem dX3_areAlike_0 : decode cX3_areAlike 0 = .ok (.aload_n 0, 1) := by decide +kernel
theorem dX3_areAlike_1 : decode cX3_areAlike 1 = .ok (.iconst 0, 1) := by decide +kernel
theorem dX3_areAlike_2 : decode cX3_areAlike 2 = .ok (.putfield 35, 3) := by decide +kernel
theorem dX3_areAlike_5 : decode cX3_areAlike 5 = .ok (.aload_n 0, 1) := by decide +kernel
theorem dX3_areAlike_6 : decode cX3_areAlike 6 = .ok (.iload_n 1, 1) := by decide +kernel
theorem dX3_areAlike_7 : decode cX3_areAlike 7 = .ok (.invokevirtual 113, 3) := by decide +kernel
theorem dX3_areAlike_10 : decode cX3_areAlike 10 = .ok (.ifCond .eq 20, 3) := by decide +kernel
theorem dX3_areAlike_13 : decode cX3_areAlike 13 = .ok (.aload_n 0, 1) := by decide +kernel
theorem dX3_areAlike_14 : decode cX3_areAlike 14 = .ok (.iload_n 2, 1) := by decide +kernel
theorem dX3_areAlike_15 : decode cX3_areAlike 15 = .ok (.invokevirtual 113, 3) := by decide +kernel
theorem dX3_areAlike_18 : decode cX3_areAlike 18 = .ok (.ifCond .eq 12, 3) := by decide +kernel
theorem dX3_areAlike_21 : decode cX3_areAlike 21 = .ok (.aload_n 0, 1) := by decide +kernel
theorem dX3_areAlike_22 : decode cX3_areAlike 22 = .ok (.iload_n 1, 1) := by decide +kernel
theorem dX3_areAlike_23 : decode cX3_areAlike 23 = .ok (.iload_n 2, 1) := by decide +kernel
theorem dX3_areAlike_24 : decode cX3_areAlike 24 = .ok (.invokevirtual 141, 3) := by decide +kernel
theorem dX3_areAlike_27 : decode cX3_areAlike 27 = .ok (.goto 8, 3) := by decide +kernel
theorem dX3_areAlike_30 : decode cX3_areAlike 30 = .ok (.aload_n 0, 1) := by decide +kernel
theorem dX3_areAlike_31 : decode cX3_areAlike 31 = .ok (.iconst 1, 1) := by decide +kernel
theorem dX3_areAlike_32 : decode cX3_areAlike 32 = .ok (.invokevirtual 125, 3) := by decide +kernel
theorem dX3_areAlike_35 : decode cX3_areAlike 35 = .ok (.ireturn, 1) := by decide +kernel
theorem dX3_knocks_0 : decode cX3_knocks 0 = .ok (.iconst 0, 1) := by decide +kernel
theorem dX3_knocks_1 : decode cX3_knocks 1 = .ok (.istore_n 2, 1) := by decide +kernel
theorem dX3_knocks_2 : decode cX3_knocks 2 = .ok (.iconst 1, 1) := by decide +kernel
theorem dX3_knocks_3 : decode cX3_knocks 3 = .ok (.istore_n 3, 1) := by decide +kernel
theorem dX3_knocks_4 : decode cX3_knocks 4 = .ok (.iload_n 3, 1) := by decide +kernel
theorem dX3_knocks_5 : decode cX3_knocks 5 = .ok (.aload_n 0, 1) := by decide +kernel
theorem dX3_knocks_6 : decode cX3_knocks 6 = .ok (.getfield 9, 3) := by decide +kernel
theorem dX3_knocks_9 : decode cX3_knocks 9 = .ok (.if_icmp .ge 37, 3) := by decide +kernel
theorem dX3_knocks_12 : decode cX3_knocks 12 = .ok (.iload_n 2, 1) := by decide +kernel
theorem dX3_knocks_13 : decode cX3_knocks 13 = .ok (.aload_n 0, 1) := by decide +kernel
theorem dX3_knocks_14 : decode cX3_knocks 14 = .ok (.getfield 17, 3) := by decide +kernel
theorem dX3_knocks_17 : decode cX3_knocks 17 = .ok (.iload_n 3, 1) := by decide +kernel
theorem dX3_knocks_18 : decode cX3_knocks 18 = .ok (.iaload, 1) := by decide +kernel
theorem dX3_knocks_19 : decode cX3_knocks 19 = .ok (.iconst 1, 1) := by decide +kernel
theorem dX3_knocks_20 : decode cX3_knocks 20 = .ok (.if_icmp .ne 17, 3) := by decide +kernel
theorem dX3_knocks_23 : decode cX3_knocks 23 = .ok (.aload_n 0, 1) := by decide +kernel
theorem dX3_knocks_24 : decode cX3_knocks 24 = .ok (.getfield 20, 3) := by decide +kernel
theorem dX3_knocks_27 : decode cX3_knocks 27 = .ok (.iload_n 3, 1) := by decide +kernel
theorem dX3_knocks_28 : decode cX3_knocks 28 = .ok (.iaload, 1) := by decide +kernel
theorem dX3_knocks_29 : decode cX3_knocks 29 = .ok (.iload_n 1, 1) := by decide +kernel
theorem dX3_knocks_30 : decode cX3_knocks 30 = .ok (.if_icmp .ne 7, 3) := by decide +kernel
theorem dX3_knocks_33 : decode cX3_knocks 33 = .ok (.iconst 1, 1) := by decide +kernel
theorem dX3_knocks_34 : decode cX3_knocks 34 = .ok (.goto 4, 3) := by decide +kernel
theorem dX3_knocks_37 : decode cX3_knocks 37 = .ok (.iconst 0, 1) := by decide +kernel
theorem dX3_knocks_38 : decode cX3_knocks 38 = .ok (.iadd, 1) := by decide +kernel
theorem dX3_knocks_39 : decode cX3_knocks 39 = .ok (.istore_n 2, 1) := by decide +kernel
theorem dX3_knocks_40 : decode cX3_knocks 40 = .ok (.iinc 3 1, 3) := by decide +kernel
theorem dX3_knocks_43 : decode cX3_knocks 43 = .ok (.goto (-39), 3) := by decide +kernel
theorem dX3_knocks_46 : decode cX3_knocks 46 = .ok (.iload_n 2, 1) := by decide +kernel
theorem dX3_knocks_47 : decode cX3_knocks 47 = .ok (.ireturn, 1) := by decide +kernel
theorem dX3_mostDown_0 : decode cX3_mostDown 0 = .ok (.iconst (-1), 1) := by decide +kernel
theorem dX3_mostDown_1 : decode cX3_mostDown 1 = .ok (.istore_n 1, 1) := by decide +kernel
theorem dX3_mostDown_2 : decode cX3_mostDown 2 = .ok (.iconst 0, 1) := by decide +kernel
theorem dX3_mostDown_3 : decode cX3_mostDown 3 = .ok (.istore_n 2, 1) := by decide +kernel
theorem dX3_mostDown_4 : decode cX3_mostDown 4 = .ok (.iload_n 2, 1) := by decide +kernel
theorem dX3_mostDown_5 : decode cX3_mostDown 5 = .ok (.aload_n 0, 1) := by decide +kernel
theorem dX3_mostDown_6 : decode cX3_mostDown 6 = .ok (.getfield 42, 3) := by decide +kernel
theorem dX3_mostDown_9 : decode cX3_mostDown 9 = .ok (.if_icmp .ge 29, 3) := by decide +kernel
theorem dX3_mostDown_12 : decode cX3_mostDown 12 = .ok (.iload_n 1, 1) := by decide +kernel
theorem dX3_mostDown_13 : decode cX3_mostDown 13 = .ok (.iconst (-1), 1) := by decide +kernel
theorem dX3_mostDown_14 : decode cX3_mostDown 14 = .ok (.if_icmp .eq 16, 3) := by decide +kernel
theorem dX3_mostDown_17 : decode cX3_mostDown 17 = .ok (.aload_n 0, 1) := by decide +kernel
theorem dX3_mostDown_18 : decode cX3_mostDown 18 = .ok (.iload_n 2, 1) := by decide +kernel
theorem dX3_mostDown_19 : decode cX3_mostDown 19 = .ok (.invokevirtual 144, 3) := by decide +kernel
theorem dX3_mostDown_22 : decode cX3_mostDown 22 = .ok (.aload_n 0, 1) := by decide +kernel
theorem dX3_mostDown_23 : decode cX3_mostDown 23 = .ok (.iload_n 1, 1) := by decide +kernel
theorem dX3_mostDown_24 : decode cX3_mostDown 24 = .ok (.invokevirtual 144, 3) := by decide +kernel
theorem dX3_mostDown_27 : decode cX3_mostDown 27 = .ok (.if_icmp .le 5, 3) := by decide +kernel
theorem dX3_mostDown_30 : decode cX3_mostDown 30 = .ok (.iload_n 2, 1) := by decide +kernel
theorem dX3_mostDown_31 : decode cX3_mostDown 31 = .ok (.istore_n 1, 1) := by decide +kernel
theorem dX3_mostDown_32 : decode cX3_mostDown 32 = .ok (.iinc 2 1, 3) := by decide +kernel
theorem dX3_mostDown_35 : decode cX3_mostDown 35 = .ok (.goto (-31), 3) := by decide +kernel
theorem dX3_mostDown_38 : decode cX3_mostDown 38 = .ok (.iload_n 1, 1) := by decide +kernel
theorem dX3_mostDown_39 : decode cX3_mostDown 39 = .ok (.ireturn, 1) := by decide +kernel
theorem dX3_mostKnocked_0 : decode cX3_mostKnocked 0 = .ok (.aload_n 0, 1) := by decide +kernel
theorem dX3_mostKnocked_1 : decode cX3_mostKnocked 1 = .ok (.aload_n 0, 1) := by decide +kernel
theorem dX3_mostKnocked_2 : decode cX3_mostKnocked 2 = .ok (.invokevirtual 147, 3) := by decide +kernel
theorem dX3_mostKnocked_5 : decode cX3_mostKnocked 5 = .ok (.invokevirtual 119, 3) := by decide +kernel
theorem dX3_mostKnocked_8 : decode cX3_mostKnocked 8 = .ok (.ireturn, 1) := by decide +kernel
theorem dX3_meanDepth_0 : decode cX3_meanDepth 0 = .ok (.aload_n 0, 1) := by decide +kernel
theorem dX3_meanDepth_1 : decode cX3_meanDepth 1 = .ok (.iconst 0, 1) := by decide +kernel
theorem dX3_meanDepth_2 : decode cX3_meanDepth 2 = .ok (.putfield 35, 3) := by decide +kernel
theorem dX3_meanDepth_5 : decode cX3_meanDepth 5 = .ok (.iconst 0, 1) := by decide +kernel
theorem dX3_meanDepth_6 : decode cX3_meanDepth 6 = .ok (.istore_n 1, 1) := by decide +kernel
theorem dX3_meanDepth_7 : decode cX3_meanDepth 7 = .ok (.iconst 0, 1) := by decide +kernel
theorem dX3_meanDepth_8 : decode cX3_meanDepth 8 = .ok (.istore_n 2, 1) := by decide +kernel
theorem dX3_meanDepth_9 : decode cX3_meanDepth 9 = .ok (.iload_n 2, 1) := by decide +kernel
theorem dX3_meanDepth_10 : decode cX3_meanDepth 10 = .ok (.aload_n 0, 1) := by decide +kernel
theorem dX3_meanDepth_11 : decode cX3_meanDepth 11 = .ok (.getfield 9, 3) := by decide +kernel
theorem dX3_meanDepth_14 : decode cX3_meanDepth 14 = .ok (.if_icmp .ge 30, 3) := by decide +kernel
theorem dX3_meanDepth_17 : decode cX3_meanDepth 17 = .ok (.iload_n 1, 1) := by decide +kernel
theorem dX3_meanDepth_18 : decode cX3_meanDepth 18 = .ok (.aload_n 0, 1) := by decide +kernel
theorem dX3_meanDepth_19 : decode cX3_meanDepth 19 = .ok (.iload_n 2, 1) := by decide +kernel
theorem dX3_meanDepth_20 : decode cX3_meanDepth 20 = .ok (.invokevirtual 132, 3) := by decide +kernel
theorem dX3_meanDepth_23 : decode cX3_meanDepth 23 = .ok (.ifCond .ne 12, 3) := by decide +kernel
theorem dX3_meanDepth_26 : decode cX3_meanDepth 26 = .ok (.aload_n 0, 1) := by decide +kernel
theorem dX3_meanDepth_27 : decode cX3_meanDepth 27 = .ok (.getfield 23, 3) := by decide +kernel
theorem dX3_meanDepth_30 : decode cX3_meanDepth 30 = .ok (.iload_n 2, 1) := by decide +kernel
theorem dX3_meanDepth_31 : decode cX3_meanDepth 31 = .ok (.iaload, 1) := by decide +kernel
theorem dX3_meanDepth_32 : decode cX3_meanDepth 32 = .ok (.goto 4, 3) := by decide +kernel
theorem dX3_meanDepth_35 : decode cX3_meanDepth 35 = .ok (.iconst 0, 1) := by decide +kernel
theorem dX3_meanDepth_36 : decode cX3_meanDepth 36 = .ok (.iadd, 1) := by decide +kernel
theorem dX3_meanDepth_37 : decode cX3_meanDepth 37 = .ok (.istore_n 1, 1) := by decide +kernel
theorem dX3_meanDepth_38 : decode cX3_meanDepth 38 = .ok (.iinc 2 1, 3) := by decide +kernel
theorem dX3_meanDepth_41 : decode cX3_meanDepth 41 = .ok (.goto (-32), 3) := by decide +kernel
theorem dX3_meanDepth_44 : decode cX3_meanDepth 44 = .ok (.iload_n 1, 1) := by decide +kernel
theorem dX3_meanDepth_45 : decode cX3_meanDepth 45 = .ok (.i2d, 1) := by decide +kernel
theorem dX3_meanDepth_46 : decode cX3_meanDepth 46 = .ok (.aload_n 0, 1) := by decide +kernel
theorem dX3_meanDepth_47 : decode cX3_meanDepth 47 = .ok (.invokevirtual 138, 3) := by decide +kernel
theorem dX3_meanDepth_50 : decode cX3_meanDepth 50 = .ok (.i2d, 1) := by decide +kernel
theorem dX3_meanDepth_51 : decode cX3_meanDepth 51 = .ok (.ddiv, 1) := by decide +kernel
theorem dX3_meanDepth_52 : decode cX3_meanDepth 52 = .ok (.dreturn, 1) := by decide +kernel
theorem dX3_digest_0 : decode cX3_digest 0 = .ok (.aload_n 0, 1) := by decide +kernel
theorem dX3_digest_1 : decode cX3_digest 1 = .ok (.iconst 0, 1) := by decide +kernel
theorem dX3_digest_2 : decode cX3_digest 2 = .ok (.putfield 35, 3) := by decide +kernel
theorem dX3_digest_5 : decode cX3_digest 5 = .ok (.bipush 8, 2) := by decide +kernel
theorem dX3_digest_7 : decode cX3_digest 7 = .ok (.newarray .int, 2) := by decide +kernel
theorem dX3_digest_9 : decode cX3_digest 9 = .ok (.dup, 1) := by decide +kernel
theorem dX3_digest_10 : decode cX3_digest 10 = .ok (.iconst 0, 1) := by decide +kernel
theorem dX3_digest_11 : decode cX3_digest 11 = .ok (.aload_n 0, 1) := by decide +kernel
theorem dX3_digest_12 : decode cX3_digest 12 = .ok (.getfield 45, 3) := by decide +kernel
theorem dX3_digest_15 : decode cX3_digest 15 = .ok (.iastore, 1) := by decide +kernel
theorem dX3_digest_16 : decode cX3_digest 16 = .ok (.dup, 1) := by decide +kernel
theorem dX3_digest_17 : decode cX3_digest 17 = .ok (.iconst 1, 1) := by decide +kernel
theorem dX3_digest_18 : decode cX3_digest 18 = .ok (.aload_n 0, 1) := by decide +kernel
theorem dX3_digest_19 : decode cX3_digest 19 = .ok (.getfield 9, 3) := by decide +kernel
theorem dX3_digest_22 : decode cX3_digest 22 = .ok (.iastore, 1) := by decide +kernel
theorem dX3_digest_23 : decode cX3_digest 23 = .ok (.dup, 1) := by decide +kernel
theorem dX3_digest_24 : decode cX3_digest 24 = .ok (.iconst 2, 1) := by decide +kernel
theorem dX3_digest_25 : decode cX3_digest 25 = .ok (.aload_n 0, 1) := by decide +kernel
theorem dX3_digest_26 : decode cX3_digest 26 = .ok (.getfield 42, 3) := by decide +kernel
theorem dX3_digest_29 : decode cX3_digest 29 = .ok (.iastore, 1) := by decide +kernel
theorem dX3_digest_30 : decode cX3_digest 30 = .ok (.dup, 1) := by decide +kernel
theorem dX3_digest_31 : decode cX3_digest 31 = .ok (.iconst 3, 1) := by decide +kernel
theorem dX3_digest_32 : decode cX3_digest 32 = .ok (.aload_n 0, 1) := by decide +kernel
theorem dX3_digest_33 : decode cX3_digest 33 = .ok (.invokevirtual 68, 3) := by decide +kernel
theorem dX3_digest_36 : decode cX3_digest 36 = .ok (.bipush 8, 2) := by decide +kernel
theorem dX3_digest_38 : decode cX3_digest 38 = .ok (.idiv, 1) := by decide +kernel
theorem dX3_digest_39 : decode cX3_digest 39 = .ok (.iastore, 1) := by decide +kernel
theorem dX3_digest_40 : decode cX3_digest 40 = .ok (.dup, 1) := by decide +kernel
theorem dX3_digest_41 : decode cX3_digest 41 = .ok (.iconst 4, 1) := by decide +kernel
theorem dX3_digest_42 : decode cX3_digest 42 = .ok (.aload_n 0, 1) := by decide +kernel
theorem dX3_digest_43 : decode cX3_digest 43 = .ok (.invokevirtual 68, 3) := by decide +kernel
theorem dX3_digest_46 : decode cX3_digest 46 = .ok (.bipush 8, 2) := by decide +kernel
theorem dX3_digest_48 : decode cX3_digest 48 = .ok (.irem, 1) := by decide +kernel
theorem dX3_digest_49 : decode cX3_digest 49 = .ok (.iastore, 1) := by decide +kernel
theorem dX3_digest_50 : decode cX3_digest 50 = .ok (.dup, 1) := by decide +kernel
theorem dX3_digest_51 : decode cX3_digest 51 = .ok (.iconst 5, 1) := by decide +kernel
theorem dX3_digest_52 : decode cX3_digest 52 = .ok (.aload_n 0, 1) := by decide +kernel
theorem dX3_digest_53 : decode cX3_digest 53 = .ok (.aload_n 0, 1) := by decide +kernel
theorem dX3_digest_54 : decode cX3_digest 54 = .ok (.getfield 45, 3) := by decide +kernel
theorem dX3_digest_57 : decode cX3_digest 57 = .ok (.aload_n 0, 1) := by decide +kernel
theorem dX3_digest_58 : decode cX3_digest 58 = .ok (.getfield 42, 3) := by decide +kernel
theorem dX3_digest_61 : decode cX3_digest 61 = .ok (.invokevirtual 122, 3) := by decide +kernel
theorem dX3_digest_64 : decode cX3_digest 64 = .ok (.iastore, 1) := by decide +kernel
theorem dX3_digest_65 : decode cX3_digest 65 = .ok (.dup, 1) := by decide +kernel
theorem dX3_digest_66 : decode cX3_digest 66 = .ok (.bipush 6, 2) := by decide +kernel
theorem dX3_digest_68 : decode cX3_digest 68 = .ok (.aload_n 0, 1) := by decide +kernel
theorem dX3_digest_69 : decode cX3_digest 69 = .ok (.invokevirtual 138, 3) := by decide +kernel
theorem dX3_digest_72 : decode cX3_digest 72 = .ok (.iastore, 1) := by decide +kernel
theorem dX3_digest_73 : decode cX3_digest 73 = .ok (.dup, 1) := by decide +kernel
theorem dX3_digest_74 : decode cX3_digest 74 = .ok (.bipush 7, 2) := by decide +kernel
theorem dX3_digest_76 : decode cX3_digest 76 = .ok (.aload_n 0, 1) := by decide +kernel
theorem dX3_digest_77 : decode cX3_digest 77 = .ok (.invokevirtual 147, 3) := by decide +kernel
theorem dX3_digest_80 : decode cX3_digest 80 = .ok (.iastore, 1) := by decide +kernel
theorem dX3_digest_81 : decode cX3_digest 81 = .ok (.astore_n 1, 1) := by decide +kernel
theorem dX3_digest_82 : decode cX3_digest 82 = .ok (.ldc2_w 150, 3) := by decide +kernel
theorem dX3_digest_85 : decode cX3_digest 85 = .ok (.lstore_n 2, 1) := by decide +kernel
theorem dX3_digest_86 : decode cX3_digest 86 = .ok (.aload_n 1, 1) := by decide +kernel
theorem dX3_digest_87 : decode cX3_digest 87 = .ok (.astore 4, 2) := by decide +kernel
theorem dX3_digest_89 : decode cX3_digest 89 = .ok (.aload 4, 2) := by decide +kernel
theorem dX3_digest_91 : decode cX3_digest 91 = .ok (.arraylength, 1) := by decide +kernel
theorem dX3_digest_92 : decode cX3_digest 92 = .ok (.istore 5, 2) := by decide +kernel
theorem dX3_digest_94 : decode cX3_digest 94 = .ok (.iconst 0, 1) := by decide +kernel
theorem dX3_digest_95 : decode cX3_digest 95 = .ok (.istore 6, 2) := by decide +kernel
theorem dX3_digest_97 : decode cX3_digest 97 = .ok (.iload 6, 2) := by decide +kernel
theorem dX3_digest_99 : decode cX3_digest 99 = .ok (.iload 5, 2) := by decide +kernel
theorem dX3_digest_101 : decode cX3_digest 101 = .ok (.if_icmp .ge 26, 3) := by decide +kernel
theorem dX3_digest_104 : decode cX3_digest 104 = .ok (.aload 4, 2) := by decide +kernel
theorem dX3_digest_106 : decode cX3_digest 106 = .ok (.iload 6, 2) := by decide +kernel
theorem dX3_digest_108 : decode cX3_digest 108 = .ok (.iaload, 1) := by decide +kernel
theorem dX3_digest_109 : decode cX3_digest 109 = .ok (.istore 7, 2) := by decide +kernel
theorem dX3_digest_111 : decode cX3_digest 111 = .ok (.lload_n 2, 1) := by decide +kernel
theorem dX3_digest_112 : decode cX3_digest 112 = .ok (.ldc2_w 152, 3) := by decide +kernel
theorem dX3_digest_115 : decode cX3_digest 115 = .ok (.lmul, 1) := by decide +kernel
theorem dX3_digest_116 : decode cX3_digest 116 = .ok (.iload 7, 2) := by decide +kernel
theorem dX3_digest_118 : decode cX3_digest 118 = .ok (.i2l, 1) := by decide +kernel
theorem dX3_digest_119 : decode cX3_digest 119 = .ok (.ladd, 1) := by decide +kernel
theorem dX3_digest_120 : decode cX3_digest 120 = .ok (.lstore_n 2, 1) := by decide +kernel
theorem dX3_digest_121 : decode cX3_digest 121 = .ok (.iinc 6 1, 3) := by decide +kernel
theorem dX3_digest_124 : decode cX3_digest 124 = .ok (.goto (-27), 3) := by decide +kernel
theorem dX3_digest_127 : decode cX3_digest 127 = .ok (.iconst 0, 1) := by decide +kernel
theorem dX3_digest_128 : decode cX3_digest 128 = .ok (.istore 4, 2) := by decide +kernel
theorem dX3_digest_130 : decode cX3_digest 130 = .ok (.iload 4, 2) := by decide +kernel
theorem dX3_digest_132 : decode cX3_digest 132 = .ok (.aload_n 0, 1) := by decide +kernel
theorem dX3_digest_133 : decode cX3_digest 133 = .ok (.getfield 42, 3) := by decide +kernel
theorem dX3_digest_136 : decode cX3_digest 136 = .ok (.if_icmp .ge 56, 3) := by decide +kernel
theorem dX3_digest_139 : decode cX3_digest 139 = .ok (.lload_n 2, 1) := by decide +kernel
theorem dX3_digest_140 : decode cX3_digest 140 = .ok (.ldc2_w 152, 3) := by decide +kernel
theorem dX3_digest_143 : decode cX3_digest 143 = .ok (.lmul, 1) := by decide +kernel
theorem dX3_digest_144 : decode cX3_digest 144 = .ok (.aload_n 0, 1) := by decide +kernel
theorem dX3_digest_145 : decode cX3_digest 145 = .ok (.aload_n 0, 1) := by decide +kernel
theorem dX3_digest_146 : decode cX3_digest 146 = .ok (.getfield 45, 3) := by decide +kernel
theorem dX3_digest_149 : decode cX3_digest 149 = .ok (.iload 4, 2) := by decide +kernel
theorem dX3_digest_151 : decode cX3_digest 151 = .ok (.invokevirtual 52, 3) := by decide +kernel
theorem dX3_digest_154 : decode cX3_digest 154 = .ok (.bipush 100, 2) := by decide +kernel
theorem dX3_digest_156 : decode cX3_digest 156 = .ok (.irem, 1) := by decide +kernel
theorem dX3_digest_157 : decode cX3_digest 157 = .ok (.i2l, 1) := by decide +kernel
theorem dX3_digest_158 : decode cX3_digest 158 = .ok (.ladd, 1) := by decide +kernel
theorem dX3_digest_159 : decode cX3_digest 159 = .ok (.ldc2_w 152, 3) := by decide +kernel
theorem dX3_digest_162 : decode cX3_digest 162 = .ok (.lmul, 1) := by decide +kernel
theorem dX3_digest_163 : decode cX3_digest 163 = .ok (.aload_n 0, 1) := by decide +kernel
theorem dX3_digest_164 : decode cX3_digest 164 = .ok (.aload_n 0, 1) := by decide +kernel
theorem dX3_digest_165 : decode cX3_digest 165 = .ok (.getfield 45, 3) := by decide +kernel
theorem dX3_digest_168 : decode cX3_digest 168 = .ok (.iload 4, 2) := by decide +kernel
theorem dX3_digest_170 : decode cX3_digest 170 = .ok (.invokevirtual 52, 3) := by decide +kernel
theorem dX3_digest_173 : decode cX3_digest 173 = .ok (.bipush 100, 2) := by decide +kernel
theorem dX3_digest_175 : decode cX3_digest 175 = .ok (.if_icmp .lt 7, 3) := by decide +kernel
theorem dX3_digest_178 : decode cX3_digest 178 = .ok (.iconst 1, 1) := by decide +kernel
theorem dX3_digest_179 : decode cX3_digest 179 = .ok (.goto 4, 3) := by decide +kernel
theorem dX3_digest_182 : decode cX3_digest 182 = .ok (.iconst 0, 1) := by decide +kernel
theorem dX3_digest_183 : decode cX3_digest 183 = .ok (.i2l, 1) := by decide +kernel
theorem dX3_digest_184 : decode cX3_digest 184 = .ok (.ladd, 1) := by decide +kernel
theorem dX3_digest_185 : decode cX3_digest 185 = .ok (.lstore_n 2, 1) := by decide +kernel
theorem dX3_digest_186 : decode cX3_digest 186 = .ok (.iinc 4 1, 3) := by decide +kernel
theorem dX3_digest_189 : decode cX3_digest 189 = .ok (.goto (-59), 3) := by decide +kernel
theorem dX3_digest_192 : decode cX3_digest 192 = .ok (.iconst 0, 1) := by decide +kernel
theorem dX3_digest_193 : decode cX3_digest 193 = .ok (.istore 4, 2) := by decide +kernel
theorem dX3_digest_195 : decode cX3_digest 195 = .ok (.iload 4, 2) := by decide +kernel
theorem dX3_digest_197 : decode cX3_digest 197 = .ok (.aload_n 0, 1) := by decide +kernel
theorem dX3_digest_198 : decode cX3_digest 198 = .ok (.getfield 9, 3) := by decide +kernel
theorem dX3_digest_201 : decode cX3_digest 201 = .ok (.if_icmp .ge 176, 3) := by decide +kernel
theorem dX3_digest_204 : decode cX3_digest 204 = .ok (.bipush 10, 2) := by decide +kernel
theorem dX3_digest_206 : decode cX3_digest 206 = .ok (.newarray .int, 2) := by decide +kernel
theorem dX3_digest_208 : decode cX3_digest 208 = .ok (.dup, 1) := by decide +kernel
theorem dX3_digest_209 : decode cX3_digest 209 = .ok (.iconst 0, 1) := by decide +kernel
theorem dX3_digest_210 : decode cX3_digest 210 = .ok (.aload_n 0, 1) := by decide +kernel
theorem dX3_digest_211 : decode cX3_digest 211 = .ok (.getfield 13, 3) := by decide +kernel
theorem dX3_digest_214 : decode cX3_digest 214 = .ok (.iload 4, 2) := by decide +kernel
theorem dX3_digest_216 : decode cX3_digest 216 = .ok (.iaload, 1) := by decide +kernel
theorem dX3_digest_217 : decode cX3_digest 217 = .ok (.iastore, 1) := by decide +kernel
theorem dX3_digest_218 : decode cX3_digest 218 = .ok (.dup, 1) := by decide +kernel
theorem dX3_digest_219 : decode cX3_digest 219 = .ok (.iconst 1, 1) := by decide +kernel
theorem dX3_digest_220 : decode cX3_digest 220 = .ok (.aload_n 0, 1) := by decide +kernel
theorem dX3_digest_221 : decode cX3_digest 221 = .ok (.getfield 17, 3) := by decide +kernel
theorem dX3_digest_224 : decode cX3_digest 224 = .ok (.iload 4, 2) := by decide +kernel
theorem dX3_digest_226 : decode cX3_digest 226 = .ok (.iaload, 1) := by decide +kernel
theorem dX3_digest_227 : decode cX3_digest 227 = .ok (.iastore, 1) := by decide +kernel
theorem dX3_digest_228 : decode cX3_digest 228 = .ok (.dup, 1) := by decide +kernel
theorem dX3_digest_229 : decode cX3_digest 229 = .ok (.iconst 2, 1) := by decide +kernel
theorem dX3_digest_230 : decode cX3_digest 230 = .ok (.aload_n 0, 1) := by decide +kernel
theorem dX3_digest_231 : decode cX3_digest 231 = .ok (.getfield 20, 3) := by decide +kernel
theorem dX3_digest_234 : decode cX3_digest 234 = .ok (.iload 4, 2) := by decide +kernel
theorem dX3_digest_236 : decode cX3_digest 236 = .ok (.iaload, 1) := by decide +kernel
theorem dX3_digest_237 : decode cX3_digest 237 = .ok (.iastore, 1) := by decide +kernel
theorem dX3_digest_238 : decode cX3_digest 238 = .ok (.dup, 1) := by decide +kernel
theorem dX3_digest_239 : decode cX3_digest 239 = .ok (.iconst 3, 1) := by decide +kernel
theorem dX3_digest_240 : decode cX3_digest 240 = .ok (.aload_n 0, 1) := by decide +kernel
theorem dX3_digest_241 : decode cX3_digest 241 = .ok (.getfield 23, 3) := by decide +kernel
theorem dX3_digest_244 : decode cX3_digest 244 = .ok (.iload 4, 2) := by decide +kernel
theorem dX3_digest_246 : decode cX3_digest 246 = .ok (.iaload, 1) := by decide +kernel
theorem dX3_digest_247 : decode cX3_digest 247 = .ok (.iastore, 1) := by decide +kernel
theorem dX3_digest_248 : decode cX3_digest 248 = .ok (.dup, 1) := by decide +kernel
theorem dX3_digest_249 : decode cX3_digest 249 = .ok (.iconst 4, 1) := by decide +kernel
theorem dX3_digest_250 : decode cX3_digest 250 = .ok (.aload_n 0, 1) := by decide +kernel
theorem dX3_digest_251 : decode cX3_digest 251 = .ok (.iload 4, 2) := by decide +kernel
theorem dX3_digest_253 : decode cX3_digest 253 = .ok (.invokevirtual 132, 3) := by decide +kernel
theorem dX3_digest_256 : decode cX3_digest 256 = .ok (.iastore, 1) := by decide +kernel
theorem dX3_digest_257 : decode cX3_digest 257 = .ok (.dup, 1) := by decide +kernel
theorem dX3_digest_258 : decode cX3_digest 258 = .ok (.iconst 5, 1) := by decide +kernel
theorem dX3_digest_259 : decode cX3_digest 259 = .ok (.aload_n 0, 1) := by decide +kernel
theorem dX3_digest_260 : decode cX3_digest 260 = .ok (.iload 4, 2) := by decide +kernel
theorem dX3_digest_262 : decode cX3_digest 262 = .ok (.invokevirtual 135, 3) := by decide +kernel
theorem dX3_digest_265 : decode cX3_digest 265 = .ok (.iastore, 1) := by decide +kernel
theorem dX3_digest_266 : decode cX3_digest 266 = .ok (.dup, 1) := by decide +kernel
theorem dX3_digest_267 : decode cX3_digest 267 = .ok (.bipush 6, 2) := by decide +kernel
theorem dX3_digest_269 : decode cX3_digest 269 = .ok (.aload_n 0, 1) := by decide +kernel
theorem dX3_digest_270 : decode cX3_digest 270 = .ok (.getfield 26, 3) := by decide +kernel
theorem dX3_digest_273 : decode cX3_digest 273 = .ok (.iload 4, 2) := by decide +kernel
theorem dX3_digest_275 : decode cX3_digest 275 = .ok (.iaload, 1) := by decide +kernel
theorem dX3_digest_276 : decode cX3_digest 276 = .ok (.iastore, 1) := by decide +kernel
theorem dX3_digest_277 : decode cX3_digest 277 = .ok (.dup, 1) := by decide +kernel
theorem dX3_digest_278 : decode cX3_digest 278 = .ok (.bipush 7, 2) := by decide +kernel
theorem dX3_digest_280 : decode cX3_digest 280 = .ok (.aload_n 0, 1) := by decide +kernel
theorem dX3_digest_281 : decode cX3_digest 281 = .ok (.iload 4, 2) := by decide +kernel
theorem dX3_digest_283 : decode cX3_digest 283 = .ok (.aload_n 0, 1) := by decide +kernel
theorem dX3_digest_284 : decode cX3_digest 284 = .ok (.getfield 42, 3) := by decide +kernel
theorem dX3_digest_287 : decode cX3_digest 287 = .ok (.invokevirtual 122, 3) := by decide +kernel
theorem dX3_digest_290 : decode cX3_digest 290 = .ok (.iastore, 1) := by decide +kernel
theorem dX3_digest_291 : decode cX3_digest 291 = .ok (.dup, 1) := by decide +kernel
theorem dX3_digest_292 : decode cX3_digest 292 = .ok (.bipush 8, 2) := by decide +kernel
theorem dX3_digest_294 : decode cX3_digest 294 = .ok (.aload_n 0, 1) := by decide +kernel
theorem dX3_digest_295 : decode cX3_digest 295 = .ok (.iload 4, 2) := by decide +kernel
theorem dX3_digest_297 : decode cX3_digest 297 = .ok (.aload_n 0, 1) := by decide +kernel
theorem dX3_digest_298 : decode cX3_digest 298 = .ok (.getfield 45, 3) := by decide +kernel
theorem dX3_digest_301 : decode cX3_digest 301 = .ok (.invokevirtual 116, 3) := by decide +kernel
theorem dX3_digest_304 : decode cX3_digest 304 = .ok (.iastore, 1) := by decide +kernel
theorem dX3_digest_305 : decode cX3_digest 305 = .ok (.dup, 1) := by decide +kernel
theorem dX3_digest_306 : decode cX3_digest 306 = .ok (.bipush 9, 2) := by decide +kernel
theorem dX3_digest_308 : decode cX3_digest 308 = .ok (.aload_n 0, 1) := by decide +kernel
theorem dX3_digest_309 : decode cX3_digest 309 = .ok (.iload 4, 2) := by decide +kernel
theorem dX3_digest_311 : decode cX3_digest 311 = .ok (.aload_n 0, 1) := by decide +kernel
theorem dX3_digest_312 : decode cX3_digest 312 = .ok (.getfield 45, 3) := by decide +kernel
theorem dX3_digest_315 : decode cX3_digest 315 = .ok (.invokevirtual 141, 3) := by decide +kernel
theorem dX3_digest_318 : decode cX3_digest 318 = .ok (.ifCond .eq 7, 3) := by decide +kernel
theorem dX3_digest_321 : decode cX3_digest 321 = .ok (.iconst 1, 1) := by decide +kernel
theorem dX3_digest_322 : decode cX3_digest 322 = .ok (.goto 4, 3) := by decide +kernel
theorem dX3_digest_325 : decode cX3_digest 325 = .ok (.iconst 0, 1) := by decide +kernel
theorem dX3_digest_326 : decode cX3_digest 326 = .ok (.iastore, 1) := by decide +kernel
theorem dX3_digest_327 : decode cX3_digest 327 = .ok (.astore 5, 2) := by decide +kernel
theorem dX3_digest_329 : decode cX3_digest 329 = .ok (.aload 5, 2) := by decide +kernel
theorem dX3_digest_331 : decode cX3_digest 331 = .ok (.astore 6, 2) := by decide +kernel
theorem dX3_digest_333 : decode cX3_digest 333 = .ok (.aload 6, 2) := by decide +kernel
theorem dX3_digest_335 : decode cX3_digest 335 = .ok (.arraylength, 1) := by decide +kernel
theorem dX3_digest_336 : decode cX3_digest 336 = .ok (.istore 7, 2) := by decide +kernel
theorem dX3_digest_338 : decode cX3_digest 338 = .ok (.iconst 0, 1) := by decide +kernel
theorem dX3_digest_339 : decode cX3_digest 339 = .ok (.istore 8, 2) := by decide +kernel
theorem dX3_digest_341 : decode cX3_digest 341 = .ok (.iload 8, 2) := by decide +kernel
theorem dX3_digest_343 : decode cX3_digest 343 = .ok (.iload 7, 2) := by decide +kernel
theorem dX3_digest_345 : decode cX3_digest 345 = .ok (.if_icmp .ge 26, 3) := by decide +kernel
theorem dX3_digest_348 : decode cX3_digest 348 = .ok (.aload 6, 2) := by decide +kernel
theorem dX3_digest_350 : decode cX3_digest 350 = .ok (.iload 8, 2) := by decide +kernel
theorem dX3_digest_352 : decode cX3_digest 352 = .ok (.iaload, 1) := by decide +kernel
theorem dX3_digest_353 : decode cX3_digest 353 = .ok (.istore 9, 2) := by decide +kernel
theorem dX3_digest_355 : decode cX3_digest 355 = .ok (.lload_n 2, 1) := by decide +kernel
theorem dX3_digest_356 : decode cX3_digest 356 = .ok (.ldc2_w 152, 3) := by decide +kernel
theorem dX3_digest_359 : decode cX3_digest 359 = .ok (.lmul, 1) := by decide +kernel
theorem dX3_digest_360 : decode cX3_digest 360 = .ok (.iload 9, 2) := by decide +kernel
theorem dX3_digest_362 : decode cX3_digest 362 = .ok (.i2l, 1) := by decide +kernel
theorem dX3_digest_363 : decode cX3_digest 363 = .ok (.ladd, 1) := by decide +kernel
theorem dX3_digest_364 : decode cX3_digest 364 = .ok (.lstore_n 2, 1) := by decide +kernel
theorem dX3_digest_365 : decode cX3_digest 365 = .ok (.iinc 8 1, 3) := by decide +kernel
theorem dX3_digest_368 : decode cX3_digest 368 = .ok (.goto (-27), 3) := by decide +kernel
theorem dX3_digest_371 : decode cX3_digest 371 = .ok (.iinc 4 1, 3) := by decide +kernel
theorem dX3_digest_374 : decode cX3_digest 374 = .ok (.goto (-179), 3) := by decide +kernel
theorem dX3_digest_377 : decode cX3_digest 377 = .ok (.lload_n 2, 1) := by decide +kernel
theorem dX3_digest_378 : decode cX3_digest 378 = .ok (.lreturn, 1) := by decide +kernel
