theorem dL_setPiece_0 : decode cL_setPiece 0 = .ok (.aload_n 3, 1) := by decide +kernel
theorem dL_setPiece_1 : decode cL_setPiece 1 = .ok (.iconst 0, 1) := by decide +kernel
theorem dL_setPiece_2 : decode cL_setPiece 2 = .ok (.aload_n 0, 1) := by decide +kernel
theorem dL_setPiece_3 : decode cL_setPiece 3 = .ok (.iload_n 1, 1) := by decide +kernel
theorem dL_setPiece_4 : decode cL_setPiece 4 = .ok (.iload_n 2, 1) := by decide +kernel
theorem dL_setPiece_5 : decode cL_setPiece 5 = .ok (.invokevirtual 7, 3) := by decide +kernel
theorem dL_setPiece_8 : decode cL_setPiece 8 = .ok (.i2l, 1) := by decide +kernel
theorem dL_setPiece_9 : decode cL_setPiece 9 = .ok (.lastore, 1) := by decide +kernel
theorem dL_setPiece_10 : decode cL_setPiece 10 = .ok (.goto 11, 3) := by decide +kernel
theorem dL_setPiece_13 : decode cL_setPiece 13 = .ok (.astore 4, 2) := by decide +kernel
theorem dL_setPiece_15 : decode cL_setPiece 15 = .ok (.iconst 1, 1) := by decide +kernel
theorem dL_setPiece_16 : decode cL_setPiece 16 = .ok (.ireturn, 1) := by decide +kernel
theorem dL_setPiece_17 : decode cL_setPiece 17 = .ok (.astore 4, 2) := by decide +kernel
theorem dL_setPiece_19 : decode cL_setPiece 19 = .ok (.iconst 2, 1) := by decide +kernel
theorem dL_setPiece_20 : decode cL_setPiece 20 = .ok (.ireturn, 1) := by decide +kernel
theorem dL_setPiece_21 : decode cL_setPiece 21 = .ok (.iconst 0, 1) := by decide +kernel
theorem dL_setPiece_22 : decode cL_setPiece 22 = .ok (.ireturn, 1) := by decide +kernel
theorem dL_paw_0 : decode cL_paw 0 = .ok (.aload_n 3, 1) := by decide +kernel
theorem dL_paw_1 : decode cL_paw 1 = .ok (.iconst 0, 1) := by decide +kernel
theorem dL_paw_2 : decode cL_paw 2 = .ok (.aload_n 0, 1) := by decide +kernel
theorem dL_paw_3 : decode cL_paw 3 = .ok (.iload_n 1, 1) := by decide +kernel
theorem dL_paw_4 : decode cL_paw 4 = .ok (.iload_n 2, 1) := by decide +kernel
theorem dL_paw_5 : decode cL_paw 5 = .ok (.invokevirtual 17, 3) := by decide +kernel
theorem dL_paw_8 : decode cL_paw 8 = .ok (.i2l, 1) := by decide +kernel
theorem dL_paw_9 : decode cL_paw 9 = .ok (.lastore, 1) := by decide +kernel
theorem dL_paw_10 : decode cL_paw 10 = .ok (.goto 11, 3) := by decide +kernel
theorem dL_paw_13 : decode cL_paw 13 = .ok (.astore 4, 2) := by decide +kernel
theorem dL_paw_15 : decode cL_paw 15 = .ok (.iconst 1, 1) := by decide +kernel
theorem dL_paw_16 : decode cL_paw 16 = .ok (.ireturn, 1) := by decide +kernel
theorem dL_paw_17 : decode cL_paw 17 = .ok (.astore 4, 2) := by decide +kernel
theorem dL_paw_19 : decode cL_paw 19 = .ok (.iconst 2, 1) := by decide +kernel
theorem dL_paw_20 : decode cL_paw 20 = .ok (.ireturn, 1) := by decide +kernel
theorem dL_paw_21 : decode cL_paw 21 = .ok (.iconst 0, 1) := by decide +kernel
theorem dL_paw_22 : decode cL_paw 22 = .ok (.ireturn, 1) := by decide +kernel
theorem dL_undo_0 : decode cL_undo 0 = .ok (.aload_n 2, 1) := by decide +kernel
theorem dL_undo_1 : decode cL_undo 1 = .ok (.iconst 0, 1) := by decide +kernel
theorem dL_undo_2 : decode cL_undo 2 = .ok (.aload_n 0, 1) := by decide +kernel
theorem dL_undo_3 : decode cL_undo 3 = .ok (.iload_n 1, 1) := by decide +kernel
theorem dL_undo_4 : decode cL_undo 4 = .ok (.invokevirtual 20, 3) := by decide +kernel
theorem dL_undo_7 : decode cL_undo 7 = .ok (.i2l, 1) := by decide +kernel
theorem dL_undo_8 : decode cL_undo 8 = .ok (.lastore, 1) := by decide +kernel
theorem dL_undo_9 : decode cL_undo 9 = .ok (.goto 9, 3) := by decide +kernel
theorem dL_undo_12 : decode cL_undo 12 = .ok (.astore_n 3, 1) := by decide +kernel
theorem dL_undo_13 : decode cL_undo 13 = .ok (.iconst 1, 1) := by decide +kernel
theorem dL_undo_14 : decode cL_undo 14 = .ok (.ireturn, 1) := by decide +kernel
theorem dL_undo_15 : decode cL_undo 15 = .ok (.astore_n 3, 1) := by decide +kernel
theorem dL_undo_16 : decode cL_undo 16 = .ok (.iconst 2, 1) := by decide +kernel
theorem dL_undo_17 : decode cL_undo 17 = .ok (.ireturn, 1) := by decide +kernel
theorem dL_undo_18 : decode cL_undo 18 = .ok (.iconst 0, 1) := by decide +kernel
theorem dL_undo_19 : decode cL_undo 19 = .ok (.ireturn, 1) := by decide +kernel
theorem dL_redo_0 : decode cL_redo 0 = .ok (.aload_n 2, 1) := by decide +kernel
theorem dL_redo_1 : decode cL_redo 1 = .ok (.iconst 0, 1) := by decide +kernel
theorem dL_redo_2 : decode cL_redo 2 = .ok (.aload_n 0, 1) := by decide +kernel
theorem dL_redo_3 : decode cL_redo 3 = .ok (.iload_n 1, 1) := by decide +kernel
theorem dL_redo_4 : decode cL_redo 4 = .ok (.invokevirtual 24, 3) := by decide +kernel
theorem dL_redo_7 : decode cL_redo 7 = .ok (.i2l, 1) := by decide +kernel
theorem dL_redo_8 : decode cL_redo 8 = .ok (.lastore, 1) := by decide +kernel
theorem dL_redo_9 : decode cL_redo 9 = .ok (.goto 9, 3) := by decide +kernel
theorem dL_redo_12 : decode cL_redo 12 = .ok (.astore_n 3, 1) := by decide +kernel
theorem dL_redo_13 : decode cL_redo 13 = .ok (.iconst 1, 1) := by decide +kernel
theorem dL_redo_14 : decode cL_redo 14 = .ok (.ireturn, 1) := by decide +kernel
theorem dL_redo_15 : decode cL_redo 15 = .ok (.astore_n 3, 1) := by decide +kernel
theorem dL_redo_16 : decode cL_redo 16 = .ok (.iconst 2, 1) := by decide +kernel
theorem dL_redo_17 : decode cL_redo 17 = .ok (.ireturn, 1) := by decide +kernel
theorem dL_redo_18 : decode cL_redo 18 = .ok (.iconst 0, 1) := by decide +kernel
theorem dL_redo_19 : decode cL_redo 19 = .ok (.ireturn, 1) := by decide +kernel
theorem dL_goTo_0 : decode cL_goTo 0 = .ok (.aload_n 2, 1) := by decide +kernel
theorem dL_goTo_1 : decode cL_goTo 1 = .ok (.iconst 0, 1) := by decide +kernel
theorem dL_goTo_2 : decode cL_goTo 2 = .ok (.aload_n 0, 1) := by decide +kernel
theorem dL_goTo_3 : decode cL_goTo 3 = .ok (.iload_n 1, 1) := by decide +kernel
theorem dL_goTo_4 : decode cL_goTo 4 = .ok (.invokevirtual 27, 3) := by decide +kernel
theorem dL_goTo_7 : decode cL_goTo 7 = .ok (.i2l, 1) := by decide +kernel
theorem dL_goTo_8 : decode cL_goTo 8 = .ok (.lastore, 1) := by decide +kernel
theorem dL_goTo_9 : decode cL_goTo 9 = .ok (.goto 6, 3) := by decide +kernel
theorem dL_goTo_12 : decode cL_goTo 12 = .ok (.astore_n 3, 1) := by decide +kernel
theorem dL_goTo_13 : decode cL_goTo 13 = .ok (.iconst 1, 1) := by decide +kernel
theorem dL_goTo_14 : decode cL_goTo 14 = .ok (.ireturn, 1) := by decide +kernel
theorem dL_goTo_15 : decode cL_goTo 15 = .ok (.iconst 0, 1) := by decide +kernel
theorem dL_goTo_16 : decode cL_goTo 16 = .ok (.ireturn, 1) := by decide +kernel
theorem dL_placeOf_0 : decode cL_placeOf 0 = .ok (.aload_n 2, 1) := by decide +kernel
theorem dL_placeOf_1 : decode cL_placeOf 1 = .ok (.iconst 0, 1) := by decide +kernel
theorem dL_placeOf_2 : decode cL_placeOf 2 = .ok (.aload_n 0, 1) := by decide +kernel
theorem dL_placeOf_3 : decode cL_placeOf 3 = .ok (.iload_n 1, 1) := by decide +kernel
theorem dL_placeOf_4 : decode cL_placeOf 4 = .ok (.invokevirtual 32, 3) := by decide +kernel
theorem dL_placeOf_7 : decode cL_placeOf 7 = .ok (.i2l, 1) := by decide +kernel
theorem dL_placeOf_8 : decode cL_placeOf 8 = .ok (.lastore, 1) := by decide +kernel
theorem dL_placeOf_9 : decode cL_placeOf 9 = .ok (.goto 6, 3) := by decide +kernel
theorem dL_placeOf_12 : decode cL_placeOf 12 = .ok (.astore_n 3, 1) := by decide +kernel
theorem dL_placeOf_13 : decode cL_placeOf 13 = .ok (.iconst 1, 1) := by decide +kernel
theorem dL_placeOf_14 : decode cL_placeOf 14 = .ok (.ireturn, 1) := by decide +kernel
theorem dL_placeOf_15 : decode cL_placeOf 15 = .ok (.iconst 0, 1) := by decide +kernel
theorem dL_placeOf_16 : decode cL_placeOf 16 = .ok (.ireturn, 1) := by decide +kernel
theorem dL_lies_0 : decode cL_lies 0 = .ok (.aload_n 2, 1) := by decide +kernel
theorem dL_lies_1 : decode cL_lies 1 = .ok (.iconst 0, 1) := by decide +kernel
theorem dL_lies_2 : decode cL_lies 2 = .ok (.aload_n 0, 1) := by decide +kernel
theorem dL_lies_3 : decode cL_lies 3 = .ok (.iload_n 1, 1) := by decide +kernel
theorem dL_lies_4 : decode cL_lies 4 = .ok (.invokevirtual 35, 3) := by decide +kernel
theorem dL_lies_7 : decode cL_lies 7 = .ok (.ifCond .eq 7, 3) := by decide +kernel
theorem dL_lies_10 : decode cL_lies 10 = .ok (.lconst 1, 1) := by decide +kernel
theorem dL_lies_11 : decode cL_lies 11 = .ok (.goto 4, 3) := by decide +kernel
theorem dL_lies_14 : decode cL_lies 14 = .ok (.lconst 0, 1) := by decide +kernel
theorem dL_lies_15 : decode cL_lies 15 = .ok (.lastore, 1) := by decide +kernel
theorem dL_lies_16 : decode cL_lies 16 = .ok (.goto 6, 3) := by decide +kernel
theorem dL_lies_19 : decode cL_lies 19 = .ok (.astore_n 3, 1) := by decide +kernel
theorem dL_lies_20 : decode cL_lies 20 = .ok (.iconst 1, 1) := by decide +kernel
theorem dL_lies_21 : decode cL_lies 21 = .ok (.ireturn, 1) := by decide +kernel
theorem dL_lies_22 : decode cL_lies 22 = .ok (.iconst 0, 1) := by decide +kernel
theorem dL_lies_23 : decode cL_lies 23 = .ok (.ireturn, 1) := by decide +kernel
theorem dL_pieceAt_0 : decode cL_pieceAt 0 = .ok (.aload_n 3, 1) := by decide +kernel
theorem dL_pieceAt_1 : decode cL_pieceAt 1 = .ok (.iconst 0, 1) := by decide +kernel
theorem dL_pieceAt_2 : decode cL_pieceAt 2 = .ok (.aload_n 0, 1) := by decide +kernel
theorem dL_pieceAt_3 : decode cL_pieceAt 3 = .ok (.iload_n 1, 1) := by decide +kernel
theorem dL_pieceAt_4 : decode cL_pieceAt 4 = .ok (.iload_n 2, 1) := by decide +kernel
theorem dL_pieceAt_5 : decode cL_pieceAt 5 = .ok (.invokevirtual 39, 3) := by decide +kernel
theorem dL_pieceAt_8 : decode cL_pieceAt 8 = .ok (.i2l, 1) := by decide +kernel
theorem dL_pieceAt_9 : decode cL_pieceAt 9 = .ok (.lastore, 1) := by decide +kernel
theorem dL_pieceAt_10 : decode cL_pieceAt 10 = .ok (.goto 7, 3) := by decide +kernel
theorem dL_pieceAt_13 : decode cL_pieceAt 13 = .ok (.astore 4, 2) := by decide +kernel
theorem dL_pieceAt_15 : decode cL_pieceAt 15 = .ok (.iconst 1, 1) := by decide +kernel
theorem dL_pieceAt_16 : decode cL_pieceAt 16 = .ok (.ireturn, 1) := by decide +kernel
theorem dL_pieceAt_17 : decode cL_pieceAt 17 = .ok (.iconst 0, 1) := by decide +kernel
theorem dL_pieceAt_18 : decode cL_pieceAt 18 = .ok (.ireturn, 1) := by decide +kernel
theorem dL_canDo_0 : decode cL_canDo 0 = .ok (.aload_n 3, 1) := by decide +kernel
theorem dL_canDo_1 : decode cL_canDo 1 = .ok (.iconst 0, 1) := by decide +kernel
theorem dL_canDo_2 : decode cL_canDo 2 = .ok (.aload_n 0, 1) := by decide +kernel
theorem dL_canDo_3 : decode cL_canDo 3 = .ok (.iload_n 1, 1) := by decide +kernel
theorem dL_canDo_4 : decode cL_canDo 4 = .ok (.iload_n 2, 1) := by decide +kernel
theorem dL_canDo_5 : decode cL_canDo 5 = .ok (.invokevirtual 42, 3) := by decide +kernel
theorem dL_canDo_8 : decode cL_canDo 8 = .ok (.ifCond .eq 7, 3) := by decide +kernel
theorem dL_canDo_11 : decode cL_canDo 11 = .ok (.lconst 1, 1) := by decide +kernel
theorem dL_canDo_12 : decode cL_canDo 12 = .ok (.goto 4, 3) := by decide +kernel
theorem dL_canDo_15 : decode cL_canDo 15 = .ok (.lconst 0, 1) := by decide +kernel
theorem dL_canDo_16 : decode cL_canDo 16 = .ok (.lastore, 1) := by decide +kernel
theorem dL_canDo_17 : decode cL_canDo 17 = .ok (.goto 7, 3) := by decide +kernel
theorem dL_canDo_20 : decode cL_canDo 20 = .ok (.astore 4, 2) := by decide +kernel
theorem dL_canDo_22 : decode cL_canDo 22 = .ok (.iconst 1, 1) := by decide +kernel
theorem dL_canDo_23 : decode cL_canDo 23 = .ok (.ireturn, 1) := by decide +kernel
theorem dL_canDo_24 : decode cL_canDo 24 = .ok (.iconst 0, 1) := by decide +kernel
theorem dL_canDo_25 : decode cL_canDo 25 = .ok (.ireturn, 1) := by decide +kernel
theorem dL_hangsOn_0 : decode cL_hangsOn 0 = .ok (.aload_n 2, 1) := by decide +kernel
theorem dL_hangsOn_1 : decode cL_hangsOn 1 = .ok (.iconst 0, 1) := by decide +kernel
theorem dL_hangsOn_2 : decode cL_hangsOn 2 = .ok (.aload_n 0, 1) := by decide +kernel
theorem dL_hangsOn_3 : decode cL_hangsOn 3 = .ok (.iload_n 1, 1) := by decide +kernel
theorem dL_hangsOn_4 : decode cL_hangsOn 4 = .ok (.invokevirtual 46, 3) := by decide +kernel
theorem dL_hangsOn_7 : decode cL_hangsOn 7 = .ok (.i2l, 1) := by decide +kernel
theorem dL_hangsOn_8 : decode cL_hangsOn 8 = .ok (.lastore, 1) := by decide +kernel
theorem dL_hangsOn_9 : decode cL_hangsOn 9 = .ok (.goto 6, 3) := by decide +kernel
theorem dL_hangsOn_12 : decode cL_hangsOn 12 = .ok (.astore_n 3, 1) := by decide +kernel
theorem dL_hangsOn_13 : decode cL_hangsOn 13 = .ok (.iconst 1, 1) := by decide +kernel
theorem dL_hangsOn_14 : decode cL_hangsOn 14 = .ok (.ireturn, 1) := by decide +kernel
theorem dL_hangsOn_15 : decode cL_hangsOn 15 = .ok (.iconst 0, 1) := by decide +kernel
theorem dL_hangsOn_16 : decode cL_hangsOn 16 = .ok (.ireturn, 1) := by decide +kernel
theorem dL_kindOf_0 : decode cL_kindOf 0 = .ok (.aload_n 2, 1) := by decide +kernel
theorem dL_kindOf_1 : decode cL_kindOf 1 = .ok (.iconst 0, 1) := by decide +kernel
theorem dL_kindOf_2 : decode cL_kindOf 2 = .ok (.aload_n 0, 1) := by decide +kernel
theorem dL_kindOf_3 : decode cL_kindOf 3 = .ok (.iload_n 1, 1) := by decide +kernel
theorem dL_kindOf_4 : decode cL_kindOf 4 = .ok (.invokevirtual 49, 3) := by decide +kernel
theorem dL_kindOf_7 : decode cL_kindOf 7 = .ok (.i2l, 1) := by decide +kernel
theorem dL_kindOf_8 : decode cL_kindOf 8 = .ok (.lastore, 1) := by decide +kernel
theorem dL_kindOf_9 : decode cL_kindOf 9 = .ok (.goto 6, 3) := by decide +kernel
