theorem dL_kindOf_12 : decode cL_kindOf 12 = .ok (.astore_n 3, 1) := by decide +kernel
theorem dL_kindOf_13 : decode cL_kindOf 13 = .ok (.iconst 1, 1) := by decide +kernel
theorem dL_kindOf_14 : decode cL_kindOf 14 = .ok (.ireturn, 1) := by decide +kernel
theorem dL_kindOf_15 : decode cL_kindOf 15 = .ok (.iconst 0, 1) := by decide +kernel
theorem dL_kindOf_16 : decode cL_kindOf 16 = .ok (.ireturn, 1) := by decide +kernel
theorem dL_numberOf_0 : decode cL_numberOf 0 = .ok (.aload_n 2, 1) := by decide +kernel
theorem dL_numberOf_1 : decode cL_numberOf 1 = .ok (.iconst 0, 1) := by decide +kernel
theorem dL_numberOf_2 : decode cL_numberOf 2 = .ok (.aload_n 0, 1) := by decide +kernel
theorem dL_numberOf_3 : decode cL_numberOf 3 = .ok (.iload_n 1, 1) := by decide +kernel
theorem dL_numberOf_4 : decode cL_numberOf 4 = .ok (.invokevirtual 52, 3) := by decide +kernel
theorem dL_numberOf_7 : decode cL_numberOf 7 = .ok (.i2l, 1) := by decide +kernel
theorem dL_numberOf_8 : decode cL_numberOf 8 = .ok (.lastore, 1) := by decide +kernel
theorem dL_numberOf_9 : decode cL_numberOf 9 = .ok (.goto 6, 3) := by decide +kernel
theorem dL_numberOf_12 : decode cL_numberOf 12 = .ok (.astore_n 3, 1) := by decide +kernel
theorem dL_numberOf_13 : decode cL_numberOf 13 = .ok (.iconst 1, 1) := by decide +kernel
theorem dL_numberOf_14 : decode cL_numberOf 14 = .ok (.ireturn, 1) := by decide +kernel
theorem dL_numberOf_15 : decode cL_numberOf 15 = .ok (.iconst 0, 1) := by decide +kernel
theorem dL_numberOf_16 : decode cL_numberOf 16 = .ok (.ireturn, 1) := by decide +kernel
theorem dL_depthOf_0 : decode cL_depthOf 0 = .ok (.aload_n 2, 1) := by decide +kernel
theorem dL_depthOf_1 : decode cL_depthOf 1 = .ok (.iconst 0, 1) := by decide +kernel
theorem dL_depthOf_2 : decode cL_depthOf 2 = .ok (.aload_n 0, 1) := by decide +kernel
theorem dL_depthOf_3 : decode cL_depthOf 3 = .ok (.iload_n 1, 1) := by decide +kernel
theorem dL_depthOf_4 : decode cL_depthOf 4 = .ok (.invokevirtual 55, 3) := by decide +kernel
theorem dL_depthOf_7 : decode cL_depthOf 7 = .ok (.i2l, 1) := by decide +kernel
theorem dL_depthOf_8 : decode cL_depthOf 8 = .ok (.lastore, 1) := by decide +kernel
theorem dL_depthOf_9 : decode cL_depthOf 9 = .ok (.goto 6, 3) := by decide +kernel
theorem dL_depthOf_12 : decode cL_depthOf 12 = .ok (.astore_n 3, 1) := by decide +kernel
theorem dL_depthOf_13 : decode cL_depthOf 13 = .ok (.iconst 1, 1) := by decide +kernel
theorem dL_depthOf_14 : decode cL_depthOf 14 = .ok (.ireturn, 1) := by decide +kernel
theorem dL_depthOf_15 : decode cL_depthOf 15 = .ok (.iconst 0, 1) := by decide +kernel
theorem dL_depthOf_16 : decode cL_depthOf 16 = .ok (.ireturn, 1) := by decide +kernel
theorem dL_branches_0 : decode cL_branches 0 = .ok (.aload_n 2, 1) := by decide +kernel
theorem dL_branches_1 : decode cL_branches 1 = .ok (.iconst 0, 1) := by decide +kernel
theorem dL_branches_2 : decode cL_branches 2 = .ok (.aload_n 0, 1) := by decide +kernel
theorem dL_branches_3 : decode cL_branches 3 = .ok (.iload_n 1, 1) := by decide +kernel
theorem dL_branches_4 : decode cL_branches 4 = .ok (.invokevirtual 58, 3) := by decide +kernel
theorem dL_branches_7 : decode cL_branches 7 = .ok (.i2l, 1) := by decide +kernel
theorem dL_branches_8 : decode cL_branches 8 = .ok (.lastore, 1) := by decide +kernel
theorem dL_branches_9 : decode cL_branches 9 = .ok (.goto 6, 3) := by decide +kernel
theorem dL_branches_12 : decode cL_branches 12 = .ok (.astore_n 3, 1) := by decide +kernel
theorem dL_branches_13 : decode cL_branches 13 = .ok (.iconst 1, 1) := by decide +kernel
theorem dL_branches_14 : decode cL_branches 14 = .ok (.ireturn, 1) := by decide +kernel
theorem dL_branches_15 : decode cL_branches 15 = .ok (.iconst 0, 1) := by decide +kernel
theorem dL_branches_16 : decode cL_branches 16 = .ok (.ireturn, 1) := by decide +kernel
theorem dL_behind_0 : decode cL_behind 0 = .ok (.aload_n 2, 1) := by decide +kernel
theorem dL_behind_1 : decode cL_behind 1 = .ok (.iconst 0, 1) := by decide +kernel
theorem dL_behind_2 : decode cL_behind 2 = .ok (.aload_n 0, 1) := by decide +kernel
theorem dL_behind_3 : decode cL_behind 3 = .ok (.iload_n 1, 1) := by decide +kernel
theorem dL_behind_4 : decode cL_behind 4 = .ok (.invokevirtual 61, 3) := by decide +kernel
theorem dL_behind_7 : decode cL_behind 7 = .ok (.i2l, 1) := by decide +kernel
theorem dL_behind_8 : decode cL_behind 8 = .ok (.lastore, 1) := by decide +kernel
theorem dL_behind_9 : decode cL_behind 9 = .ok (.goto 6, 3) := by decide +kernel
theorem dL_behind_12 : decode cL_behind 12 = .ok (.astore_n 3, 1) := by decide +kernel
theorem dL_behind_13 : decode cL_behind 13 = .ok (.iconst 1, 1) := by decide +kernel
theorem dL_behind_14 : decode cL_behind 14 = .ok (.ireturn, 1) := by decide +kernel
theorem dL_behind_15 : decode cL_behind 15 = .ok (.iconst 0, 1) := by decide +kernel
theorem dL_behind_16 : decode cL_behind 16 = .ok (.ireturn, 1) := by decide +kernel
theorem dL_again_0 : decode cL_again 0 = .ok (.aload_n 2, 1) := by decide +kernel
theorem dL_again_1 : decode cL_again 1 = .ok (.iconst 0, 1) := by decide +kernel
theorem dL_again_2 : decode cL_again 2 = .ok (.aload_n 0, 1) := by decide +kernel
theorem dL_again_3 : decode cL_again 3 = .ok (.iload_n 1, 1) := by decide +kernel
theorem dL_again_4 : decode cL_again 4 = .ok (.invokevirtual 64, 3) := by decide +kernel
theorem dL_again_7 : decode cL_again 7 = .ok (.i2l, 1) := by decide +kernel
theorem dL_again_8 : decode cL_again 8 = .ok (.lastore, 1) := by decide +kernel
theorem dL_again_9 : decode cL_again 9 = .ok (.goto 6, 3) := by decide +kernel
theorem dL_again_12 : decode cL_again 12 = .ok (.astore_n 3, 1) := by decide +kernel
theorem dL_again_13 : decode cL_again 13 = .ok (.iconst 1, 1) := by decide +kernel
theorem dL_again_14 : decode cL_again 14 = .ok (.ireturn, 1) := by decide +kernel
theorem dL_again_15 : decode cL_again 15 = .ok (.iconst 0, 1) := by decide +kernel
theorem dL_again_16 : decode cL_again 16 = .ok (.ireturn, 1) := by decide +kernel
theorem dL_meet_0 : decode cL_meet 0 = .ok (.aload_n 3, 1) := by decide +kernel
theorem dL_meet_1 : decode cL_meet 1 = .ok (.iconst 0, 1) := by decide +kernel
theorem dL_meet_2 : decode cL_meet 2 = .ok (.aload_n 0, 1) := by decide +kernel
theorem dL_meet_3 : decode cL_meet 3 = .ok (.iload_n 1, 1) := by decide +kernel
theorem dL_meet_4 : decode cL_meet 4 = .ok (.iload_n 2, 1) := by decide +kernel
theorem dL_meet_5 : decode cL_meet 5 = .ok (.invokevirtual 67, 3) := by decide +kernel
theorem dL_meet_8 : decode cL_meet 8 = .ok (.i2l, 1) := by decide +kernel
theorem dL_meet_9 : decode cL_meet 9 = .ok (.lastore, 1) := by decide +kernel
theorem dL_meet_10 : decode cL_meet 10 = .ok (.goto 7, 3) := by decide +kernel
theorem dL_meet_13 : decode cL_meet 13 = .ok (.astore 4, 2) := by decide +kernel
theorem dL_meet_15 : decode cL_meet 15 = .ok (.iconst 1, 1) := by decide +kernel
theorem dL_meet_16 : decode cL_meet 16 = .ok (.ireturn, 1) := by decide +kernel
theorem dL_meet_17 : decode cL_meet 17 = .ok (.iconst 0, 1) := by decide +kernel
theorem dL_meet_18 : decode cL_meet 18 = .ok (.ireturn, 1) := by decide +kernel
theorem dL_apart_0 : decode cL_apart 0 = .ok (.aload_n 3, 1) := by decide +kernel
theorem dL_apart_1 : decode cL_apart 1 = .ok (.iconst 0, 1) := by decide +kernel
theorem dL_apart_2 : decode cL_apart 2 = .ok (.aload_n 0, 1) := by decide +kernel
theorem dL_apart_3 : decode cL_apart 3 = .ok (.iload_n 1, 1) := by decide +kernel
theorem dL_apart_4 : decode cL_apart 4 = .ok (.iload_n 2, 1) := by decide +kernel
theorem dL_apart_5 : decode cL_apart 5 = .ok (.invokevirtual 70, 3) := by decide +kernel
theorem dL_apart_8 : decode cL_apart 8 = .ok (.i2l, 1) := by decide +kernel
theorem dL_apart_9 : decode cL_apart 9 = .ok (.lastore, 1) := by decide +kernel
theorem dL_apart_10 : decode cL_apart 10 = .ok (.goto 7, 3) := by decide +kernel
theorem dL_apart_13 : decode cL_apart 13 = .ok (.astore 4, 2) := by decide +kernel
theorem dL_apart_15 : decode cL_apart 15 = .ok (.iconst 1, 1) := by decide +kernel
theorem dL_apart_16 : decode cL_apart 16 = .ok (.ireturn, 1) := by decide +kernel
theorem dL_apart_17 : decode cL_apart 17 = .ok (.iconst 0, 1) := by decide +kernel
theorem dL_apart_18 : decode cL_apart 18 = .ok (.ireturn, 1) := by decide +kernel
theorem dL_placeIn_0 : decode cL_placeIn 0 = .ok (.aload_n 3, 1) := by decide +kernel
theorem dL_placeIn_1 : decode cL_placeIn 1 = .ok (.iconst 0, 1) := by decide +kernel
theorem dL_placeIn_2 : decode cL_placeIn 2 = .ok (.aload_n 0, 1) := by decide +kernel
theorem dL_placeIn_3 : decode cL_placeIn 3 = .ok (.iload_n 1, 1) := by decide +kernel
theorem dL_placeIn_4 : decode cL_placeIn 4 = .ok (.iload_n 2, 1) := by decide +kernel
theorem dL_placeIn_5 : decode cL_placeIn 5 = .ok (.invokevirtual 73, 3) := by decide +kernel
theorem dL_placeIn_8 : decode cL_placeIn 8 = .ok (.i2l, 1) := by decide +kernel
theorem dL_placeIn_9 : decode cL_placeIn 9 = .ok (.lastore, 1) := by decide +kernel
theorem dL_placeIn_10 : decode cL_placeIn 10 = .ok (.goto 7, 3) := by decide +kernel
theorem dL_placeIn_13 : decode cL_placeIn 13 = .ok (.astore 4, 2) := by decide +kernel
theorem dL_placeIn_15 : decode cL_placeIn 15 = .ok (.iconst 1, 1) := by decide +kernel
theorem dL_placeIn_16 : decode cL_placeIn 16 = .ok (.ireturn, 1) := by decide +kernel
theorem dL_placeIn_17 : decode cL_placeIn 17 = .ok (.iconst 0, 1) := by decide +kernel
theorem dL_placeIn_18 : decode cL_placeIn 18 = .ok (.ireturn, 1) := by decide +kernel
theorem dL_lyingIn_0 : decode cL_lyingIn 0 = .ok (.aload_n 2, 1) := by decide +kernel
theorem dL_lyingIn_1 : decode cL_lyingIn 1 = .ok (.iconst 0, 1) := by decide +kernel
theorem dL_lyingIn_2 : decode cL_lyingIn 2 = .ok (.aload_n 0, 1) := by decide +kernel
theorem dL_lyingIn_3 : decode cL_lyingIn 3 = .ok (.iload_n 1, 1) := by decide +kernel
theorem dL_lyingIn_4 : decode cL_lyingIn 4 = .ok (.invokevirtual 76, 3) := by decide +kernel
theorem dL_lyingIn_7 : decode cL_lyingIn 7 = .ok (.i2l, 1) := by decide +kernel
theorem dL_lyingIn_8 : decode cL_lyingIn 8 = .ok (.lastore, 1) := by decide +kernel
theorem dL_lyingIn_9 : decode cL_lyingIn 9 = .ok (.goto 6, 3) := by decide +kernel
theorem dL_lyingIn_12 : decode cL_lyingIn 12 = .ok (.astore_n 3, 1) := by decide +kernel
theorem dL_lyingIn_13 : decode cL_lyingIn 13 = .ok (.iconst 1, 1) := by decide +kernel
theorem dL_lyingIn_14 : decode cL_lyingIn 14 = .ok (.ireturn, 1) := by decide +kernel
theorem dL_lyingIn_15 : decode cL_lyingIn 15 = .ok (.iconst 0, 1) := by decide +kernel
theorem dL_lyingIn_16 : decode cL_lyingIn 16 = .ok (.ireturn, 1) := by decide +kernel
theorem dL_areAlike_0 : decode cL_areAlike 0 = .ok (.aload_n 3, 1) := by decide +kernel
theorem dL_areAlike_1 : decode cL_areAlike 1 = .ok (.iconst 0, 1) := by decide +kernel
theorem dL_areAlike_2 : decode cL_areAlike 2 = .ok (.aload_n 0, 1) := by decide +kernel
theorem dL_areAlike_3 : decode cL_areAlike 3 = .ok (.iload_n 1, 1) := by decide +kernel
theorem dL_areAlike_4 : decode cL_areAlike 4 = .ok (.iload_n 2, 1) := by decide +kernel
theorem dL_areAlike_5 : decode cL_areAlike 5 = .ok (.invokevirtual 79, 3) := by decide +kernel
theorem dL_areAlike_8 : decode cL_areAlike 8 = .ok (.ifCond .eq 7, 3) := by decide +kernel
theorem dL_areAlike_11 : decode cL_areAlike 11 = .ok (.lconst 1, 1) := by decide +kernel
theorem dL_areAlike_12 : decode cL_areAlike 12 = .ok (.goto 4, 3) := by decide +kernel
theorem dL_areAlike_15 : decode cL_areAlike 15 = .ok (.lconst 0, 1) := by decide +kernel
theorem dL_areAlike_16 : decode cL_areAlike 16 = .ok (.lastore, 1) := by decide +kernel
theorem dL_areAlike_17 : decode cL_areAlike 17 = .ok (.goto 7, 3) := by decide +kernel
theorem dL_areAlike_20 : decode cL_areAlike 20 = .ok (.astore 4, 2) := by decide +kernel
theorem dL_areAlike_22 : decode cL_areAlike 22 = .ok (.iconst 1, 1) := by decide +kernel
theorem dL_areAlike_23 : decode cL_areAlike 23 = .ok (.ireturn, 1) := by decide +kernel
theorem dL_areAlike_24 : decode cL_areAlike 24 = .ok (.iconst 0, 1) := by decide +kernel
theorem dL_areAlike_25 : decode cL_areAlike 25 = .ok (.ireturn, 1) := by decide +kernel
theorem dL_law_0 : decode cL_law 0 = .ok (.new 8, 3) := by decide +kernel
theorem dL_law_3 : decode cL_law 3 = .ok (.dup, 1) := by decide +kernel
theorem dL_law_4 : decode cL_law 4 = .ok (.invokespecial 82, 3) := by decide +kernel
theorem dL_law_7 : decode cL_law 7 = .ok (.astore_n 1, 1) := by decide +kernel
theorem dL_law_8 : decode cL_law 8 = .ok (.new 83, 3) := by decide +kernel
theorem dL_law_11 : decode cL_law 11 = .ok (.dup, 1) := by decide +kernel
theorem dL_law_12 : decode cL_law 12 = .ok (.invokespecial 85, 3) := by decide +kernel
theorem dL_law_15 : decode cL_law 15 = .ok (.astore_n 2, 1) := by decide +kernel
theorem dL_law_16 : decode cL_law 16 = .ok (.iconst 1, 1) := by decide +kernel
theorem dL_law_17 : decode cL_law 17 = .ok (.newarray .long, 2) := by decide +kernel
theorem dL_law_19 : decode cL_law 19 = .ok (.astore_n 3, 1) := by decide +kernel
theorem dL_law_20 : decode cL_law 20 = .ok (.iconst 0, 1) := by decide +kernel
theorem dL_law_21 : decode cL_law 21 = .ok (.istore 4, 2) := by decide +kernel
theorem dL_law_23 : decode cL_law 23 = .ok (.iload 4, 2) := by decide +kernel
theorem dL_law_25 : decode cL_law 25 = .ok (.aload_n 0, 1) := by decide +kernel
theorem dL_law_26 : decode cL_law 26 = .ok (.arraylength, 1) := by decide +kernel
theorem dL_law_27 : decode cL_law 27 = .ok (.iconst 3, 1) := by decide +kernel
theorem dL_law_28 : decode cL_law 28 = .ok (.isub, 1) := by decide +kernel
