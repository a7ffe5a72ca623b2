theorem dX3_init_0 : decode cX3_init 0 = .ok (.aload_n 0, 1) := by decide +kernel
theorem dX3_init_1 : decode cX3_init 1 = .ok (.invokespecial 1, 3) := by decide +kernel
theorem dX3_init_4 : decode cX3_init 4 = .ok (.aload_n 0, 1) := by decide +kernel
theorem dX3_init_5 : decode cX3_init 5 = .ok (.iconst 0, 1) := by decide +kernel
theorem dX3_init_6 : decode cX3_init 6 = .ok (.anewarray 7, 3) := by decide +kernel
theorem dX3_init_9 : decode cX3_init 9 = .ok (.putfield 9, 3) := by decide +kernel
theorem dX3_init_12 : decode cX3_init 12 = .ok (.aload_n 0, 1) := by decide +kernel
theorem dX3_init_13 : decode cX3_init 13 = .ok (.iconst 1, 1) := by decide +kernel
theorem dX3_init_14 : decode cX3_init 14 = .ok (.anewarray 7, 3) := by decide +kernel
theorem dX3_init_17 : decode cX3_init 17 = .ok (.dup, 1) := by decide +kernel
theorem dX3_init_18 : decode cX3_init 18 = .ok (.iconst 0, 1) := by decide +kernel
theorem dX3_init_19 : decode cX3_init 19 = .ok (.iconst 4, 1) := by decide +kernel
theorem dX3_init_20 : decode cX3_init 20 = .ok (.newarray .int, 2) := by decide +kernel
theorem dX3_init_22 : decode cX3_init 22 = .ok (.dup, 1) := by decide +kernel
theorem dX3_init_23 : decode cX3_init 23 = .ok (.iconst 0, 1) := by decide +kernel
theorem dX3_init_24 : decode cX3_init 24 = .ok (.iconst (-1), 1) := by decide +kernel
theorem dX3_init_25 : decode cX3_init 25 = .ok (.iastore, 1) := by decide +kernel
theorem dX3_init_26 : decode cX3_init 26 = .ok (.dup, 1) := by decide +kernel
theorem dX3_init_27 : decode cX3_init 27 = .ok (.iconst 1, 1) := by decide +kernel
theorem dX3_init_28 : decode cX3_init 28 = .ok (.iconst (-1), 1) := by decide +kernel
theorem dX3_init_29 : decode cX3_init 29 = .ok (.iastore, 1) := by decide +kernel
theorem dX3_init_30 : decode cX3_init 30 = .ok (.dup, 1) := by decide +kernel
theorem dX3_init_31 : decode cX3_init 31 = .ok (.iconst 2, 1) := by decide +kernel
theorem dX3_init_32 : decode cX3_init 32 = .ok (.iconst (-1), 1) := by decide +kernel
theorem dX3_init_33 : decode cX3_init 33 = .ok (.iastore, 1) := by decide +kernel
theorem dX3_init_34 : decode cX3_init 34 = .ok (.dup, 1) := by decide +kernel
theorem dX3_init_35 : decode cX3_init 35 = .ok (.iconst 3, 1) := by decide +kernel
theorem dX3_init_36 : decode cX3_init 36 = .ok (.iconst 0, 1) := by decide +kernel
theorem dX3_init_37 : decode cX3_init 37 = .ok (.iastore, 1) := by decide +kernel
theorem dX3_init_38 : decode cX3_init 38 = .ok (.aastore, 1) := by decide +kernel
theorem dX3_init_39 : decode cX3_init 39 = .ok (.putfield 15, 3) := by decide +kernel
theorem dX3_init_42 : decode cX3_init 42 = .ok (.return_, 1) := by decide +kernel
theorem dX3_with_0 : decode cX3_with 0 = .ok (.aload_n 0, 1) := by decide +kernel
theorem dX3_with_1 : decode cX3_with 1 = .ok (.arraylength, 1) := by decide +kernel
theorem dX3_with_2 : decode cX3_with 2 = .ok (.iconst 1, 1) := by decide +kernel
theorem dX3_with_3 : decode cX3_with 3 = .ok (.iadd, 1) := by decide +kernel
theorem dX3_with_4 : decode cX3_with 4 = .ok (.anewarray 7, 3) := by decide +kernel
theorem dX3_with_7 : decode cX3_with 7 = .ok (.astore_n 2, 1) := by decide +kernel
theorem dX3_with_8 : decode cX3_with 8 = .ok (.iconst 0, 1) := by decide +kernel
theorem dX3_with_9 : decode cX3_with 9 = .ok (.istore_n 3, 1) := by decide +kernel
theorem dX3_with_10 : decode cX3_with 10 = .ok (.iload_n 3, 1) := by decide +kernel
theorem dX3_with_11 : decode cX3_with 11 = .ok (.aload_n 0, 1) := by decide +kernel
theorem dX3_with_12 : decode cX3_with 12 = .ok (.arraylength, 1) := by decide +kernel
theorem dX3_with_13 : decode cX3_with 13 = .ok (.if_icmp .ge 15, 3) := by decide +kernel
theorem dX3_with_16 : decode cX3_with 16 = .ok (.aload_n 2, 1) := by decide +kernel
theorem dX3_with_17 : decode cX3_with 17 = .ok (.iload_n 3, 1) := by decide +kernel
theorem dX3_with_18 : decode cX3_with 18 = .ok (.aload_n 0, 1) := by decide +kernel
theorem dX3_with_19 : decode cX3_with 19 = .ok (.iload_n 3, 1) := by decide +kernel
theorem dX3_with_20 : decode cX3_with 20 = .ok (.aaload, 1) := by decide +kernel
theorem dX3_with_21 : decode cX3_with 21 = .ok (.aastore, 1) := by decide +kernel
theorem dX3_with_22 : decode cX3_with 22 = .ok (.iinc 3 1, 3) := by decide +kernel
theorem dX3_with_25 : decode cX3_with 25 = .ok (.goto (-15), 3) := by decide +kernel
theorem dX3_with_28 : decode cX3_with 28 = .ok (.aload_n 2, 1) := by decide +kernel
theorem dX3_with_29 : decode cX3_with 29 = .ok (.aload_n 0, 1) := by decide +kernel
theorem dX3_with_30 : decode cX3_with 30 = .ok (.arraylength, 1) := by decide +kernel
theorem dX3_with_31 : decode cX3_with 31 = .ok (.aload_n 1, 1) := by decide +kernel
theorem dX3_with_32 : decode cX3_with 32 = .ok (.aastore, 1) := by decide +kernel
theorem dX3_with_33 : decode cX3_with 33 = .ok (.aload_n 2, 1) := by decide +kernel
theorem dX3_with_34 : decode cX3_with 34 = .ok (.areturn, 1) := by decide +kernel
theorem dX3_be_0 : decode cX3_be 0 = .ok (.aload_n 0, 1) := by decide +kernel
theorem dX3_be_1 : decode cX3_be 1 = .ok (.iload_n 1, 1) := by decide +kernel
theorem dX3_be_2 : decode cX3_be 2 = .ok (.putfield 18, 3) := by decide +kernel
theorem dX3_be_5 : decode cX3_be 5 = .ok (.aload_n 0, 1) := by decide +kernel
theorem dX3_be_6 : decode cX3_be 6 = .ok (.dup, 1) := by decide +kernel
theorem dX3_be_7 : decode cX3_be 7 = .ok (.getfield 22, 3) := by decide +kernel
theorem dX3_be_10 : decode cX3_be 10 = .ok (.iconst 1, 1) := by decide +kernel
theorem dX3_be_11 : decode cX3_be 11 = .ok (.iadd, 1) := by decide +kernel
theorem dX3_be_12 : decode cX3_be 12 = .ok (.putfield 22, 3) := by decide +kernel
theorem dX3_be_15 : decode cX3_be 15 = .ok (.aload_n 0, 1) := by decide +kernel
theorem dX3_be_16 : decode cX3_be 16 = .ok (.getfield 15, 3) := by decide +kernel
theorem dX3_be_19 : decode cX3_be 19 = .ok (.iload_n 1, 1) := by decide +kernel
theorem dX3_be_20 : decode cX3_be 20 = .ok (.aaload, 1) := by decide +kernel
theorem dX3_be_21 : decode cX3_be 21 = .ok (.iconst 3, 1) := by decide +kernel
theorem dX3_be_22 : decode cX3_be 22 = .ok (.aload_n 0, 1) := by decide +kernel
theorem dX3_be_23 : decode cX3_be 23 = .ok (.getfield 22, 3) := by decide +kernel
theorem dX3_be_26 : decode cX3_be 26 = .ok (.iastore, 1) := by decide +kernel
theorem dX3_be_27 : decode cX3_be 27 = .ok (.return_, 1) := by decide +kernel
theorem dX3_depth_0 : decode cX3_depth 0 = .ok (.iconst 0, 1) := by decide +kernel
theorem dX3_depth_1 : decode cX3_depth 1 = .ok (.istore_n 2, 1) := by decide +kernel
theorem dX3_depth_2 : decode cX3_depth 2 = .ok (.iload_n 1, 1) := by decide +kernel
theorem dX3_depth_3 : decode cX3_depth 3 = .ok (.istore_n 3, 1) := by decide +kernel
theorem dX3_depth_4 : decode cX3_depth 4 = .ok (.aload_n 0, 1) := by decide +kernel
theorem dX3_depth_5 : decode cX3_depth 5 = .ok (.getfield 15, 3) := by decide +kernel
theorem dX3_depth_8 : decode cX3_depth 8 = .ok (.iload_n 3, 1) := by decide +kernel
theorem dX3_depth_9 : decode cX3_depth 9 = .ok (.aaload, 1) := by decide +kernel
theorem dX3_depth_10 : decode cX3_depth 10 = .ok (.iconst 0, 1) := by decide +kernel
theorem dX3_depth_11 : decode cX3_depth 11 = .ok (.iaload, 1) := by decide +kernel
theorem dX3_depth_12 : decode cX3_depth 12 = .ok (.ifCond .lt 18, 3) := by decide +kernel
theorem dX3_depth_15 : decode cX3_depth 15 = .ok (.iinc 2 1, 3) := by decide +kernel
theorem dX3_depth_18 : decode cX3_depth 18 = .ok (.aload_n 0, 1) := by decide +kernel
theorem dX3_depth_19 : decode cX3_depth 19 = .ok (.getfield 15, 3) := by decide +kernel
theorem dX3_depth_22 : decode cX3_depth 22 = .ok (.iload_n 3, 1) := by decide +kernel
theorem dX3_depth_23 : decode cX3_depth 23 = .ok (.aaload, 1) := by decide +kernel
theorem dX3_depth_24 : decode cX3_depth 24 = .ok (.iconst 0, 1) := by decide +kernel
theorem dX3_depth_25 : decode cX3_depth 25 = .ok (.iaload, 1) := by decide +kernel
theorem dX3_depth_26 : decode cX3_depth 26 = .ok (.istore_n 3, 1) := by decide +kernel
theorem dX3_depth_27 : decode cX3_depth 27 = .ok (.goto (-23), 3) := by decide +kernel
theorem dX3_depth_30 : decode cX3_depth 30 = .ok (.iload_n 2, 1) := by decide +kernel
theorem dX3_depth_31 : decode cX3_depth 31 = .ok (.ireturn, 1) := by decide +kernel
theorem dX3_isBelow_0 : decode cX3_isBelow 0 = .ok (.iload_n 1, 1) := by decide +kernel
theorem dX3_isBelow_1 : decode cX3_isBelow 1 = .ok (.istore_n 3, 1) := by decide +kernel
theorem dX3_isBelow_2 : decode cX3_isBelow 2 = .ok (.iload_n 3, 1) := by decide +kernel
theorem dX3_isBelow_3 : decode cX3_isBelow 3 = .ok (.ifCond .lt 22, 3) := by decide +kernel
theorem dX3_isBelow_6 : decode cX3_isBelow 6 = .ok (.iload_n 3, 1) := by decide +kernel
theorem dX3_isBelow_7 : decode cX3_isBelow 7 = .ok (.iload_n 2, 1) := by decide +kernel
theorem dX3_isBelow_8 : decode cX3_isBelow 8 = .ok (.if_icmp .ne 5, 3) := by decide +kernel
theorem dX3_isBelow_11 : decode cX3_isBelow 11 = .ok (.iconst 1, 1) := by decide +kernel
theorem dX3_isBelow_12 : decode cX3_isBelow 12 = .ok (.ireturn, 1) := by decide +kernel
theorem dX3_isBelow_13 : decode cX3_isBelow 13 = .ok (.aload_n 0, 1) := by decide +kernel
theorem dX3_isBelow_14 : decode cX3_isBelow 14 = .ok (.getfield 15, 3) := by decide +kernel
theorem dX3_isBelow_17 : decode cX3_isBelow 17 = .ok (.iload_n 3, 1) := by decide +kernel
theorem dX3_isBelow_18 : decode cX3_isBelow 18 = .ok (.aaload, 1) := by decide +kernel
theorem dX3_isBelow_19 : decode cX3_isBelow 19 = .ok (.iconst 0, 1) := by decide +kernel
theorem dX3_isBelow_20 : decode cX3_isBelow 20 = .ok (.iaload, 1) := by decide +kernel
theorem dX3_isBelow_21 : decode cX3_isBelow 21 = .ok (.istore_n 3, 1) := by decide +kernel
theorem dX3_isBelow_22 : decode cX3_isBelow 22 = .ok (.goto (-20), 3) := by decide +kernel
theorem dX3_isBelow_25 : decode cX3_isBelow 25 = .ok (.iconst 0, 1) := by decide +kernel
theorem dX3_isBelow_26 : decode cX3_isBelow 26 = .ok (.ireturn, 1) := by decide +kernel
theorem dX3_meet_0 : decode cX3_meet 0 = .ok (.iload_n 1, 1) := by decide +kernel
theorem dX3_meet_1 : decode cX3_meet 1 = .ok (.istore_n 3, 1) := by decide +kernel
theorem dX3_meet_2 : decode cX3_meet 2 = .ok (.aload_n 0, 1) := by decide +kernel
theorem dX3_meet_3 : decode cX3_meet 3 = .ok (.iload_n 2, 1) := by decide +kernel
theorem dX3_meet_4 : decode cX3_meet 4 = .ok (.iload_n 3, 1) := by decide +kernel
theorem dX3_meet_5 : decode cX3_meet 5 = .ok (.invokevirtual 25, 3) := by decide +kernel
theorem dX3_meet_8 : decode cX3_meet 8 = .ok (.ifCond .ne 15, 3) := by decide +kernel
theorem dX3_meet_11 : decode cX3_meet 11 = .ok (.aload_n 0, 1) := by decide +kernel
theorem dX3_meet_12 : decode cX3_meet 12 = .ok (.getfield 15, 3) := by decide +kernel
theorem dX3_meet_15 : decode cX3_meet 15 = .ok (.iload_n 3, 1) := by decide +kernel
theorem dX3_meet_16 : decode cX3_meet 16 = .ok (.aaload, 1) := by decide +kernel
theorem dX3_meet_17 : decode cX3_meet 17 = .ok (.iconst 0, 1) := by decide +kernel
theorem dX3_meet_18 : decode cX3_meet 18 = .ok (.iaload, 1) := by decide +kernel
theorem dX3_meet_19 : decode cX3_meet 19 = .ok (.istore_n 3, 1) := by decide +kernel
theorem dX3_meet_20 : decode cX3_meet 20 = .ok (.goto (-18), 3) := by decide +kernel
theorem dX3_meet_23 : decode cX3_meet 23 = .ok (.iload_n 3, 1) := by decide +kernel
theorem dX3_meet_24 : decode cX3_meet 24 = .ok (.ireturn, 1) := by decide +kernel
theorem dX3_apart_0 : decode cX3_apart 0 = .ok (.aload_n 0, 1) := by decide +kernel
theorem dX3_apart_1 : decode cX3_apart 1 = .ok (.iload_n 1, 1) := by decide +kernel
theorem dX3_apart_2 : decode cX3_apart 2 = .ok (.invokevirtual 29, 3) := by decide +kernel
theorem dX3_apart_5 : decode cX3_apart 5 = .ok (.aload_n 0, 1) := by decide +kernel
theorem dX3_apart_6 : decode cX3_apart 6 = .ok (.iload_n 2, 1) := by decide +kernel
theorem dX3_apart_7 : decode cX3_apart 7 = .ok (.invokevirtual 29, 3) := by decide +kernel
theorem dX3_apart_10 : decode cX3_apart 10 = .ok (.iadd, 1) := by decide +kernel
theorem dX3_apart_11 : decode cX3_apart 11 = .ok (.iconst 2, 1) := by decide +kernel
theorem dX3_apart_12 : decode cX3_apart 12 = .ok (.aload_n 0, 1) := by decide +kernel
theorem dX3_apart_13 : decode cX3_apart 13 = .ok (.aload_n 0, 1) := by decide +kernel
theorem dX3_apart_14 : decode cX3_apart 14 = .ok (.iload_n 1, 1) := by decide +kernel
theorem dX3_apart_15 : decode cX3_apart 15 = .ok (.iload_n 2, 1) := by decide +kernel
theorem dX3_apart_16 : decode cX3_apart 16 = .ok (.invokevirtual 33, 3) := by decide +kernel
theorem dX3_apart_19 : decode cX3_apart 19 = .ok (.invokevirtual 29, 3) := by decide +kernel
theorem dX3_apart_22 : decode cX3_apart 22 = .ok (.imul, 1) := by decide +kernel
theorem dX3_apart_23 : decode cX3_apart 23 = .ok (.isub, 1) := by decide +kernel
theorem dX3_apart_24 : decode cX3_apart 24 = .ok (.ireturn, 1) := by decide +kernel
theorem dX3_again_0 : decode cX3_again 0 = .ok (.iconst (-1), 1) := by decide +kernel
theorem dX3_again_1 : decode cX3_again 1 = .ok (.istore_n 2, 1) := by decide +kernel
theorem dX3_again_2 : decode cX3_again 2 = .ok (.iconst 1, 1) := by decide +kernel
theorem dX3_again_3 : decode cX3_again 3 = .ok (.istore_n 3, 1) := by decide +kernel
theorem dX3_again_4 : decode cX3_again 4 = .ok (.iload_n 3, 1) := by decide +kernel
theorem dX3_again_5 : decode cX3_again 5 = .ok (.aload_n 0, 1) := by decide +kernel
theorem dX3_again_6 : decode cX3_again 6 = .ok (.getfield 15, 3) := by decide +kernel
theorem dX3_again_9 : decode cX3_again 9 = .ok (.arraylength, 1) := by decide +kernel
theorem dX3_again_10 : decode cX3_again 10 = .ok (.if_icmp .ge 46, 3) := by decide +kernel
theorem dX3_again_13 : decode cX3_again 13 = .ok (.aload_n 0, 1) := by decide +kernel
theorem dX3_again_14 : decode cX3_again 14 = .ok (.getfield 15, 3) := by decide +kernel
theorem dX3_again_17 : decode cX3_again 17 = .ok (.iload_n 3, 1) := by decide +kernel
theorem dX3_again_18 : decode cX3_again 18 = .ok (.aaload, 1) := by decide +kernel
theorem dX3_again_19 : decode cX3_again 19 = .ok (.iconst 0, 1) := by decide +kernel
theorem dX3_again_20 : decode cX3_again 20 = .ok (.iaload, 1) := by decide +kernel
theorem dX3_again_21 : decode cX3_again 21 = .ok (.iload_n 1, 1) := by decide +kernel
theorem dX3_again_22 : decode cX3_again 22 = .ok (.if_icmp .ne 28, 3) := by decide +kernel
theorem dX3_again_25 : decode cX3_again 25 = .ok (.iload_n 2, 1) := by decide +kernel
theorem dX3_again_26 : decode cX3_again 26 = .ok (.ifCond .lt 22, 3) := by decide +kernel
theorem dX3_again_29 : decode cX3_again 29 = .ok (.aload_n 0, 1) := by decide +kernel
theorem dX3_again_30 : decode cX3_again 30 = .ok (.getfield 15, 3) := by decide +kernel
theorem dX3_again_33 : decode cX3_again 33 = .ok (.iload_n 3, 1) := by decide +kernel
theorem dX3_again_34 : decode cX3_again 34 = .ok (.aaload, 1) := by decide +kernel
theorem dX3_again_35 : decode cX3_again 35 = .ok (.iconst 3, 1) := by decide +kernel
theorem dX3_again_36 : decode cX3_again 36 = .ok (.iaload, 1) := by decide +kernel
theorem dX3_again_37 : decode cX3_again 37 = .ok (.aload_n 0, 1) := by decide +kernel
theorem dX3_again_38 : decode cX3_again 38 = .ok (.getfield 15, 3) := by decide +kernel
theorem dX3_again_41 : decode cX3_again 41 = .ok (.iload_n 2, 1) := by decide +kernel
theorem dX3_again_42 : decode cX3_again 42 = .ok (.aaload, 1) := by decide +kernel
theorem dX3_again_43 : decode cX3_again 43 = .ok (.iconst 3, 1) := by decide +kernel
theorem dX3_again_44 : decode cX3_again 44 = .ok (.iaload, 1) := by decide +kernel
theorem dX3_again_45 : decode cX3_again 45 = .ok (.if_icmp .le 5, 3) := by decide +kernel
theorem dX3_again_48 : decode cX3_again 48 = .ok (.iload_n 3, 1) := by decide +kernel
theorem dX3_again_49 : decode cX3_again 49 = .ok (.istore_n 2, 1) := by decide +kernel
theorem dX3_again_50 : decode cX3_again 50 = .ok (.iinc 3 1, 3) := by decide +kernel
theorem dX3_again_53 : decode cX3_again 53 = .ok (.goto (-49), 3) := by decide +kernel
theorem dX3_again_56 : decode cX3_again 56 = .ok (.iload_n 2, 1) := by decide +kernel
theorem dX3_again_57 : decode cX3_again 57 = .ok (.ireturn, 1) := by decide +kernel
theorem dX3_state_0 : decode cX3_state 0 = .ok (.iload_n 1, 1) := by decide +kernel
theorem dX3_state_1 : decode cX3_state 1 = .ok (.ifCond .ne 64, 3) := by decide +kernel
theorem dX3_state_4 : decode cX3_state 4 = .ok (.iconst 2, 1) := by decide +kernel
theorem dX3_state_5 : decode cX3_state 5 = .ok (.iconst 3, 1) := by decide +kernel
theorem dX3_state_6 : decode cX3_state 6 = .ok (.aload_n 0, 1) := by decide +kernel
theorem dX3_state_7 : decode cX3_state 7 = .ok (.getfield 9, 3) := by decide +kernel
theorem dX3_state_10 : decode cX3_state 10 = .ok (.arraylength, 1) := by decide +kernel
theorem dX3_state_11 : decode cX3_state 11 = .ok (.imul, 1) := by decide +kernel
theorem dX3_state_12 : decode cX3_state 12 = .ok (.iadd, 1) := by decide +kernel
theorem dX3_state_13 : decode cX3_state 13 = .ok (.newarray .int, 2) := by decide +kernel
theorem dX3_state_15 : decode cX3_state 15 = .ok (.astore_n 2, 1) := by decide +kernel
theorem dX3_state_16 : decode cX3_state 16 = .ok (.iconst 0, 1) := by decide +kernel
theorem dX3_state_17 : decode cX3_state 17 = .ok (.istore_n 3, 1) := by decide +kernel
theorem dX3_state_18 : decode cX3_state 18 = .ok (.iload_n 3, 1) := by decide +kernel
theorem dX3_state_19 : decode cX3_state 19 = .ok (.aload_n 0, 1) := by decide +kernel
theorem dX3_state_20 : decode cX3_state 20 = .ok (.getfield 9, 3) := by decide +kernel
theorem dX3_state_23 : decode cX3_state 23 = .ok (.arraylength, 1) := by decide +kernel
theorem dX3_state_24 : decode cX3_state 24 = .ok (.if_icmp .ge 39, 3) := by decide +kernel
theorem dX3_state_27 : decode cX3_state 27 = .ok (.aload_n 2, 1) := by decide +kernel
theorem dX3_state_28 : decode cX3_state 28 = .ok (.iconst 2, 1) := by decide +kernel
theorem dX3_state_29 : decode cX3_state 29 = .ok (.iconst 3, 1) := by decide +kernel
theorem dX3_state_30 : decode cX3_state 30 = .ok (.iload_n 3, 1) := by decide +kernel
theorem dX3_state_31 : decode cX3_state 31 = .ok (.imul, 1) := by decide +kernel
theorem dX3_state_32 : decode cX3_state 32 = .ok (.iadd, 1) := by decide +kernel
theorem dX3_state_33 : decode cX3_state 33 = .ok (.aload_n 0, 1) := by decide +kernel
theorem dX3_state_34 : decode cX3_state 34 = .ok (.getfield 9, 3) := by decide +kernel
theorem dX3_state_37 : decode cX3_state 37 = .ok (.iload_n 3, 1) := by decide +kernel
theorem dX3_state_38 : decode cX3_state 38 = .ok (.aaload, 1) := by decide +kernel
theorem dX3_state_39 : decode cX3_state 39 = .ok (.iconst 0, 1) := by decide +kernel
theorem dX3_state_40 : decode cX3_state 40 = .ok (.iaload, 1) := by decide +kernel
theorem dX3_state_41 : decode cX3_state 41 = .ok (.iastore, 1) := by decide +kernel
theorem dX3_state_42 : decode cX3_state 42 = .ok (.aload_n 2, 1) := by decide +kernel
theorem dX3_state_43 : decode cX3_state 43 = .ok (.iconst 3, 1) := by decide +kernel
theorem dX3_state_44 : decode cX3_state 44 = .ok (.iconst 3, 1) := by decide +kernel
theorem dX3_state_45 : decode cX3_state 45 = .ok (.iload_n 3, 1) := by decide +kernel
theorem dX3_state_46 : decode cX3_state 46 = .ok (.imul, 1) := by decide +kernel
theorem dX3_state_47 : decode cX3_state 47 = .ok (.iadd, 1) := by decide +kernel
theorem dX3_state_48 : decode cX3_state 48 = .ok (.aload_n 0, 1) := by decide +kernel
theorem dX3_state_49 : decode cX3_state 49 = .ok (.getfield 9, 3) := by decide +kernel
theorem dX3_state_52 : decode cX3_state 52 = .ok (.iload_n 3, 1) := by decide +kernel
theorem dX3_state_53 : decode cX3_state 53 = .ok (.aaload, 1) := by decide +kernel
theorem dX3_state_54 : decode cX3_state 54 = .ok (.iconst 1, 1) := by decide +kernel
theorem dX3_state_55 : decode cX3_state 55 = .ok (.iaload, 1) := by decide +kernel
theorem dX3_state_56 : decode cX3_state 56 = .ok (.iastore, 1) := by decide +kernel
theorem dX3_state_57 : decode cX3_state 57 = .ok (.iinc 3 1, 3) := by decide +kernel
theorem dX3_state_60 : decode cX3_state 60 = .ok (.goto (-42), 3) := by decide +kernel
theorem dX3_state_63 : decode cX3_state 63 = .ok (.aload_n 2, 1) := by decide +kernel
theorem dX3_state_64 : decode cX3_state 64 = .ok (.areturn, 1) := by decide +kernel
theorem dX3_state_65 : decode cX3_state 65 = .ok (.aload_n 0, 1) := by decide +kernel
theorem dX3_state_66 : decode cX3_state 66 = .ok (.aload_n 0, 1) := by decide +kernel
theorem dX3_state_67 : decode cX3_state 67 = .ok (.getfield 15, 3) := by decide +kernel
theorem dX3_state_70 : decode cX3_state 70 = .ok (.iload_n 1, 1) := by decide +kernel
theorem dX3_state_71 : decode cX3_state 71 = .ok (.aaload, 1) := by decide +kernel
theorem dX3_state_72 : decode cX3_state 72 = .ok (.iconst 0, 1) := by decide +kernel
theorem dX3_state_73 : decode cX3_state 73 = .ok (.iaload, 1) := by decide +kernel
theorem dX3_state_74 : decode cX3_state 74 = .ok (.invokevirtual 37, 3) := by decide +kernel
theorem dX3_state_77 : decode cX3_state 77 = .ok (.astore_n 2, 1) := by decide +kernel
theorem dX3_state_78 : decode cX3_state 78 = .ok (.aload_n 2, 1) := by decide +kernel
theorem dX3_state_79 : decode cX3_state 79 = .ok (.aload_n 0, 1) := by decide +kernel
theorem dX3_state_80 : decode cX3_state 80 = .ok (.getfield 15, 3) := by decide +kernel
theorem dX3_state_83 : decode cX3_state 83 = .ok (.iload_n 1, 1) := by decide +kernel
theorem dX3_state_84 : decode cX3_state 84 = .ok (.aaload, 1) := by decide +kernel
theorem dX3_state_85 : decode cX3_state 85 = .ok (.iconst 1, 1) := by decide +kernel
theorem dX3_state_86 : decode cX3_state 86 = .ok (.iaload, 1) := by decide +kernel
theorem dX3_state_87 : decode cX3_state 87 = .ok (.aload_n 0, 1) := by decide +kernel
theorem dX3_state_88 : decode cX3_state 88 = .ok (.getfield 15, 3) := by decide +kernel
theorem dX3_state_91 : decode cX3_state 91 = .ok (.iload_n 1, 1) := by decide +kernel
theorem dX3_state_92 : decode cX3_state 92 = .ok (.aaload, 1) := by decide +kernel
theorem dX3_state_93 : decode cX3_state 93 = .ok (.iconst 2, 1) := by decide +kernel
theorem dX3_state_94 : decode cX3_state 94 = .ok (.iaload, 1) := by decide +kernel
theorem dX3_state_95 : decode cX3_state 95 = .ok (.invokestatic 41, 3) := by decide +kernel
theorem dX3_state_98 : decode cX3_state 98 = .ok (.pop, 1) := by decide +kernel
theorem dX3_state_99 : decode cX3_state 99 = .ok (.aload_n 2, 1) := by decide +kernel
theorem dX3_state_100 : decode cX3_state 100 = .ok (.areturn, 1) := by decide +kernel
theorem dX3_aside_0 : decode cX3_aside 0 = .ok (.iload_n 0, 1) := by decide +kernel
theorem dX3_aside_1 : decode cX3_aside 1 = .ok (.ifCond .le 12, 3) := by decide +kernel
theorem dX3_aside_4 : decode cX3_aside 4 = .ok (.iload_n 0, 1) := by decide +kernel
theorem dX3_aside_5 : decode cX3_aside 5 = .ok (.iconst 4, 1) := by decide +kernel
theorem dX3_aside_6 : decode cX3_aside 6 = .ok (.if_icmp .ge 7, 3) := by decide +kernel
theorem dX3_aside_9 : decode cX3_aside 9 = .ok (.iconst 1, 1) := by decide +kernel
theorem dX3_aside_10 : decode cX3_aside 10 = .ok (.goto 13, 3) := by decide +kernel
theorem dX3_aside_13 : decode cX3_aside 13 = .ok (.iload_n 0, 1) := by decide +kernel
theorem dX3_aside_14 : decode cX3_aside 14 = .ok (.iconst 4, 1) := by decide +kernel
theorem dX3_aside_15 : decode cX3_aside 15 = .ok (.if_icmp .le 7, 3) := by decide +kernel
theorem dX3_aside_18 : decode cX3_aside 18 = .ok (.iconst (-1), 1) := by decide +kernel
theorem dX3_aside_19 : decode cX3_aside 19 = .ok (.goto 4, 3) := by decide +kernel
theorem dX3_aside_22 : decode cX3_aside 22 = .ok (.iconst 0, 1) := by decide +kernel
theorem dX3_aside_23 : decode cX3_aside 23 = .ok (.ireturn, 1) := by decide +kernel
theorem dX3_ahead_0 : decode cX3_ahead 0 = .ok (.iload_n 0, 1) := by decide +kernel
theorem dX3_ahead_1 : decode cX3_ahead 1 = .ok (.iconst 2, 1) := by decide +kernel
theorem dX3_ahead_2 : decode cX3_ahead 2 = .ok (.if_icmp .lt 9, 3) := by decide +kernel
theorem dX3_ahead_5 : decode cX3_ahead 5 = .ok (.iload_n 0, 1) := by decide +kernel
theorem dX3_ahead_6 : decode cX3_ahead 6 = .ok (.bipush 7, 2) := by decide +kernel
theorem dX3_ahead_8 : decode cX3_ahead 8 = .ok (.if_icmp .ne 7, 3) := by decide +kernel
theorem dX3_ahead_11 : decode cX3_ahead 11 = .ok (.iconst 1, 1) := by decide +kernel
theorem dX3_ahead_12 : decode cX3_ahead 12 = .ok (.goto 19, 3) := by decide +kernel
theorem dX3_ahead_15 : decode cX3_ahead 15 = .ok (.iload_n 0, 1) := by decide +kernel
theorem dX3_ahead_16 : decode cX3_ahead 16 = .ok (.iconst 2, 1) := by decide +kernel
theorem dX3_ahead_17 : decode cX3_ahead 17 = .ok (.if_icmp .le 13, 3) := by decide +kernel
theorem dX3_ahead_20 : decode cX3_ahead 20 = .ok (.iload_n 0, 1) := by decide +kernel
theorem dX3_ahead_21 : decode cX3_ahead 21 = .ok (.bipush 6, 2) := by decide +kernel
theorem dX3_ahead_23 : decode cX3_ahead 23 = .ok (.if_icmp .ge 7, 3) := by decide +kernel
theorem dX3_ahead_26 : decode cX3_ahead 26 = .ok (.iconst (-1), 1) := by decide +kernel
theorem dX3_ahead_27 : decode cX3_ahead 27 = .ok (.goto 4, 3) := by decide +kernel
theorem dX3_ahead_30 : decode cX3_ahead 30 = .ok (.iconst 0, 1) := by decide +kernel
theorem dX3_ahead_31 : decode cX3_ahead 31 = .ok (.ireturn, 1) := by decide +kernel
theorem dX3_pieceAt_0 : decode cX3_pieceAt 0 = .ok (.iconst 2, 1) := by decide +kernel
theorem dX3_pieceAt_1 : decode cX3_pieceAt 1 = .ok (.istore_n 3, 1) := by decide +kernel
theorem dX3_pieceAt_2 : decode cX3_pieceAt 2 = .ok (.iload_n 3, 1) := by decide +kernel
theorem dX3_pieceAt_3 : decode cX3_pieceAt 3 = .ok (.aload_n 0, 1) := by decide +kernel
theorem dX3_pieceAt_4 : decode cX3_pieceAt 4 = .ok (.arraylength, 1) := by decide +kernel
theorem dX3_pieceAt_5 : decode cX3_pieceAt 5 = .ok (.if_icmp .ge 31, 3) := by decide +kernel
theorem dX3_pieceAt_8 : decode cX3_pieceAt 8 = .ok (.aload_n 0, 1) := by decide +kernel
theorem dX3_pieceAt_9 : decode cX3_pieceAt 9 = .ok (.iload_n 3, 1) := by decide +kernel
theorem dX3_pieceAt_10 : decode cX3_pieceAt 10 = .ok (.iaload, 1) := by decide +kernel
theorem dX3_pieceAt_11 : decode cX3_pieceAt 11 = .ok (.iload_n 1, 1) := by decide +kernel
theorem dX3_pieceAt_12 : decode cX3_pieceAt 12 = .ok (.if_icmp .ne 18, 3) := by decide +kernel
theorem dX3_pieceAt_15 : decode cX3_pieceAt 15 = .ok (.aload_n 0, 1) := by decide +kernel
theorem dX3_pieceAt_16 : decode cX3_pieceAt 16 = .ok (.iload_n 3, 1) := by decide +kernel
theorem dX3_pieceAt_17 : decode cX3_pieceAt 17 = .ok (.iconst 1, 1) := by decide +kernel
theorem dX3_pieceAt_18 : decode cX3_pieceAt 18 = .ok (.iadd, 1) := by decide +kernel
theorem dX3_pieceAt_19 : decode cX3_pieceAt 19 = .ok (.iaload, 1) := by decide +kernel
theorem dX3_pieceAt_20 : decode cX3_pieceAt 20 = .ok (.iload_n 2, 1) := by decide +kernel
theorem dX3_pieceAt_21 : decode cX3_pieceAt 21 = .ok (.if_icmp .ne 9, 3) := by decide +kernel
theorem dX3_pieceAt_24 : decode cX3_pieceAt 24 = .ok (.iload_n 3, 1) := by decide +kernel
theorem dX3_pieceAt_25 : decode cX3_pieceAt 25 = .ok (.iconst 2, 1) := by decide +kernel
theorem dX3_pieceAt_26 : decode cX3_pieceAt 26 = .ok (.isub, 1) := by decide +kernel
theorem dX3_pieceAt_27 : decode cX3_pieceAt 27 = .ok (.iconst 3, 1) := by decide +kernel
theorem dX3_pieceAt_28 : decode cX3_pieceAt 28 = .ok (.idiv, 1) := by decide +kernel
theorem dX3_pieceAt_29 : decode cX3_pieceAt 29 = .ok (.ireturn, 1) := by decide +kernel
theorem dX3_pieceAt_30 : decode cX3_pieceAt 30 = .ok (.iinc 3 3, 3) := by decide +kernel
theorem dX3_pieceAt_33 : decode cX3_pieceAt 33 = .ok (.goto (-31), 3) := by decide +kernel
theorem dX3_pieceAt_36 : decode cX3_pieceAt 36 = .ok (.iconst (-1), 1) := by decide +kernel
theorem dX3_pieceAt_37 : decode cX3_pieceAt 37 = .ok (.ireturn, 1) := by decide +kernel
theorem dX3_isOn_0 : decode cX3_isOn 0 = .ok (.iload_n 0, 1) := by decide +kernel
theorem dX3_isOn_1 : decode cX3_isOn 1 = .ok (.ifCond .lt 23, 3) := by decide +kernel
theorem dX3_isOn_4 : decode cX3_isOn 4 = .ok (.iload_n 1, 1) := by decide +kernel
theorem dX3_isOn_5 : decode cX3_isOn 5 = .ok (.ifCond .lt 19, 3) := by decide +kernel
theorem dX3_isOn_8 : decode cX3_isOn 8 = .ok (.iload_n 0, 1) := by decide +kernel
theorem dX3_isOn_9 : decode cX3_isOn 9 = .ok (.bipush 8, 2) := by decide +kernel
theorem dX3_isOn_11 : decode cX3_isOn 11 = .ok (.if_icmp .ge 13, 3) := by decide +kernel
theorem dX3_isOn_14 : decode cX3_isOn 14 = .ok (.iload_n 1, 1) := by decide +kernel
theorem dX3_isOn_15 : decode cX3_isOn 15 = .ok (.bipush 8, 2) := by decide +kernel
theorem dX3_isOn_17 : decode cX3_isOn 17 = .ok (.if_icmp .ge 7, 3) := by decide +kernel
theorem dX3_isOn_20 : decode cX3_isOn 20 = .ok (.iconst 1, 1) := by decide +kernel
theorem dX3_isOn_21 : decode cX3_isOn 21 = .ok (.goto 4, 3) := by decide +kernel
theorem dX3_isOn_24 : decode cX3_isOn 24 = .ok (.iconst 0, 1) := by decide +kernel
theorem dX3_isOn_25 : decode cX3_isOn 25 = .ok (.ireturn, 1) := by decide +kernel
theorem dX3_does_0 : decode cX3_does 0 = .ok (.iload_n 1, 1) := by decide +kernel
theorem dX3_does_1 : decode cX3_does 1 = .ok (.iconst 1, 1) := by decide +kernel
theorem dX3_does_2 : decode cX3_does 2 = .ok (.if_icmp .eq 8, 3) := by decide +kernel
theorem dX3_does_5 : decode cX3_does 5 = .ok (.iload_n 1, 1) := by decide +kernel
theorem dX3_does_6 : decode cX3_does 6 = .ok (.iconst 2, 1) := by decide +kernel
theorem dX3_does_7 : decode cX3_does 7 = .ok (.if_icmp .ne 67, 3) := by decide +kernel
theorem dX3_does_10 : decode cX3_does 10 = .ok (.iconst 2, 1) := by decide +kernel
theorem dX3_does_11 : decode cX3_does 11 = .ok (.iconst 3, 1) := by decide +kernel
theorem dX3_does_12 : decode cX3_does 12 = .ok (.iload_n 2, 1) := by decide +kernel
theorem dX3_does_13 : decode cX3_does 13 = .ok (.imul, 1) := by decide +kernel
theorem dX3_does_14 : decode cX3_does 14 = .ok (.iadd, 1) := by decide +kernel
theorem dX3_does_15 : decode cX3_does 15 = .ok (.istore_n 3, 1) := by decide +kernel
theorem dX3_does_16 : decode cX3_does 16 = .ok (.iload_n 3, 1) := by decide +kernel
theorem dX3_does_17 : decode cX3_does 17 = .ok (.aload_n 0, 1) := by decide +kernel
theorem dX3_does_18 : decode cX3_does 18 = .ok (.arraylength, 1) := by decide +kernel
theorem dX3_does_19 : decode cX3_does 19 = .ok (.if_icmp .ge 43, 3) := by decide +kernel
theorem dX3_does_22 : decode cX3_does 22 = .ok (.aload_n 0, 1) := by decide +kernel
theorem dX3_does_23 : decode cX3_does 23 = .ok (.iload_n 3, 1) := by decide +kernel
theorem dX3_does_24 : decode cX3_does 24 = .ok (.iconst 2, 1) := by decide +kernel
theorem dX3_does_25 : decode cX3_does 25 = .ok (.iadd, 1) := by decide +kernel
theorem dX3_does_26 : decode cX3_does 26 = .ok (.iaload, 1) := by decide +kernel
theorem dX3_does_27 : decode cX3_does 27 = .ok (.iload_n 1, 1) := by decide +kernel
theorem dX3_does_28 : decode cX3_does 28 = .ok (.iconst 1, 1) := by decide +kernel
theorem dX3_does_29 : decode cX3_does 29 = .ok (.isub, 1) := by decide +kernel
theorem dX3_does_30 : decode cX3_does 30 = .ok (.if_icmp .ne 32, 3) := by decide +kernel
theorem dX3_does_33 : decode cX3_does 33 = .ok (.aload_n 0, 1) := by decide +kernel
theorem dX3_does_34 : decode cX3_does 34 = .ok (.iconst 0, 1) := by decide +kernel
theorem dX3_does_35 : decode cX3_does 35 = .ok (.iaload, 1) := by decide +kernel
theorem dX3_does_36 : decode cX3_does 36 = .ok (.aload_n 0, 1) := by decide +kernel
theorem dX3_does_37 : decode cX3_does 37 = .ok (.iload_n 3, 1) := by decide +kernel
theorem dX3_does_38 : decode cX3_does 38 = .ok (.iaload, 1) := by decide +kernel
theorem dX3_does_39 : decode cX3_does 39 = .ok (.isub, 1) := by decide +kernel
theorem dX3_does_40 : decode cX3_does 40 = .ok (.invokestatic 45, 3) := by decide +kernel
theorem dX3_does_43 : decode cX3_does 43 = .ok (.aload_n 0, 1) := by decide +kernel
theorem dX3_does_44 : decode cX3_does 44 = .ok (.iconst 1, 1) := by decide +kernel
theorem dX3_does_45 : decode cX3_does 45 = .ok (.iaload, 1) := by decide +kernel
theorem dX3_does_46 : decode cX3_does 46 = .ok (.aload_n 0, 1) := by decide +kernel
theorem dX3_does_47 : decode cX3_does 47 = .ok (.iload_n 3, 1) := by decide +kernel
theorem dX3_does_48 : decode cX3_does 48 = .ok (.iconst 1, 1) := by decide +kernel
theorem dX3_does_49 : decode cX3_does 49 = .ok (.iadd, 1) := by decide +kernel
theorem dX3_does_50 : decode cX3_does 50 = .ok (.iaload, 1) := by decide +kernel
theorem dX3_does_51 : decode cX3_does 51 = .ok (.isub, 1) := by decide +kernel
theorem dX3_does_52 : decode cX3_does 52 = .ok (.invokestatic 45, 3) := by decide +kernel
theorem dX3_does_55 : decode cX3_does 55 = .ok (.invokestatic 50, 3) := by decide +kernel
theorem dX3_does_58 : decode cX3_does 58 = .ok (.iconst 1, 1) := by decide +kernel
theorem dX3_does_59 : decode cX3_does 59 = .ok (.if_icmp .le 5, 3) := by decide +kernel
theorem dX3_does_62 : decode cX3_does 62 = .ok (.iconst 0, 1) := by decide +kernel
theorem dX3_does_63 : decode cX3_does 63 = .ok (.ireturn, 1) := by decide +kernel
theorem dX3_does_64 : decode cX3_does 64 = .ok (.aload_n 0, 1) := by decide +kernel
theorem dX3_does_65 : decode cX3_does 65 = .ok (.iload_n 3, 1) := by decide +kernel
theorem dX3_does_66 : decode cX3_does 66 = .ok (.iconst 2, 1) := by decide +kernel
theorem dX3_does_67 : decode cX3_does 67 = .ok (.iadd, 1) := by decide +kernel
theorem dX3_does_68 : decode cX3_does 68 = .ok (.iconst 2, 1) := by decide +kernel
theorem dX3_does_69 : decode cX3_does 69 = .ok (.iload_n 1, 1) := by decide +kernel
theorem dX3_does_70 : decode cX3_does 70 = .ok (.isub, 1) := by decide +kernel
theorem dX3_does_71 : decode cX3_does 71 = .ok (.iastore, 1) := by decide +kernel
theorem dX3_does_72 : decode cX3_does 72 = .ok (.iconst 1, 1) := by decide +kernel
theorem dX3_does_73 : decode cX3_does 73 = .ok (.ireturn, 1) := by decide +kernel
theorem dX3_does_74 : decode cX3_does 74 = .ok (.aload_n 0, 1) := by decide +kernel
theorem dX3_does_75 : decode cX3_does 75 = .ok (.iconst 0, 1) := by decide +kernel
theorem dX3_does_76 : decode cX3_does 76 = .ok (.iaload, 1) := by decide +kernel
theorem dX3_does_77 : decode cX3_does 77 = .ok (.iload_n 2, 1) := by decide +kernel
theorem dX3_does_78 : decode cX3_does 78 = .ok (.invokestatic 53, 3) := by decide +kernel
theorem dX3_does_81 : decode cX3_does 81 = .ok (.iadd, 1) := by decide +kernel
theorem dX3_does_82 : decode cX3_does 82 = .ok (.istore_n 3, 1) := by decide +kernel
theorem dX3_does_83 : decode cX3_does 83 = .ok (.aload_n 0, 1) := by decide +kernel
theorem dX3_does_84 : decode cX3_does 84 = .ok (.iconst 1, 1) := by decide +kernel
theorem dX3_does_85 : decode cX3_does 85 = .ok (.iaload, 1) := by decide +kernel
theorem dX3_does_86 : decode cX3_does 86 = .ok (.iload_n 2, 1) := by decide +kernel
theorem dX3_does_87 : decode cX3_does 87 = .ok (.invokestatic 56, 3) := by decide +kernel
theorem dX3_does_90 : decode cX3_does 90 = .ok (.iadd, 1) := by decide +kernel
theorem dX3_does_91 : decode cX3_does 91 = .ok (.istore 4, 2) := by decide +kernel
theorem dX3_does_93 : decode cX3_does 93 = .ok (.iload_n 3, 1) := by decide +kernel
theorem dX3_does_94 : decode cX3_does 94 = .ok (.iload 4, 2) := by decide +kernel
theorem dX3_does_96 : decode cX3_does 96 = .ok (.invokestatic 59, 3) := by decide +kernel
theorem dX3_does_99 : decode cX3_does 99 = .ok (.ifCond .ne 5, 3) := by decide +kernel
theorem dX3_does_102 : decode cX3_does 102 = .ok (.iconst 0, 1) := by decide +kernel
theorem dX3_does_103 : decode cX3_does 103 = .ok (.ireturn, 1) := by decide +kernel
theorem dX3_does_104 : decode cX3_does 104 = .ok (.iload_n 1, 1) := by decide +kernel
theorem dX3_does_105 : decode cX3_does 105 = .ok (.iconst 3, 1) := by decide +kernel
theorem dX3_does_106 : decode cX3_does 106 = .ok (.if_icmp .ne 89, 3) := by decide +kernel
theorem dX3_does_109 : decode cX3_does 109 = .ok (.aload_n 0, 1) := by decide +kernel
theorem dX3_does_110 : decode cX3_does 110 = .ok (.iload_n 3, 1) := by decide +kernel
theorem dX3_does_111 : decode cX3_does 111 = .ok (.iload 4, 2) := by decide +kernel
theorem dX3_does_113 : decode cX3_does 113 = .ok (.invokestatic 62, 3) := by decide +kernel
theorem dX3_does_116 : decode cX3_does 116 = .ok (.istore 5, 2) := by decide +kernel
theorem dX3_does_118 : decode cX3_does 118 = .ok (.iload_n 3, 1) := by decide +kernel
theorem dX3_does_119 : decode cX3_does 119 = .ok (.iload_n 2, 1) := by decide +kernel
theorem dX3_does_120 : decode cX3_does 120 = .ok (.invokestatic 53, 3) := by decide +kernel
theorem dX3_does_123 : decode cX3_does 123 = .ok (.iadd, 1) := by decide +kernel
theorem dX3_does_124 : decode cX3_does 124 = .ok (.istore 6, 2) := by decide +kernel
theorem dX3_does_126 : decode cX3_does 126 = .ok (.iload 4, 2) := by decide +kernel
theorem dX3_does_128 : decode cX3_does 128 = .ok (.iload_n 2, 1) := by decide +kernel
theorem dX3_does_129 : decode cX3_does 129 = .ok (.invokestatic 56, 3) := by decide +kernel
theorem dX3_does_132 : decode cX3_does 132 = .ok (.iadd, 1) := by decide +kernel
theorem dX3_does_133 : decode cX3_does 133 = .ok (.istore 7, 2) := by decide +kernel
theorem dX3_does_135 : decode cX3_does 135 = .ok (.iload 5, 2) := by decide +kernel
theorem dX3_does_137 : decode cX3_does 137 = .ok (.ifCond .lt 36, 3) := by decide +kernel
theorem dX3_does_140 : decode cX3_does 140 = .ok (.aload_n 0, 1) := by decide +kernel
theorem dX3_does_141 : decode cX3_does 141 = .ok (.iconst 4, 1) := by decide +kernel
theorem dX3_does_142 : decode cX3_does 142 = .ok (.iconst 3, 1) := by decide +kernel
theorem dX3_does_143 : decode cX3_does 143 = .ok (.iload 5, 2) := by decide +kernel
theorem dX3_does_145 : decode cX3_does 145 = .ok (.imul, 1) := by decide +kernel
theorem dX3_does_146 : decode cX3_does 146 = .ok (.iadd, 1) := by decide +kernel
theorem dX3_does_147 : decode cX3_does 147 = .ok (.iaload, 1) := by decide +kernel
theorem dX3_does_148 : decode cX3_does 148 = .ok (.iconst 1, 1) := by decide +kernel
theorem dX3_does_149 : decode cX3_does 149 = .ok (.if_icmp .eq 24, 3) := by decide +kernel
theorem dX3_does_152 : decode cX3_does 152 = .ok (.iload 6, 2) := by decide +kernel
theorem dX3_does_154 : decode cX3_does 154 = .ok (.iload 7, 2) := by decide +kernel
theorem dX3_does_156 : decode cX3_does 156 = .ok (.invokestatic 59, 3) := by decide +kernel
theorem dX3_does_159 : decode cX3_does 159 = .ok (.ifCond .eq 14, 3) := by decide +kernel
theorem dX3_does_162 : decode cX3_does 162 = .ok (.aload_n 0, 1) := by decide +kernel
theorem dX3_does_163 : decode cX3_does 163 = .ok (.iload 6, 2) := by decide +kernel
theorem dX3_does_165 : decode cX3_does 165 = .ok (.iload 7, 2) := by decide +kernel
theorem dX3_does_167 : decode cX3_does 167 = .ok (.invokestatic 62, 3) := by decide +kernel
theorem dX3_does_170 : decode cX3_does 170 = .ok (.ifCond .lt 5, 3) := by decide +kernel
theorem dX3_does_173 : decode cX3_does 173 = .ok (.iconst 0, 1) := by decide +kernel
theorem dX3_does_174 : decode cX3_does 174 = .ok (.ireturn, 1) := by decide +kernel
theorem dX3_does_175 : decode cX3_does 175 = .ok (.aload_n 0, 1) := by decide +kernel
theorem dX3_does_176 : decode cX3_does 176 = .ok (.iconst 2, 1) := by decide +kernel
theorem dX3_does_177 : decode cX3_does 177 = .ok (.iconst 3, 1) := by decide +kernel
theorem dX3_does_178 : decode cX3_does 178 = .ok (.iload 5, 2) := by decide +kernel
theorem dX3_does_180 : decode cX3_does 180 = .ok (.imul, 1) := by decide +kernel
theorem dX3_does_181 : decode cX3_does 181 = .ok (.iadd, 1) := by decide +kernel
theorem dX3_does_182 : decode cX3_does 182 = .ok (.iload 6, 2) := by decide +kernel
theorem dX3_does_184 : decode cX3_does 184 = .ok (.iastore, 1) := by decide +kernel
theorem dX3_does_185 : decode cX3_does 185 = .ok (.aload_n 0, 1) := by decide +kernel
theorem dX3_does_186 : decode cX3_does 186 = .ok (.iconst 3, 1) := by decide +kernel
theorem dX3_does_187 : decode cX3_does 187 = .ok (.iconst 3, 1) := by decide +kernel
theorem dX3_does_188 : decode cX3_does 188 = .ok (.iload 5, 2) := by decide +kernel
theorem dX3_does_190 : decode cX3_does 190 = .ok (.imul, 1) := by decide +kernel
theorem dX3_does_191 : decode cX3_does 191 = .ok (.iadd, 1) := by decide +kernel
theorem dX3_does_192 : decode cX3_does 192 = .ok (.iload 7, 2) := by decide +kernel
theorem dX3_does_194 : decode cX3_does 194 = .ok (.iastore, 1) := by decide +kernel
theorem dX3_does_195 : decode cX3_does 195 = .ok (.aload_n 0, 1) := by decide +kernel
theorem dX3_does_196 : decode cX3_does 196 = .ok (.iconst 0, 1) := by decide +kernel
theorem dX3_does_197 : decode cX3_does 197 = .ok (.iload_n 3, 1) := by decide +kernel
theorem dX3_does_198 : decode cX3_does 198 = .ok (.iastore, 1) := by decide +kernel
theorem dX3_does_199 : decode cX3_does 199 = .ok (.aload_n 0, 1) := by decide +kernel
theorem dX3_does_200 : decode cX3_does 200 = .ok (.iconst 1, 1) := by decide +kernel
theorem dX3_does_201 : decode cX3_does 201 = .ok (.iload 4, 2) := by decide +kernel
theorem dX3_does_203 : decode cX3_does 203 = .ok (.iastore, 1) := by decide +kernel
theorem dX3_does_204 : decode cX3_does 204 = .ok (.iconst 1, 1) := by decide +kernel
theorem dX3_does_205 : decode cX3_does 205 = .ok (.ireturn, 1) := by decide +kernel
theorem dX3_lying_0 : decode cX3_lying 0 = .ok (.aload_n 0, 1) := by decide +kernel
theorem dX3_lying_1 : decode cX3_lying 1 = .ok (.iload_n 1, 1) := by decide +kernel
theorem dX3_lying_2 : decode cX3_lying 2 = .ok (.invokevirtual 37, 3) := by decide +kernel
theorem dX3_lying_5 : decode cX3_lying 5 = .ok (.astore_n 2, 1) := by decide +kernel
theorem dX3_lying_6 : decode cX3_lying 6 = .ok (.iconst 0, 1) := by decide +kernel
theorem dX3_lying_7 : decode cX3_lying 7 = .ok (.istore_n 3, 1) := by decide +kernel
theorem dX3_lying_8 : decode cX3_lying 8 = .ok (.iconst 4, 1) := by decide +kernel
theorem dX3_lying_9 : decode cX3_lying 9 = .ok (.istore 4, 2) := by decide +kernel
theorem dX3_lying_11 : decode cX3_lying 11 = .ok (.iload 4, 2) := by decide +kernel
theorem dX3_lying_13 : decode cX3_lying 13 = .ok (.aload_n 2, 1) := by decide +kernel
theorem dX3_lying_14 : decode cX3_lying 14 = .ok (.arraylength, 1) := by decide +kernel
theorem dX3_lying_15 : decode cX3_lying 15 = .ok (.if_icmp .ge 16, 3) := by decide +kernel
theorem dX3_lying_18 : decode cX3_lying 18 = .ok (.iload_n 3, 1) := by decide +kernel
theorem dX3_lying_19 : decode cX3_lying 19 = .ok (.aload_n 2, 1) := by decide +kernel
theorem dX3_lying_20 : decode cX3_lying 20 = .ok (.iload 4, 2) := by decide +kernel
theorem dX3_lying_22 : decode cX3_lying 22 = .ok (.iaload, 1) := by decide +kernel
theorem dX3_lying_23 : decode cX3_lying 23 = .ok (.iadd, 1) := by decide +kernel
theorem dX3_lying_24 : decode cX3_lying 24 = .ok (.istore_n 3, 1) := by decide +kernel
theorem dX3_lying_25 : decode cX3_lying 25 = .ok (.iinc 4 3, 3) := by decide +kernel
theorem dX3_lying_28 : decode cX3_lying 28 = .ok (.goto (-17), 3) := by decide +kernel
theorem dX3_lying_31 : decode cX3_lying 31 = .ok (.iload_n 3, 1) := by decide +kernel
theorem dX3_lying_32 : decode cX3_lying 32 = .ok (.ireturn, 1) := by decide +kernel
theorem dX3_isSame_0 : decode cX3_isSame 0 = .ok (.aload_n 0, 1) := by decide +kernel
theorem dX3_isSame_1 : decode cX3_isSame 1 = .ok (.aload_n 0, 1) := by decide +kernel
theorem dX3_isSame_2 : decode cX3_isSame 2 = .ok (.getfield 18, 3) := by decide +kernel
theorem dX3_isSame_5 : decode cX3_isSame 5 = .ok (.invokevirtual 37, 3) := by decide +kernel
theorem dX3_isSame_8 : decode cX3_isSame 8 = .ok (.astore_n 2, 1) := by decide +kernel
theorem dX3_isSame_9 : decode cX3_isSame 9 = .ok (.aload_n 0, 1) := by decide +kernel
theorem dX3_isSame_10 : decode cX3_isSame 10 = .ok (.getfield 15, 3) := by decide +kernel
theorem dX3_isSame_13 : decode cX3_isSame 13 = .ok (.arraylength, 1) := by decide +kernel
theorem dX3_isSame_14 : decode cX3_isSame 14 = .ok (.istore_n 3, 1) := by decide +kernel
theorem dX3_isSame_15 : decode cX3_isSame 15 = .ok (.aload_n 0, 1) := by decide +kernel
theorem dX3_isSame_16 : decode cX3_isSame 16 = .ok (.getfield 9, 3) := by decide +kernel
theorem dX3_isSame_19 : decode cX3_isSame 19 = .ok (.arraylength, 1) := by decide +kernel
theorem dX3_isSame_20 : decode cX3_isSame 20 = .ok (.newarray .int, 2) := by decide +kernel
theorem dX3_isSame_22 : decode cX3_isSame 22 = .ok (.astore 4, 2) := by decide +kernel
theorem dX3_isSame_24 : decode cX3_isSame 24 = .ok (.aload_n 0, 1) := by decide +kernel
theorem dX3_isSame_25 : decode cX3_isSame 25 = .ok (.getfield 9, 3) := by decide +kernel
theorem dX3_isSame_28 : decode cX3_isSame 28 = .ok (.arraylength, 1) := by decide +kernel
theorem dX3_isSame_29 : decode cX3_isSame 29 = .ok (.ifCond .ne 7, 3) := by decide +kernel
theorem dX3_isSame_32 : decode cX3_isSame 32 = .ok (.iconst (-1), 1) := by decide +kernel
theorem dX3_isSame_33 : decode cX3_isSame 33 = .ok (.goto 4, 3) := by decide +kernel
theorem dX3_isSame_36 : decode cX3_isSame 36 = .ok (.iconst 0, 1) := by decide +kernel
theorem dX3_isSame_37 : decode cX3_isSame 37 = .ok (.istore 5, 2) := by decide +kernel
theorem dX3_isSame_39 : decode cX3_isSame 39 = .ok (.iconst 0, 1) := by decide +kernel
theorem dX3_isSame_40 : decode cX3_isSame 40 = .ok (.istore 6, 2) := by decide +kernel
theorem dX3_isSame_42 : decode cX3_isSame 42 = .ok (.iconst 0, 1) := by decide +kernel
theorem dX3_isSame_43 : decode cX3_isSame 43 = .ok (.istore 7, 2) := by decide +kernel
theorem dX3_isSame_45 : decode cX3_isSame 45 = .ok (.iconst 0, 1) := by decide +kernel
theorem dX3_isSame_46 : decode cX3_isSame 46 = .ok (.istore 8, 2) := by decide +kernel
theorem dX3_isSame_48 : decode cX3_isSame 48 = .ok (.iload 8, 2) := by decide +kernel
theorem dX3_isSame_50 : decode cX3_isSame 50 = .ok (.iload_n 3, 1) := by decide +kernel
theorem dX3_isSame_51 : decode cX3_isSame 51 = .ok (.if_icmp .ge 238, 3) := by decide +kernel
theorem dX3_isSame_54 : decode cX3_isSame 54 = .ok (.iconst 0, 1) := by decide +kernel
theorem dX3_isSame_55 : decode cX3_isSame 55 = .ok (.istore 9, 2) := by decide +kernel
theorem dX3_isSame_57 : decode cX3_isSame 57 = .ok (.iconst 0, 1) := by decide +kernel
theorem dX3_isSame_58 : decode cX3_isSame 58 = .ok (.istore 10, 2) := by decide +kernel
theorem dX3_isSame_60 : decode cX3_isSame 60 = .ok (.iconst 1, 1) := by decide +kernel
theorem dX3_isSame_61 : decode cX3_isSame 61 = .ok (.istore 11, 2) := by decide +kernel
theorem dX3_isSame_63 : decode cX3_isSame 63 = .ok (.iload 11, 2) := by decide +kernel
theorem dX3_isSame_65 : decode cX3_isSame 65 = .ok (.iload_n 3, 1) := by decide +kernel
theorem dX3_isSame_66 : decode cX3_isSame 66 = .ok (.if_icmp .ge 61, 3) := by decide +kernel
theorem dX3_isSame_69 : decode cX3_isSame 69 = .ok (.iload 9, 2) := by decide +kernel
theorem dX3_isSame_71 : decode cX3_isSame 71 = .ok (.aload_n 0, 1) := by decide +kernel
theorem dX3_isSame_72 : decode cX3_isSame 72 = .ok (.getfield 15, 3) := by decide +kernel
theorem dX3_isSame_75 : decode cX3_isSame 75 = .ok (.iload 11, 2) := by decide +kernel
theorem dX3_isSame_77 : decode cX3_isSame 77 = .ok (.aaload, 1) := by decide +kernel
theorem dX3_isSame_78 : decode cX3_isSame 78 = .ok (.iconst 0, 1) := by decide +kernel
theorem dX3_isSame_79 : decode cX3_isSame 79 = .ok (.iaload, 1) := by decide +kernel
theorem dX3_isSame_80 : decode cX3_isSame 80 = .ok (.iload 8, 2) := by decide +kernel
theorem dX3_isSame_82 : decode cX3_isSame 82 = .ok (.if_icmp .ne 7, 3) := by decide +kernel
theorem dX3_isSame_85 : decode cX3_isSame 85 = .ok (.iconst 1, 1) := by decide +kernel
theorem dX3_isSame_86 : decode cX3_isSame 86 = .ok (.goto 4, 3) := by decide +kernel
theorem dX3_isSame_89 : decode cX3_isSame 89 = .ok (.iconst 0, 1) := by decide +kernel
theorem dX3_isSame_90 : decode cX3_isSame 90 = .ok (.iadd, 1) := by decide +kernel
theorem dX3_isSame_91 : decode cX3_isSame 91 = .ok (.istore 9, 2) := by decide +kernel
theorem dX3_isSame_93 : decode cX3_isSame 93 = .ok (.iload 10, 2) := by decide +kernel
theorem dX3_isSame_95 : decode cX3_isSame 95 = .ok (.iload 11, 2) := by decide +kernel
theorem dX3_isSame_97 : decode cX3_isSame 97 = .ok (.iload 8, 2) := by decide +kernel
theorem dX3_isSame_99 : decode cX3_isSame 99 = .ok (.if_icmp .eq 18, 3) := by decide +kernel
theorem dX3_isSame_102 : decode cX3_isSame 102 = .ok (.aload_n 0, 1) := by decide +kernel
theorem dX3_isSame_103 : decode cX3_isSame 103 = .ok (.iload 11, 2) := by decide +kernel
theorem dX3_isSame_105 : decode cX3_isSame 105 = .ok (.iload 8, 2) := by decide +kernel
theorem dX3_isSame_107 : decode cX3_isSame 107 = .ok (.invokevirtual 25, 3) := by decide +kernel
theorem dX3_isSame_110 : decode cX3_isSame 110 = .ok (.ifCond .eq 7, 3) := by decide +kernel
theorem dX3_isSame_113 : decode cX3_isSame 113 = .ok (.iconst 1, 1) := by decide +kernel
theorem dX3_isSame_114 : decode cX3_isSame 114 = .ok (.goto 4, 3) := by decide +kernel
theorem dX3_isSame_117 : decode cX3_isSame 117 = .ok (.iconst 0, 1) := by decide +kernel
theorem dX3_isSame_118 : decode cX3_isSame 118 = .ok (.iadd, 1) := by decide +kernel
theorem dX3_isSame_119 : decode cX3_isSame 119 = .ok (.istore 10, 2) := by decide +kernel
theorem dX3_isSame_121 : decode cX3_isSame 121 = .ok (.iinc 11 1, 3) := by decide +kernel
theorem dX3_isSame_124 : decode cX3_isSame 124 = .ok (.goto (-61), 3) := by decide +kernel
theorem dX3_isSame_127 : decode cX3_isSame 127 = .ok (.iload 9, 2) := by decide +kernel
theorem dX3_isSame_129 : decode cX3_isSame 129 = .ok (.ifCond .ne 17, 3) := by decide +kernel
theorem dX3_isSame_132 : decode cX3_isSame 132 = .ok (.iinc 6 1, 3) := by decide +kernel
theorem dX3_isSame_135 : decode cX3_isSame 135 = .ok (.iload 7, 2) := by decide +kernel
theorem dX3_isSame_137 : decode cX3_isSame 137 = .ok (.aload_n 0, 1) := by decide +kernel
theorem dX3_isSame_138 : decode cX3_isSame 138 = .ok (.iload 8, 2) := by decide +kernel
theorem dX3_isSame_140 : decode cX3_isSame 140 = .ok (.invokevirtual 29, 3) := by decide +kernel
theorem dX3_isSame_143 : decode cX3_isSame 143 = .ok (.iadd, 1) := by decide +kernel
theorem dX3_isSame_144 : decode cX3_isSame 144 = .ok (.istore 7, 2) := by decide +kernel
theorem dX3_isSame_146 : decode cX3_isSame 146 = .ok (.aload_n 0, 1) := by decide +kernel
theorem dX3_isSame_147 : decode cX3_isSame 147 = .ok (.getfield 15, 3) := by decide +kernel
theorem dX3_isSame_150 : decode cX3_isSame 150 = .ok (.iload 8, 2) := by decide +kernel
theorem dX3_isSame_152 : decode cX3_isSame 152 = .ok (.aaload, 1) := by decide +kernel
theorem dX3_isSame_153 : decode cX3_isSame 153 = .ok (.iconst 1, 1) := by decide +kernel
theorem dX3_isSame_154 : decode cX3_isSame 154 = .ok (.iaload, 1) := by decide +kernel
theorem dX3_isSame_155 : decode cX3_isSame 155 = .ok (.iconst 1, 1) := by decide +kernel
theorem dX3_isSame_156 : decode cX3_isSame 156 = .ok (.if_icmp .ne 19, 3) := by decide +kernel
theorem dX3_isSame_159 : decode cX3_isSame 159 = .ok (.aload 4, 2) := by decide +kernel
theorem dX3_isSame_161 : decode cX3_isSame 161 = .ok (.aload_n 0, 1) := by decide +kernel
theorem dX3_isSame_162 : decode cX3_isSame 162 = .ok (.getfield 15, 3) := by decide +kernel
theorem dX3_isSame_165 : decode cX3_isSame 165 = .ok (.iload 8, 2) := by decide +kernel
theorem dX3_isSame_167 : decode cX3_isSame 167 = .ok (.aaload, 1) := by decide +kernel
theorem dX3_isSame_168 : decode cX3_isSame 168 = .ok (.iconst 2, 1) := by decide +kernel
theorem dX3_isSame_169 : decode cX3_isSame 169 = .ok (.iaload, 1) := by decide +kernel
theorem dX3_isSame_170 : decode cX3_isSame 170 = .ok (.dup2, 1) := by decide +kernel
theorem dX3_isSame_171 : decode cX3_isSame 171 = .ok (.iaload, 1) := by decide +kernel
theorem dX3_isSame_172 : decode cX3_isSame 172 = .ok (.iconst 1, 1) := by decide +kernel
theorem dX3_isSame_173 : decode cX3_isSame 173 = .ok (.iadd, 1) := by decide +kernel
theorem dX3_isSame_174 : decode cX3_isSame 174 = .ok (.iastore, 1) := by decide +kernel
theorem dX3_isSame_175 : decode cX3_isSame 175 = .ok (.aload_n 1, 1) := by decide +kernel
theorem dX3_isSame_176 : decode cX3_isSame 176 = .ok (.iload 8, 2) := by decide +kernel
theorem dX3_isSame_178 : decode cX3_isSame 178 = .ok (.invokevirtual 66, 3) := by decide +kernel
theorem dX3_isSame_181 : decode cX3_isSame 181 = .ok (.aload_n 0, 1) := by decide +kernel
theorem dX3_isSame_182 : decode cX3_isSame 182 = .ok (.getfield 15, 3) := by decide +kernel
theorem dX3_isSame_185 : decode cX3_isSame 185 = .ok (.iload 8, 2) := by decide +kernel
theorem dX3_isSame_187 : decode cX3_isSame 187 = .ok (.aaload, 1) := by decide +kernel
theorem dX3_isSame_188 : decode cX3_isSame 188 = .ok (.iconst 0, 1) := by decide +kernel
theorem dX3_isSame_189 : decode cX3_isSame 189 = .ok (.iaload, 1) := by decide +kernel
theorem dX3_isSame_190 : decode cX3_isSame 190 = .ok (.if_icmp .ne 91, 3) := by decide +kernel
theorem dX3_isSame_193 : decode cX3_isSame 193 = .ok (.aload_n 1, 1) := by decide +kernel
theorem dX3_isSame_194 : decode cX3_isSame 194 = .ok (.iload 8, 2) := by decide +kernel
theorem dX3_isSame_196 : decode cX3_isSame 196 = .ok (.invokevirtual 71, 3) := by decide +kernel
theorem dX3_isSame_199 : decode cX3_isSame 199 = .ok (.aload_n 0, 1) := by decide +kernel
theorem dX3_isSame_200 : decode cX3_isSame 200 = .ok (.getfield 15, 3) := by decide +kernel
theorem dX3_isSame_203 : decode cX3_isSame 203 = .ok (.iload 8, 2) := by decide +kernel
theorem dX3_isSame_205 : decode cX3_isSame 205 = .ok (.aaload, 1) := by decide +kernel
theorem dX3_isSame_206 : decode cX3_isSame 206 = .ok (.iconst 1, 1) := by decide +kernel
theorem dX3_isSame_207 : decode cX3_isSame 207 = .ok (.iaload, 1) := by decide +kernel
theorem dX3_isSame_208 : decode cX3_isSame 208 = .ok (.if_icmp .ne 73, 3) := by decide +kernel
theorem dX3_isSame_211 : decode cX3_isSame 211 = .ok (.aload_n 1, 1) := by decide +kernel
theorem dX3_isSame_212 : decode cX3_isSame 212 = .ok (.iload 8, 2) := by decide +kernel
theorem dX3_isSame_214 : decode cX3_isSame 214 = .ok (.invokevirtual 74, 3) := by decide +kernel
theorem dX3_isSame_217 : decode cX3_isSame 217 = .ok (.aload_n 0, 1) := by decide +kernel
theorem dX3_isSame_218 : decode cX3_isSame 218 = .ok (.getfield 15, 3) := by decide +kernel
theorem dX3_isSame_221 : decode cX3_isSame 221 = .ok (.iload 8, 2) := by decide +kernel
theorem dX3_isSame_223 : decode cX3_isSame 223 = .ok (.aaload, 1) := by decide +kernel
theorem dX3_isSame_224 : decode cX3_isSame 224 = .ok (.iconst 2, 1) := by decide +kernel
theorem dX3_isSame_225 : decode cX3_isSame 225 = .ok (.iaload, 1) := by decide +kernel
theorem dX3_isSame_226 : decode cX3_isSame 226 = .ok (.if_icmp .ne 55, 3) := by decide +kernel
theorem dX3_isSame_229 : decode cX3_isSame 229 = .ok (.aload_n 1, 1) := by decide +kernel
theorem dX3_isSame_230 : decode cX3_isSame 230 = .ok (.iload 8, 2) := by decide +kernel
theorem dX3_isSame_232 : decode cX3_isSame 232 = .ok (.invokevirtual 77, 3) := by decide +kernel
theorem dX3_isSame_235 : decode cX3_isSame 235 = .ok (.aload_n 0, 1) := by decide +kernel
theorem dX3_isSame_236 : decode cX3_isSame 236 = .ok (.iload 8, 2) := by decide +kernel
theorem dX3_isSame_238 : decode cX3_isSame 238 = .ok (.invokevirtual 29, 3) := by decide +kernel
theorem dX3_isSame_241 : decode cX3_isSame 241 = .ok (.if_icmp .ne 40, 3) := by decide +kernel
theorem dX3_isSame_244 : decode cX3_isSame 244 = .ok (.aload_n 1, 1) := by decide +kernel
theorem dX3_isSame_245 : decode cX3_isSame 245 = .ok (.iload 8, 2) := by decide +kernel
theorem dX3_isSame_247 : decode cX3_isSame 247 = .ok (.invokevirtual 80, 3) := by decide +kernel
theorem dX3_isSame_250 : decode cX3_isSame 250 = .ok (.iload 9, 2) := by decide +kernel
theorem dX3_isSame_252 : decode cX3_isSame 252 = .ok (.if_icmp .ne 29, 3) := by decide +kernel
theorem dX3_isSame_255 : decode cX3_isSame 255 = .ok (.aload_n 1, 1) := by decide +kernel
theorem dX3_isSame_256 : decode cX3_isSame 256 = .ok (.iload 8, 2) := by decide +kernel
theorem dX3_isSame_258 : decode cX3_isSame 258 = .ok (.invokevirtual 83, 3) := by decide +kernel
theorem dX3_isSame_261 : decode cX3_isSame 261 = .ok (.iload 10, 2) := by decide +kernel
theorem dX3_isSame_263 : decode cX3_isSame 263 = .ok (.if_icmp .ne 18, 3) := by decide +kernel
theorem dX3_isSame_266 : decode cX3_isSame 266 = .ok (.aload_n 1, 1) := by decide +kernel
theorem dX3_isSame_267 : decode cX3_isSame 267 = .ok (.iload 8, 2) := by decide +kernel
theorem dX3_isSame_269 : decode cX3_isSame 269 = .ok (.invokevirtual 86, 3) := by decide +kernel
theorem dX3_isSame_272 : decode cX3_isSame 272 = .ok (.aload_n 0, 1) := by decide +kernel
theorem dX3_isSame_273 : decode cX3_isSame 273 = .ok (.iload 8, 2) := by decide +kernel
theorem dX3_isSame_275 : decode cX3_isSame 275 = .ok (.invokevirtual 89, 3) := by decide +kernel
theorem dX3_isSame_278 : decode cX3_isSame 278 = .ok (.if_icmp .eq 5, 3) := by decide +kernel
theorem dX3_isSame_281 : decode cX3_isSame 281 = .ok (.iconst 0, 1) := by decide +kernel
theorem dX3_isSame_282 : decode cX3_isSame 282 = .ok (.ireturn, 1) := by decide +kernel
theorem dX3_isSame_283 : decode cX3_isSame 283 = .ok (.iinc 8 1, 3) := by decide +kernel
theorem dX3_isSame_286 : decode cX3_isSame 286 = .ok (.goto (-238), 3) := by decide +kernel
theorem dX3_isSame_289 : decode cX3_isSame 289 = .ok (.iconst 0, 1) := by decide +kernel
theorem dX3_isSame_290 : decode cX3_isSame 290 = .ok (.istore 8, 2) := by decide +kernel
theorem dX3_isSame_292 : decode cX3_isSame 292 = .ok (.iload 8, 2) := by decide +kernel
theorem dX3_isSame_294 : decode cX3_isSame 294 = .ok (.aload_n 0, 1) := by decide +kernel
theorem dX3_isSame_295 : decode cX3_isSame 295 = .ok (.getfield 9, 3) := by decide +kernel
theorem dX3_isSame_298 : decode cX3_isSame 298 = .ok (.arraylength, 1) := by decide +kernel
theorem dX3_isSame_299 : decode cX3_isSame 299 = .ok (.if_icmp .ge 108, 3) := by decide +kernel
theorem dX3_isSame_302 : decode cX3_isSame 302 = .ok (.aload 4, 2) := by decide +kernel
theorem dX3_isSame_304 : decode cX3_isSame 304 = .ok (.iload 8, 2) := by decide +kernel
theorem dX3_isSame_306 : decode cX3_isSame 306 = .ok (.iaload, 1) := by decide +kernel
theorem dX3_isSame_307 : decode cX3_isSame 307 = .ok (.aload 4, 2) := by decide +kernel
theorem dX3_isSame_309 : decode cX3_isSame 309 = .ok (.iload 5, 2) := by decide +kernel
theorem dX3_isSame_311 : decode cX3_isSame 311 = .ok (.iaload, 1) := by decide +kernel
theorem dX3_isSame_312 : decode cX3_isSame 312 = .ok (.if_icmp .le 7, 3) := by decide +kernel
theorem dX3_isSame_315 : decode cX3_isSame 315 = .ok (.iload 8, 2) := by decide +kernel
theorem dX3_isSame_317 : decode cX3_isSame 317 = .ok (.istore 5, 2) := by decide +kernel
theorem dX3_isSame_319 : decode cX3_isSame 319 = .ok (.aload_n 1, 1) := by decide +kernel
theorem dX3_isSame_320 : decode cX3_isSame 320 = .ok (.iload 8, 2) := by decide +kernel
theorem dX3_isSame_322 : decode cX3_isSame 322 = .ok (.invokevirtual 90, 3) := by decide +kernel
theorem dX3_isSame_325 : decode cX3_isSame 325 = .ok (.bipush 8, 2) := by decide +kernel
theorem dX3_isSame_327 : decode cX3_isSame 327 = .ok (.aload_n 2, 1) := by decide +kernel
theorem dX3_isSame_328 : decode cX3_isSame 328 = .ok (.iconst 2, 1) := by decide +kernel
theorem dX3_isSame_329 : decode cX3_isSame 329 = .ok (.iconst 3, 1) := by decide +kernel
theorem dX3_isSame_330 : decode cX3_isSame 330 = .ok (.iload 8, 2) := by decide +kernel
theorem dX3_isSame_332 : decode cX3_isSame 332 = .ok (.imul, 1) := by decide +kernel
theorem dX3_isSame_333 : decode cX3_isSame 333 = .ok (.iadd, 1) := by decide +kernel
theorem dX3_isSame_334 : decode cX3_isSame 334 = .ok (.iaload, 1) := by decide +kernel
theorem dX3_isSame_335 : decode cX3_isSame 335 = .ok (.imul, 1) := by decide +kernel
theorem dX3_isSame_336 : decode cX3_isSame 336 = .ok (.aload_n 2, 1) := by decide +kernel
theorem dX3_isSame_337 : decode cX3_isSame 337 = .ok (.iconst 3, 1) := by decide +kernel
theorem dX3_isSame_338 : decode cX3_isSame 338 = .ok (.iconst 3, 1) := by decide +kernel
theorem dX3_isSame_339 : decode cX3_isSame 339 = .ok (.iload 8, 2) := by decide +kernel
theorem dX3_isSame_341 : decode cX3_isSame 341 = .ok (.imul, 1) := by decide +kernel
theorem dX3_isSame_342 : decode cX3_isSame 342 = .ok (.iadd, 1) := by decide +kernel
theorem dX3_isSame_343 : decode cX3_isSame 343 = .ok (.iaload, 1) := by decide +kernel
theorem dX3_isSame_344 : decode cX3_isSame 344 = .ok (.iadd, 1) := by decide +kernel
theorem dX3_isSame_345 : decode cX3_isSame 345 = .ok (.if_icmp .ne 54, 3) := by decide +kernel
theorem dX3_isSame_348 : decode cX3_isSame 348 = .ok (.aload_n 1, 1) := by decide +kernel
theorem dX3_isSame_349 : decode cX3_isSame 349 = .ok (.iload 8, 2) := by decide +kernel
theorem dX3_isSame_351 : decode cX3_isSame 351 = .ok (.invokevirtual 93, 3) := by decide +kernel
theorem dX3_isSame_354 : decode cX3_isSame 354 = .ok (.aload_n 2, 1) := by decide +kernel
theorem dX3_isSame_355 : decode cX3_isSame 355 = .ok (.iconst 4, 1) := by decide +kernel
theorem dX3_isSame_356 : decode cX3_isSame 356 = .ok (.iconst 3, 1) := by decide +kernel
theorem dX3_isSame_357 : decode cX3_isSame 357 = .ok (.iload 8, 2) := by decide +kernel
theorem dX3_isSame_359 : decode cX3_isSame 359 = .ok (.imul, 1) := by decide +kernel
theorem dX3_isSame_360 : decode cX3_isSame 360 = .ok (.iadd, 1) := by decide +kernel
theorem dX3_isSame_361 : decode cX3_isSame 361 = .ok (.iaload, 1) := by decide +kernel
theorem dX3_isSame_362 : decode cX3_isSame 362 = .ok (.iconst 1, 1) := by decide +kernel
theorem dX3_isSame_363 : decode cX3_isSame 363 = .ok (.if_icmp .ne 7, 3) := by decide +kernel
theorem dX3_isSame_366 : decode cX3_isSame 366 = .ok (.iconst 1, 1) := by decide +kernel
theorem dX3_isSame_367 : decode cX3_isSame 367 = .ok (.goto 4, 3) := by decide +kernel
theorem dX3_isSame_370 : decode cX3_isSame 370 = .ok (.iconst 0, 1) := by decide +kernel
theorem dX3_isSame_371 : decode cX3_isSame 371 = .ok (.if_icmp .ne 28, 3) := by decide +kernel
theorem dX3_isSame_374 : decode cX3_isSame 374 = .ok (.aload_n 1, 1) := by decide +kernel
theorem dX3_isSame_375 : decode cX3_isSame 375 = .ok (.aload_n 2, 1) := by decide +kernel
theorem dX3_isSame_376 : decode cX3_isSame 376 = .ok (.iconst 2, 1) := by decide +kernel
theorem dX3_isSame_377 : decode cX3_isSame 377 = .ok (.iconst 3, 1) := by decide +kernel
theorem dX3_isSame_378 : decode cX3_isSame 378 = .ok (.iload 8, 2) := by decide +kernel
theorem dX3_isSame_380 : decode cX3_isSame 380 = .ok (.imul, 1) := by decide +kernel
theorem dX3_isSame_381 : decode cX3_isSame 381 = .ok (.iadd, 1) := by decide +kernel
theorem dX3_isSame_382 : decode cX3_isSame 382 = .ok (.iaload, 1) := by decide +kernel
theorem dX3_isSame_383 : decode cX3_isSame 383 = .ok (.aload_n 2, 1) := by decide +kernel
theorem dX3_isSame_384 : decode cX3_isSame 384 = .ok (.iconst 3, 1) := by decide +kernel
theorem dX3_isSame_385 : decode cX3_isSame 385 = .ok (.iconst 3, 1) := by decide +kernel
theorem dX3_isSame_386 : decode cX3_isSame 386 = .ok (.iload 8, 2) := by decide +kernel
theorem dX3_isSame_388 : decode cX3_isSame 388 = .ok (.imul, 1) := by decide +kernel
theorem dX3_isSame_389 : decode cX3_isSame 389 = .ok (.iadd, 1) := by decide +kernel
theorem dX3_isSame_390 : decode cX3_isSame 390 = .ok (.iaload, 1) := by decide +kernel
theorem dX3_isSame_391 : decode cX3_isSame 391 = .ok (.invokevirtual 97, 3) := by decide +kernel
theorem dX3_isSame_394 : decode cX3_isSame 394 = .ok (.iload 8, 2) := by decide +kernel
theorem dX3_isSame_396 : decode cX3_isSame 396 = .ok (.if_icmp .eq 5, 3) := by decide +kernel
theorem dX3_isSame_399 : decode cX3_isSame 399 = .ok (.iconst 0, 1) := by decide +kernel
theorem dX3_isSame_400 : decode cX3_isSame 400 = .ok (.ireturn, 1) := by decide +kernel
theorem dX3_isSame_401 : decode cX3_isSame 401 = .ok (.iinc 8 1, 3) := by decide +kernel
theorem dX3_isSame_404 : decode cX3_isSame 404 = .ok (.goto (-112), 3) := by decide +kernel
theorem dX3_isSame_407 : decode cX3_isSame 407 = .ok (.aload_n 1, 1) := by decide +kernel
theorem dX3_isSame_408 : decode cX3_isSame 408 = .ok (.invokevirtual 99, 3) := by decide +kernel
theorem dX3_isSame_411 : decode cX3_isSame 411 = .ok (.aload_n 0, 1) := by decide +kernel
theorem dX3_isSame_412 : decode cX3_isSame 412 = .ok (.getfield 18, 3) := by decide +kernel
theorem dX3_isSame_415 : decode cX3_isSame 415 = .ok (.if_icmp .ne 95, 3) := by decide +kernel
theorem dX3_isSame_418 : decode cX3_isSame 418 = .ok (.aload_n 1, 1) := by decide +kernel
theorem dX3_isSame_419 : decode cX3_isSame 419 = .ok (.invokevirtual 103, 3) := by decide +kernel
theorem dX3_isSame_422 : decode cX3_isSame 422 = .ok (.iload_n 3, 1) := by decide +kernel
theorem dX3_isSame_423 : decode cX3_isSame 423 = .ok (.if_icmp .ne 87, 3) := by decide +kernel
theorem dX3_isSame_426 : decode cX3_isSame 426 = .ok (.aload_n 1, 1) := by decide +kernel
theorem dX3_isSame_427 : decode cX3_isSame 427 = .ok (.invokevirtual 105, 3) := by decide +kernel
theorem dX3_isSame_430 : decode cX3_isSame 430 = .ok (.aload_n 0, 1) := by decide +kernel
theorem dX3_isSame_431 : decode cX3_isSame 431 = .ok (.getfield 9, 3) := by decide +kernel
theorem dX3_isSame_434 : decode cX3_isSame 434 = .ok (.arraylength, 1) := by decide +kernel
theorem dX3_isSame_435 : decode cX3_isSame 435 = .ok (.if_icmp .ne 75, 3) := by decide +kernel
theorem dX3_isSame_438 : decode cX3_isSame 438 = .ok (.aload_n 1, 1) := by decide +kernel
theorem dX3_isSame_439 : decode cX3_isSame 439 = .ok (.invokevirtual 108, 3) := by decide +kernel
theorem dX3_isSame_442 : decode cX3_isSame 442 = .ok (.aload_n 2, 1) := by decide +kernel
theorem dX3_isSame_443 : decode cX3_isSame 443 = .ok (.iconst 0, 1) := by decide +kernel
theorem dX3_isSame_444 : decode cX3_isSame 444 = .ok (.iaload, 1) := by decide +kernel
theorem dX3_isSame_445 : decode cX3_isSame 445 = .ok (.if_icmp .ne 65, 3) := by decide +kernel
theorem dX3_isSame_448 : decode cX3_isSame 448 = .ok (.aload_n 1, 1) := by decide +kernel
theorem dX3_isSame_449 : decode cX3_isSame 449 = .ok (.invokevirtual 111, 3) := by decide +kernel
theorem dX3_isSame_452 : decode cX3_isSame 452 = .ok (.aload_n 2, 1) := by decide +kernel
theorem dX3_isSame_453 : decode cX3_isSame 453 = .ok (.iconst 1, 1) := by decide +kernel
theorem dX3_isSame_454 : decode cX3_isSame 454 = .ok (.iaload, 1) := by decide +kernel
theorem dX3_isSame_455 : decode cX3_isSame 455 = .ok (.if_icmp .ne 55, 3) := by decide +kernel
theorem dX3_isSame_458 : decode cX3_isSame 458 = .ok (.aload_n 1, 1) := by decide +kernel
theorem dX3_isSame_459 : decode cX3_isSame 459 = .ok (.invokevirtual 114, 3) := by decide +kernel
theorem dX3_isSame_462 : decode cX3_isSame 462 = .ok (.aload_n 0, 1) := by decide +kernel
theorem dX3_isSame_463 : decode cX3_isSame 463 = .ok (.aload_n 0, 1) := by decide +kernel
theorem dX3_isSame_464 : decode cX3_isSame 464 = .ok (.getfield 18, 3) := by decide +kernel
theorem dX3_isSame_467 : decode cX3_isSame 467 = .ok (.invokevirtual 117, 3) := by decide +kernel
theorem dX3_isSame_470 : decode cX3_isSame 470 = .ok (.if_icmp .ne 40, 3) := by decide +kernel
theorem dX3_isSame_473 : decode cX3_isSame 473 = .ok (.aload_n 1, 1) := by decide +kernel
theorem dX3_isSame_474 : decode cX3_isSame 474 = .ok (.invokevirtual 119, 3) := by decide +kernel
theorem dX3_isSame_477 : decode cX3_isSame 477 = .ok (.iload 6, 2) := by decide +kernel
theorem dX3_isSame_479 : decode cX3_isSame 479 = .ok (.if_icmp .ne 31, 3) := by decide +kernel
theorem dX3_isSame_482 : decode cX3_isSame 482 = .ok (.aload_n 1, 1) := by decide +kernel
theorem dX3_isSame_483 : decode cX3_isSame 483 = .ok (.invokevirtual 122, 3) := by decide +kernel
theorem dX3_isSame_486 : decode cX3_isSame 486 = .ok (.iload 5, 2) := by decide +kernel
theorem dX3_isSame_488 : decode cX3_isSame 488 = .ok (.if_icmp .ne 22, 3) := by decide +kernel
theorem dX3_isSame_491 : decode cX3_isSame 491 = .ok (.aload_n 1, 1) := by decide +kernel
theorem dX3_isSame_492 : decode cX3_isSame 492 = .ok (.invokevirtual 125, 3) := by decide +kernel
theorem dX3_isSame_495 : decode cX3_isSame 495 = .ok (.iload 7, 2) := by decide +kernel
theorem dX3_isSame_497 : decode cX3_isSame 497 = .ok (.i2d, 1) := by decide +kernel
theorem dX3_isSame_498 : decode cX3_isSame 498 = .ok (.iload 6, 2) := by decide +kernel
theorem dX3_isSame_500 : decode cX3_isSame 500 = .ok (.i2d, 1) := by decide +kernel
theorem dX3_isSame_501 : decode cX3_isSame 501 = .ok (.ddiv, 1) := by decide +kernel
theorem dX3_isSame_502 : decode cX3_isSame 502 = .ok (.dcmp .l, 1) := by decide +kernel
theorem dX3_isSame_503 : decode cX3_isSame 503 = .ok (.ifCond .ne 7, 3) := by decide +kernel
theorem dX3_isSame_506 : decode cX3_isSame 506 = .ok (.iconst 1, 1) := by decide +kernel
theorem dX3_isSame_507 : decode cX3_isSame 507 = .ok (.goto 4, 3) := by decide +kernel
theorem dX3_isSame_510 : decode cX3_isSame 510 = .ok (.iconst 0, 1) := by decide +kernel
theorem dX3_isSame_511 : decode cX3_isSame 511 = .ok (.ireturn, 1) := by decide +kernel
