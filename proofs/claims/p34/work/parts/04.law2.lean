theorem dL_act_597 : decode cL_act 597 = .ok (.iload 7, 2) := by decide +kernel
theorem dL_act_599 : decode cL_act 599 = .ok (.invokevirtual 80, 3) := by decide +kernel
theorem dL_act_602 : decode cL_act 602 = .ok (.iload 9, 2) := by decide +kernel
theorem dL_act_604 : decode cL_act 604 = .ok (.if_icmp .eq 5, 3) := by decide +kernel
theorem dL_act_607 : decode cL_act 607 = .ok (.iconst 0, 1) := by decide +kernel
theorem dL_act_608 : decode cL_act 608 = .ok (.ireturn, 1) := by decide +kernel
theorem dL_act_609 : decode cL_act 609 = .ok (.iload 9, 2) := by decide +kernel
theorem dL_act_611 : decode cL_act 611 = .ok (.ifCond .eq 13, 3) := by decide +kernel
theorem dL_act_614 : decode cL_act 614 = .ok (.iload_n 3, 1) := by decide +kernel
theorem dL_act_615 : decode cL_act 615 = .ok (.bipush 60, 2) := by decide +kernel
theorem dL_act_617 : decode cL_act 617 = .ok (.if_icmp .ge 7, 3) := by decide +kernel
theorem dL_act_620 : decode cL_act 620 = .ok (.iconst 1, 1) := by decide +kernel
theorem dL_act_621 : decode cL_act 621 = .ok (.goto 4, 3) := by decide +kernel
theorem dL_act_624 : decode cL_act 624 = .ok (.iconst 0, 1) := by decide +kernel
theorem dL_act_625 : decode cL_act 625 = .ok (.istore 5, 2) := by decide +kernel
theorem dL_act_627 : decode cL_act 627 = .ok (.iload 5, 2) := by decide +kernel
theorem dL_act_629 : decode cL_act 629 = .ok (.ifCond .eq 43, 3) := by decide +kernel
theorem dL_act_632 : decode cL_act 632 = .ok (.aload_n 1, 1) := by decide +kernel
theorem dL_act_633 : decode cL_act 633 = .ok (.aload_n 1, 1) := by decide +kernel
theorem dL_act_634 : decode cL_act 634 = .ok (.getfield 9, 3) := by decide +kernel
theorem dL_act_637 : decode cL_act 637 = .ok (.iconst 4, 1) := by decide +kernel
theorem dL_act_638 : decode cL_act 638 = .ok (.newarray .int, 2) := by decide +kernel
theorem dL_act_640 : decode cL_act 640 = .ok (.dup, 1) := by decide +kernel
theorem dL_act_641 : decode cL_act 641 = .ok (.iconst 0, 1) := by decide +kernel
theorem dL_act_642 : decode cL_act 642 = .ok (.aload_n 1, 1) := by decide +kernel
theorem dL_act_643 : decode cL_act 643 = .ok (.getfield 41, 3) := by decide +kernel
theorem dL_act_646 : decode cL_act 646 = .ok (.iastore, 1) := by decide +kernel
theorem dL_act_647 : decode cL_act 647 = .ok (.dup, 1) := by decide +kernel
theorem dL_act_648 : decode cL_act 648 = .ok (.iconst 1, 1) := by decide +kernel
theorem dL_act_649 : decode cL_act 649 = .ok (.iload 6, 2) := by decide +kernel
theorem dL_act_651 : decode cL_act 651 = .ok (.iastore, 1) := by decide +kernel
theorem dL_act_652 : decode cL_act 652 = .ok (.dup, 1) := by decide +kernel
theorem dL_act_653 : decode cL_act 653 = .ok (.iconst 2, 1) := by decide +kernel
theorem dL_act_654 : decode cL_act 654 = .ok (.iload 7, 2) := by decide +kernel
theorem dL_act_656 : decode cL_act 656 = .ok (.iastore, 1) := by decide +kernel
theorem dL_act_657 : decode cL_act 657 = .ok (.dup, 1) := by decide +kernel
theorem dL_act_658 : decode cL_act 658 = .ok (.iconst 3, 1) := by decide +kernel
theorem dL_act_659 : decode cL_act 659 = .ok (.iconst 0, 1) := by decide +kernel
theorem dL_act_660 : decode cL_act 660 = .ok (.iastore, 1) := by decide +kernel
theorem dL_act_661 : decode cL_act 661 = .ok (.invokestatic 32, 3) := by decide +kernel
theorem dL_act_664 : decode cL_act 664 = .ok (.putfield 9, 3) := by decide +kernel
theorem dL_act_667 : decode cL_act 667 = .ok (.aload_n 1, 1) := by decide +kernel
theorem dL_act_668 : decode cL_act 668 = .ok (.iload_n 3, 1) := by decide +kernel
theorem dL_act_669 : decode cL_act 669 = .ok (.invokevirtual 49, 3) := by decide +kernel
theorem dL_act_672 : decode cL_act 672 = .ok (.aload_n 0, 1) := by decide +kernel
theorem dL_act_673 : decode cL_act 673 = .ok (.iload 6, 2) := by decide +kernel
theorem dL_act_675 : decode cL_act 675 = .ok (.iload 7, 2) := by decide +kernel
theorem dL_act_677 : decode cL_act 677 = .ok (.invokevirtual 84, 3) := by decide +kernel
theorem dL_act_680 : decode cL_act 680 = .ok (.iload_n 3, 1) := by decide +kernel
theorem dL_act_681 : decode cL_act 681 = .ok (.if_icmp .ne 12, 3) := by decide +kernel
theorem dL_act_684 : decode cL_act 684 = .ok (.iload 5, 2) := by decide +kernel
theorem dL_act_686 : decode cL_act 686 = .ok (.ifCond .eq 7, 3) := by decide +kernel
theorem dL_act_689 : decode cL_act 689 = .ok (.iconst 1, 1) := by decide +kernel
theorem dL_act_690 : decode cL_act 690 = .ok (.goto 4, 3) := by decide +kernel
theorem dL_act_693 : decode cL_act 693 = .ok (.iconst 0, 1) := by decide +kernel
theorem dL_act_694 : decode cL_act 694 = .ok (.ireturn, 1) := by decide +kernel
theorem dL_act_695 : decode cL_act 695 = .ok (.astore 6, 2) := by decide +kernel
theorem dL_act_697 : decode cL_act 697 = .ok (.iload 5, 2) := by decide +kernel
theorem dL_act_699 : decode cL_act 699 = .ok (.ifCond .ne 7, 3) := by decide +kernel
theorem dL_act_702 : decode cL_act 702 = .ok (.iconst 1, 1) := by decide +kernel
theorem dL_act_703 : decode cL_act 703 = .ok (.goto 4, 3) := by decide +kernel
theorem dL_act_706 : decode cL_act 706 = .ok (.iconst 0, 1) := by decide +kernel
theorem dL_act_707 : decode cL_act 707 = .ok (.ireturn, 1) := by decide +kernel
theorem dL_build_0 : decode cL_build 0 = .ok (.new 10, 3) := by decide +kernel
theorem dL_build_3 : decode cL_build 3 = .ok (.dup, 1) := by decide +kernel
theorem dL_build_4 : decode cL_build 4 = .ok (.invokespecial 89, 3) := by decide +kernel
theorem dL_build_7 : decode cL_build 7 = .ok (.astore_n 2, 1) := by decide +kernel
theorem dL_build_8 : decode cL_build 8 = .ok (.bipush 6, 2) := by decide +kernel
theorem dL_build_10 : decode cL_build 10 = .ok (.aload_n 1, 1) := by decide +kernel
theorem dL_build_11 : decode cL_build 11 = .ok (.iconst 0, 1) := by decide +kernel
theorem dL_build_12 : decode cL_build 12 = .ok (.invokestatic 90, 3) := by decide +kernel
theorem dL_build_15 : decode cL_build 15 = .ok (.bipush 40, 2) := by decide +kernel
theorem dL_build_17 : decode cL_build 17 = .ok (.invokestatic 18, 3) := by decide +kernel
theorem dL_build_20 : decode cL_build 20 = .ok (.iadd, 1) := by decide +kernel
theorem dL_build_21 : decode cL_build 21 = .ok (.istore_n 3, 1) := by decide +kernel
theorem dL_build_22 : decode cL_build 22 = .ok (.iconst 0, 1) := by decide +kernel
theorem dL_build_23 : decode cL_build 23 = .ok (.istore 4, 2) := by decide +kernel
theorem dL_build_25 : decode cL_build 25 = .ok (.iload 4, 2) := by decide +kernel
theorem dL_build_27 : decode cL_build 27 = .ok (.iload_n 3, 1) := by decide +kernel
theorem dL_build_28 : decode cL_build 28 = .ok (.if_icmp .ge 44, 3) := by decide +kernel
theorem dL_build_31 : decode cL_build 31 = .ok (.aload_n 0, 1) := by decide +kernel
theorem dL_build_32 : decode cL_build 32 = .ok (.aload_n 2, 1) := by decide +kernel
theorem dL_build_33 : decode cL_build 33 = .ok (.aload_n 1, 1) := by decide +kernel
theorem dL_build_34 : decode cL_build 34 = .ok (.iconst 1, 1) := by decide +kernel
theorem dL_build_35 : decode cL_build 35 = .ok (.iload 4, 2) := by decide +kernel
theorem dL_build_37 : decode cL_build 37 = .ok (.bipush 15, 2) := by decide +kernel
theorem dL_build_39 : decode cL_build 39 = .ok (.irem, 1) := by decide +kernel
theorem dL_build_40 : decode cL_build 40 = .ok (.iadd, 1) := by decide +kernel
theorem dL_build_41 : decode cL_build 41 = .ok (.invokestatic 90, 3) := by decide +kernel
theorem dL_build_44 : decode cL_build 44 = .ok (.iload 4, 2) := by decide +kernel
theorem dL_build_46 : decode cL_build 46 = .ok (.bipush 15, 2) := by decide +kernel
theorem dL_build_48 : decode cL_build 48 = .ok (.idiv, 1) := by decide +kernel
theorem dL_build_49 : decode cL_build 49 = .ok (.iconst 3, 1) := by decide +kernel
theorem dL_build_50 : decode cL_build 50 = .ok (.imul, 1) := by decide +kernel
theorem dL_build_51 : decode cL_build 51 = .ok (.ishr, 1) := by decide +kernel
theorem dL_build_52 : decode cL_build 52 = .ok (.bipush 41, 2) := by decide +kernel
theorem dL_build_54 : decode cL_build 54 = .ok (.iload 4, 2) := by decide +kernel
theorem dL_build_56 : decode cL_build 56 = .ok (.imul, 1) := by decide +kernel
theorem dL_build_57 : decode cL_build 57 = .ok (.iadd, 1) := by decide +kernel
theorem dL_build_58 : decode cL_build 58 = .ok (.invokestatic 94, 3) := by decide +kernel
theorem dL_build_61 : decode cL_build 61 = .ok (.ifCond .ne 5, 3) := by decide +kernel
theorem dL_build_64 : decode cL_build 64 = .ok (.aconst_null, 1) := by decide +kernel
theorem dL_build_65 : decode cL_build 65 = .ok (.areturn, 1) := by decide +kernel
theorem dL_build_66 : decode cL_build 66 = .ok (.iinc 4 1, 3) := by decide +kernel
theorem dL_build_69 : decode cL_build 69 = .ok (.goto (-44), 3) := by decide +kernel
theorem dL_build_72 : decode cL_build 72 = .ok (.aload_n 2, 1) := by decide +kernel
theorem dL_build_73 : decode cL_build 73 = .ok (.areturn, 1) := by decide +kernel
theorem dL_law_0 : decode cL_law 0 = .ok (.new 37, 3) := by decide +kernel
theorem dL_law_3 : decode cL_law 3 = .ok (.dup, 1) := by decide +kernel
theorem dL_law_4 : decode cL_law 4 = .ok (.invokespecial 98, 3) := by decide +kernel
theorem dL_law_7 : decode cL_law 7 = .ok (.astore_n 1, 1) := by decide +kernel
theorem dL_law_8 : decode cL_law 8 = .ok (.aload_n 1, 1) := by decide +kernel
theorem dL_law_9 : decode cL_law 9 = .ok (.aload_n 0, 1) := by decide +kernel
theorem dL_law_10 : decode cL_law 10 = .ok (.invokestatic 99, 3) := by decide +kernel
theorem dL_law_13 : decode cL_law 13 = .ok (.astore_n 2, 1) := by decide +kernel
theorem dL_law_14 : decode cL_law 14 = .ok (.aload_n 2, 1) := by decide +kernel
theorem dL_law_15 : decode cL_law 15 = .ok (.ifnonnull 5, 3) := by decide +kernel
theorem dL_law_18 : decode cL_law 18 = .ok (.iconst 0, 1) := by decide +kernel
theorem dL_law_19 : decode cL_law 19 = .ok (.ireturn, 1) := by decide +kernel
theorem dL_law_20 : decode cL_law 20 = .ok (.iconst 0, 1) := by decide +kernel
theorem dL_law_21 : decode cL_law 21 = .ok (.istore_n 3, 1) := by decide +kernel
theorem dL_law_22 : decode cL_law 22 = .ok (.iload_n 3, 1) := by decide +kernel
theorem dL_law_23 : decode cL_law 23 = .ok (.bipush 6, 2) := by decide +kernel
theorem dL_law_25 : decode cL_law 25 = .ok (.if_icmp .ge 1050, 3) := by decide +kernel
theorem dL_law_28 : decode cL_law 28 = .ok (.aload_n 0, 1) := by decide +kernel
theorem dL_law_29 : decode cL_law 29 = .ok (.iload_n 3, 1) := by decide +kernel
theorem dL_law_30 : decode cL_law 30 = .ok (.iconst 1, 1) := by decide +kernel
theorem dL_law_31 : decode cL_law 31 = .ok (.iadd, 1) := by decide +kernel
theorem dL_law_32 : decode cL_law 32 = .ok (.invokestatic 90, 3) := by decide +kernel
theorem dL_law_35 : decode cL_law 35 = .ok (.iconst 2, 1) := by decide +kernel
theorem dL_law_36 : decode cL_law 36 = .ok (.ishr, 1) := by decide +kernel
theorem dL_law_37 : decode cL_law 37 = .ok (.bipush 53, 2) := by decide +kernel
theorem dL_law_39 : decode cL_law 39 = .ok (.iload_n 3, 1) := by decide +kernel
theorem dL_law_40 : decode cL_law 40 = .ok (.imul, 1) := by decide +kernel
theorem dL_law_41 : decode cL_law 41 = .ok (.iadd, 1) := by decide +kernel
theorem dL_law_42 : decode cL_law 42 = .ok (.istore 4, 2) := by decide +kernel
theorem dL_law_44 : decode cL_law 44 = .ok (.iconst 0, 1) := by decide +kernel
theorem dL_law_45 : decode cL_law 45 = .ok (.istore 5, 2) := by decide +kernel
theorem dL_law_47 : decode cL_law 47 = .ok (.iload 5, 2) := by decide +kernel
theorem dL_law_49 : decode cL_law 49 = .ok (.iconst 4, 1) := by decide +kernel
theorem dL_law_50 : decode cL_law 50 = .ok (.if_icmp .ge 32, 3) := by decide +kernel
theorem dL_law_53 : decode cL_law 53 = .ok (.aload_n 1, 1) := by decide +kernel
theorem dL_law_54 : decode cL_law 54 = .ok (.aload_n 2, 1) := by decide +kernel
theorem dL_law_55 : decode cL_law 55 = .ok (.iload 4, 2) := by decide +kernel
theorem dL_law_57 : decode cL_law 57 = .ok (.iconst 3, 1) := by decide +kernel
theorem dL_law_58 : decode cL_law 58 = .ok (.iload 5, 2) := by decide +kernel
theorem dL_law_60 : decode cL_law 60 = .ok (.imul, 1) := by decide +kernel
theorem dL_law_61 : decode cL_law 61 = .ok (.ishr, 1) := by decide +kernel
theorem dL_law_62 : decode cL_law 62 = .ok (.bipush 29, 2) := by decide +kernel
theorem dL_law_64 : decode cL_law 64 = .ok (.iload 5, 2) := by decide +kernel
theorem dL_law_66 : decode cL_law 66 = .ok (.imul, 1) := by decide +kernel
theorem dL_law_67 : decode cL_law 67 = .ok (.iadd, 1) := by decide +kernel
theorem dL_law_68 : decode cL_law 68 = .ok (.invokestatic 94, 3) := by decide +kernel
theorem dL_law_71 : decode cL_law 71 = .ok (.ifCond .ne 5, 3) := by decide +kernel
theorem dL_law_74 : decode cL_law 74 = .ok (.iconst 0, 1) := by decide +kernel
theorem dL_law_75 : decode cL_law 75 = .ok (.ireturn, 1) := by decide +kernel
theorem dL_law_76 : decode cL_law 76 = .ok (.iinc 5 1, 3) := by decide +kernel
theorem dL_law_79 : decode cL_law 79 = .ok (.goto (-32), 3) := by decide +kernel
theorem dL_law_82 : decode cL_law 82 = .ok (.aload_n 1, 1) := by decide +kernel
theorem dL_law_83 : decode cL_law 83 = .ok (.invokevirtual 103, 3) := by decide +kernel
