theorem dX7_areTwo_7 : decode cX7_areTwo 7 = .ok (.aload_n 0, 1) := by decide +kernel
theorem dX7_areTwo_8 : decode cX7_areTwo 8 = .ok (.iconst 2, 1) := by decide +kernel
theorem dX7_areTwo_9 : decode cX7_areTwo 9 = .ok (.aload_n 0, 1) := by decide +kernel
theorem dX7_areTwo_10 : decode cX7_areTwo 10 = .ok (.getfield 35, 3) := by decide +kernel
theorem dX7_areTwo_13 : decode cX7_areTwo 13 = .ok (.iconst 5, 1) := by decide +kernel
theorem dX7_areTwo_14 : decode cX7_areTwo 14 = .ok (.aload_n 0, 1) := by decide +kernel
theorem dX7_areTwo_15 : decode cX7_areTwo 15 = .ok (.getfield 45, 3) := by decide +kernel
theorem dX7_areTwo_18 : decode cX7_areTwo 18 = .ok (.iconst 1, 1) := by decide +kernel
theorem dX7_areTwo_19 : decode cX7_areTwo 19 = .ok (.iaload, 1) := by decide +kernel
theorem dX7_areTwo_20 : decode cX7_areTwo 20 = .ok (.imul, 1) := by decide +kernel
theorem dX7_areTwo_21 : decode cX7_areTwo 21 = .ok (.iload_n 1, 1) := by decide +kernel
theorem dX7_areTwo_22 : decode cX7_areTwo 22 = .ok (.iadd, 1) := by decide +kernel
theorem dX7_areTwo_23 : decode cX7_areTwo 23 = .ok (.laload, 1) := by decide +kernel
theorem dX7_areTwo_24 : decode cX7_areTwo 24 = .ok (.aload_n 0, 1) := by decide +kernel
theorem dX7_areTwo_25 : decode cX7_areTwo 25 = .ok (.getfield 35, 3) := by decide +kernel
theorem dX7_areTwo_28 : decode cX7_areTwo 28 = .ok (.iconst 5, 1) := by decide +kernel
theorem dX7_areTwo_29 : decode cX7_areTwo 29 = .ok (.aload_n 0, 1) := by decide +kernel
theorem dX7_areTwo_30 : decode cX7_areTwo 30 = .ok (.getfield 45, 3) := by decide +kernel
theorem dX7_areTwo_33 : decode cX7_areTwo 33 = .ok (.iconst 0, 1) := by decide +kernel
theorem dX7_areTwo_34 : decode cX7_areTwo 34 = .ok (.iaload, 1) := by decide +kernel
theorem dX7_areTwo_35 : decode cX7_areTwo 35 = .ok (.imul, 1) := by decide +kernel
theorem dX7_areTwo_36 : decode cX7_areTwo 36 = .ok (.iload_n 1, 1) := by decide +kernel
theorem dX7_areTwo_37 : decode cX7_areTwo 37 = .ok (.iadd, 1) := by decide +kernel
theorem dX7_areTwo_38 : decode cX7_areTwo 38 = .ok (.laload, 1) := by decide +kernel
theorem dX7_areTwo_39 : decode cX7_areTwo 39 = .ok (.lneg, 1) := by decide +kernel
theorem dX7_areTwo_40 : decode cX7_areTwo 40 = .ok (.lconst 0, 1) := by decide +kernel
theorem dX7_areTwo_41 : decode cX7_areTwo 41 = .ok (.lconst 0, 1) := by decide +kernel
theorem dX7_areTwo_42 : decode cX7_areTwo 42 = .ok (.invokevirtual 163, 3) := by decide +kernel
theorem dX7_areTwo_45 : decode cX7_areTwo 45 = .ok (.ifCond .eq 5, 3) := by decide +kernel
theorem dX7_areTwo_48 : decode cX7_areTwo 48 = .ok (.iconst 1, 1) := by decide +kernel
theorem dX7_areTwo_49 : decode cX7_areTwo 49 = .ok (.ireturn, 1) := by decide +kernel
theorem dX7_areTwo_50 : decode cX7_areTwo 50 = .ok (.iinc 1 1, 3) := by decide +kernel
theorem dX7_areTwo_53 : decode cX7_areTwo 53 = .ok (.goto (-51), 3) := by decide +kernel
theorem dX7_areTwo_56 : decode cX7_areTwo 56 = .ok (.iconst 0, 1) := by decide +kernel
theorem dX7_areTwo_57 : decode cX7_areTwo 57 = .ok (.ireturn, 1) := by decide +kernel
theorem dX7_areThree_0 : decode cX7_areThree 0 = .ok (.iconst 0, 1) := by decide +kernel
theorem dX7_areThree_1 : decode cX7_areThree 1 = .ok (.istore_n 1, 1) := by decide +kernel
theorem dX7_areThree_2 : decode cX7_areThree 2 = .ok (.iload_n 1, 1) := by decide +kernel
theorem dX7_areThree_3 : decode cX7_areThree 3 = .ok (.iconst 3, 1) := by decide +kernel
theorem dX7_areThree_4 : decode cX7_areThree 4 = .ok (.if_icmp .ge 95, 3) := by decide +kernel
theorem dX7_areThree_7 : decode cX7_areThree 7 = .ok (.iload_n 1, 1) := by decide +kernel
theorem dX7_areThree_8 : decode cX7_areThree 8 = .ok (.ifCond .ne 7, 3) := by decide +kernel
theorem dX7_areThree_11 : decode cX7_areThree 11 = .ok (.iconst 1, 1) := by decide +kernel
theorem dX7_areThree_12 : decode cX7_areThree 12 = .ok (.goto 4, 3) := by decide +kernel
theorem dX7_areThree_15 : decode cX7_areThree 15 = .ok (.iconst 0, 1) := by decide +kernel
theorem dX7_areThree_16 : decode cX7_areThree 16 = .ok (.istore_n 2, 1) := by decide +kernel
theorem dX7_areThree_17 : decode cX7_areThree 17 = .ok (.iload_n 1, 1) := by decide +kernel
theorem dX7_areThree_18 : decode cX7_areThree 18 = .ok (.iconst 2, 1) := by decide +kernel
theorem dX7_areThree_19 : decode cX7_areThree 19 = .ok (.if_icmp .ne 7, 3) := by decide +kernel
theorem dX7_areThree_22 : decode cX7_areThree 22 = .ok (.iconst 1, 1) := by decide +kernel
theorem dX7_areThree_23 : decode cX7_areThree 23 = .ok (.goto 4, 3) := by decide +kernel
theorem dX7_areThree_26 : decode cX7_areThree 26 = .ok (.iconst 2, 1) := by decide +kernel
theorem dX7_areThree_27 : decode cX7_areThree 27 = .ok (.istore_n 3, 1) := by decide +kernel
theorem dX7_areThree_28 : decode cX7_areThree 28 = .ok (.aload_n 0, 1) := by decide +kernel
theorem dX7_areThree_29 : decode cX7_areThree 29 = .ok (.iconst 3, 1) := by decide +kernel
theorem dX7_areThree_30 : decode cX7_areThree 30 = .ok (.aload_n 0, 1) := by decide +kernel
theorem dX7_areThree_31 : decode cX7_areThree 31 = .ok (.aload_n 0, 1) := by decide +kernel
theorem dX7_areThree_32 : decode cX7_areThree 32 = .ok (.getfield 45, 3) := by decide +kernel
theorem dX7_areThree_35 : decode cX7_areThree 35 = .ok (.iconst 1, 1) := by decide +kernel
theorem dX7_areThree_36 : decode cX7_areThree 36 = .ok (.iaload, 1) := by decide +kernel
theorem dX7_areThree_37 : decode cX7_areThree 37 = .ok (.aload_n 0, 1) := by decide +kernel
theorem dX7_areThree_38 : decode cX7_areThree 38 = .ok (.getfield 45, 3) := by decide +kernel
theorem dX7_areThree_41 : decode cX7_areThree 41 = .ok (.iconst 2, 1) := by decide +kernel
theorem dX7_areThree_42 : decode cX7_areThree 42 = .ok (.iaload, 1) := by decide +kernel
theorem dX7_areThree_43 : decode cX7_areThree 43 = .ok (.iload_n 2, 1) := by decide +kernel
theorem dX7_areThree_44 : decode cX7_areThree 44 = .ok (.iload_n 3, 1) := by decide +kernel
theorem dX7_areThree_45 : decode cX7_areThree 45 = .ok (.invokevirtual 167, 3) := by decide +kernel
theorem dX7_areThree_48 : decode cX7_areThree 48 = .ok (.aload_n 0, 1) := by decide +kernel
theorem dX7_areThree_49 : decode cX7_areThree 49 = .ok (.aload_n 0, 1) := by decide +kernel
theorem dX7_areThree_50 : decode cX7_areThree 50 = .ok (.getfield 45, 3) := by decide +kernel
theorem dX7_areThree_53 : decode cX7_areThree 53 = .ok (.iconst 2, 1) := by decide +kernel
theorem dX7_areThree_54 : decode cX7_areThree 54 = .ok (.iaload, 1) := by decide +kernel
theorem dX7_areThree_55 : decode cX7_areThree 55 = .ok (.aload_n 0, 1) := by decide +kernel
theorem dX7_areThree_56 : decode cX7_areThree 56 = .ok (.getfield 45, 3) := by decide +kernel
theorem dX7_areThree_59 : decode cX7_areThree 59 = .ok (.iconst 0, 1) := by decide +kernel
theorem dX7_areThree_60 : decode cX7_areThree 60 = .ok (.iaload, 1) := by decide +kernel
theorem dX7_areThree_61 : decode cX7_areThree 61 = .ok (.iload_n 2, 1) := by decide +kernel
theorem dX7_areThree_62 : decode cX7_areThree 62 = .ok (.iload_n 3, 1) := by decide +kernel
theorem dX7_areThree_63 : decode cX7_areThree 63 = .ok (.invokevirtual 167, 3) := by decide +kernel
theorem dX7_areThree_66 : decode cX7_areThree 66 = .ok (.aload_n 0, 1) := by decide +kernel
theorem dX7_areThree_67 : decode cX7_areThree 67 = .ok (.aload_n 0, 1) := by decide +kernel
theorem dX7_areThree_68 : decode cX7_areThree 68 = .ok (.getfield 45, 3) := by decide +kernel
theorem dX7_areThree_71 : decode cX7_areThree 71 = .ok (.iconst 0, 1) := by decide +kernel
theorem dX7_areThree_72 : decode cX7_areThree 72 = .ok (.iaload, 1) := by decide +kernel
theorem dX7_areThree_73 : decode cX7_areThree 73 = .ok (.aload_n 0, 1) := by decide +kernel
theorem dX7_areThree_74 : decode cX7_areThree 74 = .ok (.getfield 45, 3) := by decide +kernel
theorem dX7_areThree_77 : decode cX7_areThree 77 = .ok (.iconst 1, 1) := by decide +kernel
theorem dX7_areThree_78 : decode cX7_areThree 78 = .ok (.iaload, 1) := by decide +kernel
theorem dX7_areThree_79 : decode cX7_areThree 79 = .ok (.iload_n 2, 1) := by decide +kernel
theorem dX7_areThree_80 : decode cX7_areThree 80 = .ok (.iload_n 3, 1) := by decide +kernel
theorem dX7_areThree_81 : decode cX7_areThree 81 = .ok (.invokevirtual 167, 3) := by decide +kernel
theorem dX7_areThree_84 : decode cX7_areThree 84 = .ok (.lconst 0, 1) := by decide +kernel
theorem dX7_areThree_85 : decode cX7_areThree 85 = .ok (.invokevirtual 163, 3) := by decide +kernel
theorem dX7_areThree_88 : decode cX7_areThree 88 = .ok (.ifCond .eq 5, 3) := by decide +kernel
theorem dX7_areThree_91 : decode cX7_areThree 91 = .ok (.iconst 1, 1) := by decide +kernel
theorem dX7_areThree_92 : decode cX7_areThree 92 = .ok (.ireturn, 1) := by decide +kernel
theorem dX7_areThree_93 : decode cX7_areThree 93 = .ok (.iinc 1 1, 3) := by decide +kernel
theorem dX7_areThree_96 : decode cX7_areThree 96 = .ok (.goto (-94), 3) := by decide +kernel
theorem dX7_areThree_99 : decode cX7_areThree 99 = .ok (.iconst 0, 1) := by decide +kernel
theorem dX7_areThree_100 : decode cX7_areThree 100 = .ok (.ireturn, 1) := by decide +kernel
theorem dX7_areFour_0 : decode cX7_areFour 0 = .ok (.aload_n 0, 1) := by decide +kernel
theorem dX7_areFour_1 : decode cX7_areFour 1 = .ok (.aload_n 0, 1) := by decide +kernel
theorem dX7_areFour_2 : decode cX7_areFour 2 = .ok (.getfield 45, 3) := by decide +kernel
theorem dX7_areFour_5 : decode cX7_areFour 5 = .ok (.iconst 1, 1) := by decide +kernel
theorem dX7_areFour_6 : decode cX7_areFour 6 = .ok (.iaload, 1) := by decide +kernel
theorem dX7_areFour_7 : decode cX7_areFour 7 = .ok (.aload_n 0, 1) := by decide +kernel
theorem dX7_areFour_8 : decode cX7_areFour 8 = .ok (.getfield 45, 3) := by decide +kernel
theorem dX7_areFour_11 : decode cX7_areFour 11 = .ok (.iconst 2, 1) := by decide +kernel
theorem dX7_areFour_12 : decode cX7_areFour 12 = .ok (.iaload, 1) := by decide +kernel
theorem dX7_areFour_13 : decode cX7_areFour 13 = .ok (.aload_n 0, 1) := by decide +kernel
theorem dX7_areFour_14 : decode cX7_areFour 14 = .ok (.getfield 45, 3) := by decide +kernel
theorem dX7_areFour_17 : decode cX7_areFour 17 = .ok (.iconst 3, 1) := by decide +kernel
theorem dX7_areFour_18 : decode cX7_areFour 18 = .ok (.iaload, 1) := by decide +kernel
theorem dX7_areFour_19 : decode cX7_areFour 19 = .ok (.iconst 0, 1) := by decide +kernel
theorem dX7_areFour_20 : decode cX7_areFour 20 = .ok (.iconst 1, 1) := by decide +kernel
theorem dX7_areFour_21 : decode cX7_areFour 21 = .ok (.iconst 2, 1) := by decide +kernel
theorem dX7_areFour_22 : decode cX7_areFour 22 = .ok (.invokevirtual 95, 3) := by decide +kernel
theorem dX7_areFour_25 : decode cX7_areFour 25 = .ok (.lstore_n 1, 1) := by decide +kernel
theorem dX7_areFour_26 : decode cX7_areFour 26 = .ok (.aload_n 0, 1) := by decide +kernel
theorem dX7_areFour_27 : decode cX7_areFour 27 = .ok (.aload_n 0, 1) := by decide +kernel
theorem dX7_areFour_28 : decode cX7_areFour 28 = .ok (.getfield 45, 3) := by decide +kernel
theorem dX7_areFour_31 : decode cX7_areFour 31 = .ok (.iconst 0, 1) := by decide +kernel
theorem dX7_areFour_32 : decode cX7_areFour 32 = .ok (.iaload, 1) := by decide +kernel
theorem dX7_areFour_33 : decode cX7_areFour 33 = .ok (.aload_n 0, 1) := by decide +kernel
theorem dX7_areFour_34 : decode cX7_areFour 34 = .ok (.getfield 45, 3) := by decide +kernel
theorem dX7_areFour_37 : decode cX7_areFour 37 = .ok (.iconst 2, 1) := by decide +kernel
theorem dX7_areFour_38 : decode cX7_areFour 38 = .ok (.iaload, 1) := by decide +kernel
theorem dX7_areFour_39 : decode cX7_areFour 39 = .ok (.aload_n 0, 1) := by decide +kernel
theorem dX7_areFour_40 : decode cX7_areFour 40 = .ok (.getfield 45, 3) := by decide +kernel
theorem dX7_areFour_43 : decode cX7_areFour 43 = .ok (.iconst 3, 1) := by decide +kernel
theorem dX7_areFour_44 : decode cX7_areFour 44 = .ok (.iaload, 1) := by decide +kernel
theorem dX7_areFour_45 : decode cX7_areFour 45 = .ok (.iconst 0, 1) := by decide +kernel
theorem dX7_areFour_46 : decode cX7_areFour 46 = .ok (.iconst 1, 1) := by decide +kernel
theorem dX7_areFour_47 : decode cX7_areFour 47 = .ok (.iconst 2, 1) := by decide +kernel
theorem dX7_areFour_48 : decode cX7_areFour 48 = .ok (.invokevirtual 95, 3) := by decide +kernel
theorem dX7_areFour_51 : decode cX7_areFour 51 = .ok (.lneg, 1) := by decide +kernel
theorem dX7_areFour_52 : decode cX7_areFour 52 = .ok (.lstore_n 3, 1) := by decide +kernel
theorem dX7_areFour_53 : decode cX7_areFour 53 = .ok (.aload_n 0, 1) := by decide +kernel
theorem dX7_areFour_54 : decode cX7_areFour 54 = .ok (.aload_n 0, 1) := by decide +kernel
theorem dX7_areFour_55 : decode cX7_areFour 55 = .ok (.getfield 45, 3) := by decide +kernel
theorem dX7_areFour_58 : decode cX7_areFour 58 = .ok (.iconst 0, 1) := by decide +kernel
theorem dX7_areFour_59 : decode cX7_areFour 59 = .ok (.iaload, 1) := by decide +kernel
theorem dX7_areFour_60 : decode cX7_areFour 60 = .ok (.aload_n 0, 1) := by decide +kernel
theorem dX7_areFour_61 : decode cX7_areFour 61 = .ok (.getfield 45, 3) := by decide +kernel
theorem dX7_areFour_64 : decode cX7_areFour 64 = .ok (.iconst 1, 1) := by decide +kernel
theorem dX7_areFour_65 : decode cX7_areFour 65 = .ok (.iaload, 1) := by decide +kernel
theorem dX7_areFour_66 : decode cX7_areFour 66 = .ok (.aload_n 0, 1) := by decide +kernel
theorem dX7_areFour_67 : decode cX7_areFour 67 = .ok (.getfield 45, 3) := by decide +kernel
theorem dX7_areFour_70 : decode cX7_areFour 70 = .ok (.iconst 3, 1) := by decide +kernel
theorem dX7_areFour_71 : decode cX7_areFour 71 = .ok (.iaload, 1) := by decide +kernel
theorem dX7_areFour_72 : decode cX7_areFour 72 = .ok (.iconst 0, 1) := by decide +kernel
theorem dX7_areFour_73 : decode cX7_areFour 73 = .ok (.iconst 1, 1) := by decide +kernel
theorem dX7_areFour_74 : decode cX7_areFour 74 = .ok (.iconst 2, 1) := by decide +kernel
theorem dX7_areFour_75 : decode cX7_areFour 75 = .ok (.invokevirtual 95, 3) := by decide +kernel
theorem dX7_areFour_78 : decode cX7_areFour 78 = .ok (.lstore 5, 2) := by decide +kernel
theorem dX7_areFour_80 : decode cX7_areFour 80 = .ok (.aload_n 0, 1) := by decide +kernel
theorem dX7_areFour_81 : decode cX7_areFour 81 = .ok (.aload_n 0, 1) := by decide +kernel
theorem dX7_areFour_82 : decode cX7_areFour 82 = .ok (.getfield 45, 3) := by decide +kernel
theorem dX7_areFour_85 : decode cX7_areFour 85 = .ok (.iconst 0, 1) := by decide +kernel
theorem dX7_areFour_86 : decode cX7_areFour 86 = .ok (.iaload, 1) := by decide +kernel
theorem dX7_areFour_87 : decode cX7_areFour 87 = .ok (.aload_n 0, 1) := by decide +kernel
theorem dX7_areFour_88 : decode cX7_areFour 88 = .ok (.getfield 45, 3) := by decide +kernel
theorem dX7_areFour_91 : decode cX7_areFour 91 = .ok (.iconst 1, 1) := by decide +kernel
theorem dX7_areFour_92 : decode cX7_areFour 92 = .ok (.iaload, 1) := by decide +kernel
theorem dX7_areFour_93 : decode cX7_areFour 93 = .ok (.aload_n 0, 1) := by decide +kernel
theorem dX7_areFour_94 : decode cX7_areFour 94 = .ok (.getfield 45, 3) := by decide +kernel
theorem dX7_areFour_97 : decode cX7_areFour 97 = .ok (.iconst 2, 1) := by decide +kernel
theorem dX7_areFour_98 : decode cX7_areFour 98 = .ok (.iaload, 1) := by decide +kernel
theorem dX7_areFour_99 : decode cX7_areFour 99 = .ok (.iconst 0, 1) := by decide +kernel
theorem dX7_areFour_100 : decode cX7_areFour 100 = .ok (.iconst 1, 1) := by decide +kernel
theorem dX7_areFour_101 : decode cX7_areFour 101 = .ok (.iconst 2, 1) := by decide +kernel
theorem dX7_areFour_102 : decode cX7_areFour 102 = .ok (.invokevirtual 95, 3) := by decide +kernel
theorem dX7_areFour_105 : decode cX7_areFour 105 = .ok (.lneg, 1) := by decide +kernel
theorem dX7_areFour_106 : decode cX7_areFour 106 = .ok (.lstore 7, 2) := by decide +kernel
theorem dX7_areFour_108 : decode cX7_areFour 108 = .ok (.aload_n 0, 1) := by decide +kernel
theorem dX7_areFour_109 : decode cX7_areFour 109 = .ok (.iconst 4, 1) := by decide +kernel
theorem dX7_areFour_110 : decode cX7_areFour 110 = .ok (.lload_n 1, 1) := by decide +kernel
theorem dX7_areFour_111 : decode cX7_areFour 111 = .ok (.lload_n 3, 1) := by decide +kernel
theorem dX7_areFour_112 : decode cX7_areFour 112 = .ok (.lload 5, 2) := by decide +kernel
theorem dX7_areFour_114 : decode cX7_areFour 114 = .ok (.lload 7, 2) := by decide +kernel
theorem dX7_areFour_116 : decode cX7_areFour 116 = .ok (.invokevirtual 163, 3) := by decide +kernel
theorem dX7_areFour_119 : decode cX7_areFour 119 = .ok (.ireturn, 1) := by decide +kernel
theorem dX7_findBars_0 : decode cX7_findBars 0 = .ok (.aload_n 0, 1) := by decide +kernel
theorem dX7_findBars_1 : decode cX7_findBars 1 = .ok (.iconst 0, 1) := by decide +kernel
theorem dX7_findBars_2 : decode cX7_findBars 2 = .ok (.invokevirtual 110, 3) := by decide +kernel
theorem dX7_findBars_5 : decode cX7_findBars 5 = .ok (.aload_n 0, 1) := by decide +kernel
theorem dX7_findBars_6 : decode cX7_findBars 6 = .ok (.getfield 45, 3) := by decide +kernel
theorem dX7_findBars_9 : decode cX7_findBars 9 = .ok (.iconst 0, 1) := by decide +kernel
theorem dX7_findBars_10 : decode cX7_findBars 10 = .ok (.iconst 0, 1) := by decide +kernel
theorem dX7_findBars_11 : decode cX7_findBars 11 = .ok (.iastore, 1) := by decide +kernel
theorem dX7_findBars_12 : decode cX7_findBars 12 = .ok (.aload_n 0, 1) := by decide +kernel
theorem dX7_findBars_13 : decode cX7_findBars 13 = .ok (.getfield 45, 3) := by decide +kernel
theorem dX7_findBars_16 : decode cX7_findBars 16 = .ok (.iconst 0, 1) := by decide +kernel
theorem dX7_findBars_17 : decode cX7_findBars 17 = .ok (.iaload, 1) := by decide +kernel
theorem dX7_findBars_18 : decode cX7_findBars 18 = .ok (.aload_n 0, 1) := by decide +kernel
theorem dX7_findBars_19 : decode cX7_findBars 19 = .ok (.getfield 88, 3) := by decide +kernel
theorem dX7_findBars_22 : decode cX7_findBars 22 = .ok (.if_icmp .ge 65, 3) := by decide +kernel
theorem dX7_findBars_25 : decode cX7_findBars 25 = .ok (.aload_n 0, 1) := by decide +kernel
theorem dX7_findBars_26 : decode cX7_findBars 26 = .ok (.getfield 45, 3) := by decide +kernel
theorem dX7_findBars_29 : decode cX7_findBars 29 = .ok (.iconst 1, 1) := by decide +kernel
theorem dX7_findBars_30 : decode cX7_findBars 30 = .ok (.aload_n 0, 1) := by decide +kernel
theorem dX7_findBars_31 : decode cX7_findBars 31 = .ok (.getfield 45, 3) := by decide +kernel
theorem dX7_findBars_34 : decode cX7_findBars 34 = .ok (.iconst 0, 1) := by decide +kernel
theorem dX7_findBars_35 : decode cX7_findBars 35 = .ok (.iaload, 1) := by decide +kernel
theorem dX7_findBars_36 : decode cX7_findBars 36 = .ok (.iconst 1, 1) := by decide +kernel
theorem dX7_findBars_37 : decode cX7_findBars 37 = .ok (.iadd, 1) := by decide +kernel
theorem dX7_findBars_38 : decode cX7_findBars 38 = .ok (.iastore, 1) := by decide +kernel
theorem dX7_findBars_39 : decode cX7_findBars 39 = .ok (.aload_n 0, 1) := by decide +kernel
theorem dX7_findBars_40 : decode cX7_findBars 40 = .ok (.getfield 45, 3) := by decide +kernel
theorem dX7_findBars_43 : decode cX7_findBars 43 = .ok (.iconst 1, 1) := by decide +kernel
theorem dX7_findBars_44 : decode cX7_findBars 44 = .ok (.iaload, 1) := by decide +kernel
theorem dX7_findBars_45 : decode cX7_findBars 45 = .ok (.aload_n 0, 1) := by decide +kernel
theorem dX7_findBars_46 : decode cX7_findBars 46 = .ok (.getfield 88, 3) := by decide +kernel
theorem dX7_findBars_49 : decode cX7_findBars 49 = .ok (.if_icmp .ge 25, 3) := by decide +kernel
theorem dX7_findBars_52 : decode cX7_findBars 52 = .ok (.aload_n 0, 1) := by decide +kernel
theorem dX7_findBars_53 : decode cX7_findBars 53 = .ok (.invokevirtual 171, 3) := by decide +kernel
theorem dX7_findBars_56 : decode cX7_findBars 56 = .ok (.ifCond .eq 5, 3) := by decide +kernel
theorem dX7_findBars_59 : decode cX7_findBars 59 = .ok (.iconst 2, 1) := by decide +kernel
theorem dX7_findBars_60 : decode cX7_findBars 60 = .ok (.ireturn, 1) := by decide +kernel
theorem dX7_findBars_61 : decode cX7_findBars 61 = .ok (.aload_n 0, 1) := by decide +kernel
theorem dX7_findBars_62 : decode cX7_findBars 62 = .ok (.getfield 45, 3) := by decide +kernel
theorem dX7_findBars_65 : decode cX7_findBars 65 = .ok (.iconst 1, 1) := by decide +kernel
theorem dX7_findBars_66 : decode cX7_findBars 66 = .ok (.dup2, 1) := by decide +kernel
theorem dX7_findBars_67 : decode cX7_findBars 67 = .ok (.iaload, 1) := by decide +kernel
theorem dX7_findBars_68 : decode cX7_findBars 68 = .ok (.iconst 1, 1) := by decide +kernel
theorem dX7_findBars_69 : decode cX7_findBars 69 = .ok (.iadd, 1) := by decide +kernel
theorem dX7_findBars_70 : decode cX7_findBars 70 = .ok (.iastore, 1) := by decide +kernel
theorem dX7_findBars_71 : decode cX7_findBars 71 = .ok (.goto (-32), 3) := by decide +kernel
theorem dX7_findBars_74 : decode cX7_findBars 74 = .ok (.aload_n 0, 1) := by decide +kernel
theorem dX7_findBars_75 : decode cX7_findBars 75 = .ok (.getfield 45, 3) := by decide +kernel
theorem dX7_findBars_78 : decode cX7_findBars 78 = .ok (.iconst 0, 1) := by decide +kernel
theorem dX7_findBars_79 : decode cX7_findBars 79 = .ok (.dup2, 1) := by decide +kernel
theorem dX7_findBars_80 : decode cX7_findBars 80 = .ok (.iaload, 1) := by decide +kernel
theorem dX7_findBars_81 : decode cX7_findBars 81 = .ok (.iconst 1, 1) := by decide +kernel
theorem dX7_findBars_82 : decode cX7_findBars 82 = .ok (.iadd, 1) := by decide +kernel
theorem dX7_findBars_83 : decode cX7_findBars 83 = .ok (.iastore, 1) := by decide +kernel
theorem dX7_findBars_84 : decode cX7_findBars 84 = .ok (.goto (-72), 3) := by decide +kernel
theorem dX7_findBars_87 : decode cX7_findBars 87 = .ok (.aload_n 0, 1) := by decide +kernel
theorem dX7_findBars_88 : decode cX7_findBars 88 = .ok (.getfield 45, 3) := by decide +kernel
theorem dX7_findBars_91 : decode cX7_findBars 91 = .ok (.iconst 0, 1) := by decide +kernel
theorem dX7_findBars_92 : decode cX7_findBars 92 = .ok (.iconst 0, 1) := by decide +kernel
theorem dX7_findBars_93 : decode cX7_findBars 93 = .ok (.iastore, 1) := by decide +kernel
theorem dX7_findBars_94 : decode cX7_findBars 94 = .ok (.aload_n 0, 1) := by decide +kernel
theorem dX7_findBars_95 : decode cX7_findBars 95 = .ok (.getfield 45, 3) := by decide +kernel
theorem dX7_findBars_98 : decode cX7_findBars 98 = .ok (.iconst 0, 1) := by decide +kernel
theorem dX7_findBars_99 : decode cX7_findBars 99 = .ok (.iaload, 1) := by decide +kernel
theorem dX7_findBars_100 : decode cX7_findBars 100 = .ok (.aload_n 0, 1) := by decide +kernel
theorem dX7_findBars_101 : decode cX7_findBars 101 = .ok (.getfield 88, 3) := by decide +kernel
theorem dX7_findBars_104 : decode cX7_findBars 104 = .ok (.if_icmp .ge 105, 3) := by decide +kernel
theorem dX7_findBars_107 : decode cX7_findBars 107 = .ok (.aload_n 0, 1) := by decide +kernel
theorem dX7_findBars_108 : decode cX7_findBars 108 = .ok (.getfield 45, 3) := by decide +kernel
theorem dX7_findBars_111 : decode cX7_findBars 111 = .ok (.iconst 1, 1) := by decide +kernel
theorem dX7_findBars_112 : decode cX7_findBars 112 = .ok (.aload_n 0, 1) := by decide +kernel
theorem dX7_findBars_113 : decode cX7_findBars 113 = .ok (.getfield 45, 3) := by decide +kernel
theorem dX7_findBars_116 : decode cX7_findBars 116 = .ok (.iconst 0, 1) := by decide +kernel
theorem dX7_findBars_117 : decode cX7_findBars 117 = .ok (.iaload, 1) := by decide +kernel
theorem dX7_findBars_118 : decode cX7_findBars 118 = .ok (.iconst 1, 1) := by decide +kernel
theorem dX7_findBars_119 : decode cX7_findBars 119 = .ok (.iadd, 1) := by decide +kernel
theorem dX7_findBars_120 : decode cX7_findBars 120 = .ok (.iastore, 1) := by decide +kernel
theorem dX7_findBars_121 : decode cX7_findBars 121 = .ok (.aload_n 0, 1) := by decide +kernel
theorem dX7_findBars_122 : decode cX7_findBars 122 = .ok (.getfield 45, 3) := by decide +kernel
theorem dX7_findBars_125 : decode cX7_findBars 125 = .ok (.iconst 1, 1) := by decide +kernel
theorem dX7_findBars_126 : decode cX7_findBars 126 = .ok (.iaload, 1) := by decide +kernel
theorem dX7_findBars_127 : decode cX7_findBars 127 = .ok (.aload_n 0, 1) := by decide +kernel
theorem dX7_findBars_128 : decode cX7_findBars 128 = .ok (.getfield 88, 3) := by decide +kernel
theorem dX7_findBars_131 : decode cX7_findBars 131 = .ok (.if_icmp .ge 65, 3) := by decide +kernel
theorem dX7_findBars_134 : decode cX7_findBars 134 = .ok (.aload_n 0, 1) := by decide +kernel
theorem dX7_findBars_135 : decode cX7_findBars 135 = .ok (.getfield 45, 3) := by decide +kernel
theorem dX7_findBars_138 : decode cX7_findBars 138 = .ok (.iconst 2, 1) := by decide +kernel
theorem dX7_findBars_139 : decode cX7_findBars 139 = .ok (.aload_n 0, 1) := by decide +kernel
theorem dX7_findBars_140 : decode cX7_findBars 140 = .ok (.getfield 45, 3) := by decide +kernel
theorem dX7_findBars_143 : decode cX7_findBars 143 = .ok (.iconst 1, 1) := by decide +kernel
theorem dX7_findBars_144 : decode cX7_findBars 144 = .ok (.iaload, 1) := by decide +kernel
theorem dX7_findBars_145 : decode cX7_findBars 145 = .ok (.iconst 1, 1) := by decide +kernel
theorem dX7_findBars_146 : decode cX7_findBars 146 = .ok (.iadd, 1) := by decide +kernel
theorem dX7_findBars_147 : decode cX7_findBars 147 = .ok (.iastore, 1) := by decide +kernel
theorem dX7_findBars_148 : decode cX7_findBars 148 = .ok (.aload_n 0, 1) := by decide +kernel
theorem dX7_findBars_149 : decode cX7_findBars 149 = .ok (.getfield 45, 3) := by decide +kernel
theorem dX7_findBars_152 : decode cX7_findBars 152 = .ok (.iconst 2, 1) := by decide +kernel
theorem dX7_findBars_153 : decode cX7_findBars 153 = .ok (.iaload, 1) := by decide +kernel
theorem dX7_findBars_154 : decode cX7_findBars 154 = .ok (.aload_n 0, 1) := by decide +kernel
theorem dX7_findBars_155 : decode cX7_findBars 155 = .ok (.getfield 88, 3) := by decide +kernel
theorem dX7_findBars_158 : decode cX7_findBars 158 = .ok (.if_icmp .ge 25, 3) := by decide +kernel
theorem dX7_findBars_161 : decode cX7_findBars 161 = .ok (.aload_n 0, 1) := by decide +kernel
theorem dX7_findBars_162 : decode cX7_findBars 162 = .ok (.invokevirtual 174, 3) := by decide +kernel
theorem dX7_findBars_165 : decode cX7_findBars 165 = .ok (.ifCond .eq 5, 3) := by decide +kernel
theorem dX7_findBars_168 : decode cX7_findBars 168 = .ok (.iconst 3, 1) := by decide +kernel
theorem dX7_findBars_169 : decode cX7_findBars 169 = .ok (.ireturn, 1) := by decide +kernel
theorem dX7_findBars_170 : decode cX7_findBars 170 = .ok (.aload_n 0, 1) := by decide +kernel
theorem dX7_findBars_171 : decode cX7_findBars 171 = .ok (.getfield 45, 3) := by decide +kernel
theorem dX7_findBars_174 : decode cX7_findBars 174 = .ok (.iconst 2, 1) := by decide +kernel
theorem dX7_findBars_175 : decode cX7_findBars 175 = .ok (.dup2, 1) := by decide +kernel
theorem dX7_findBars_176 : decode cX7_findBars 176 = .ok (.iaload, 1) := by decide +kernel
theorem dX7_findBars_177 : decode cX7_findBars 177 = .ok (.iconst 1, 1) := by decide +kernel
theorem dX7_findBars_178 : decode cX7_findBars 178 = .ok (.iadd, 1) := by decide +kernel
theorem dX7_findBars_179 : decode cX7_findBars 179 = .ok (.iastore, 1) := by decide +kernel
theorem dX7_findBars_180 : decode cX7_findBars 180 = .ok (.goto (-32), 3) := by decide +kernel
theorem dX7_findBars_183 : decode cX7_findBars 183 = .ok (.aload_n 0, 1) := by decide +kernel
theorem dX7_findBars_184 : decode cX7_findBars 184 = .ok (.getfield 45, 3) := by decide +kernel
theorem dX7_findBars_187 : decode cX7_findBars 187 = .ok (.iconst 1, 1) := by decide +kernel
theorem dX7_findBars_188 : decode cX7_findBars 188 = .ok (.dup2, 1) := by decide +kernel
theorem dX7_findBars_189 : decode cX7_findBars 189 = .ok (.iaload, 1) := by decide +kernel
theorem dX7_findBars_190 : decode cX7_findBars 190 = .ok (.iconst 1, 1) := by decide +kernel
theorem dX7_findBars_191 : decode cX7_findBars 191 = .ok (.iadd, 1) := by decide +kernel
theorem dX7_findBars_192 : decode cX7_findBars 192 = .ok (.iastore, 1) := by decide +kernel
theorem dX7_findBars_193 : decode cX7_findBars 193 = .ok (.goto (-72), 3) := by decide +kernel
theorem dX7_findBars_196 : decode cX7_findBars 196 = .ok (.aload_n 0, 1) := by decide +kernel
theorem dX7_findBars_197 : decode cX7_findBars 197 = .ok (.getfield 45, 3) := by decide +kernel
theorem dX7_findBars_200 : decode cX7_findBars 200 = .ok (.iconst 0, 1) := by decide +kernel
theorem dX7_findBars_201 : decode cX7_findBars 201 = .ok (.dup2, 1) := by decide +kernel
theorem dX7_findBars_202 : decode cX7_findBars 202 = .ok (.iaload, 1) := by decide +kernel
theorem dX7_findBars_203 : decode cX7_findBars 203 = .ok (.iconst 1, 1) := by decide +kernel
theorem dX7_findBars_204 : decode cX7_findBars 204 = .ok (.iadd, 1) := by decide +kernel
theorem dX7_findBars_205 : decode cX7_findBars 205 = .ok (.iastore, 1) := by decide +kernel
theorem dX7_findBars_206 : decode cX7_findBars 206 = .ok (.goto (-112), 3) := by decide +kernel
theorem dX7_findBars_209 : decode cX7_findBars 209 = .ok (.aload_n 0, 1) := by decide +kernel
theorem dX7_findBars_210 : decode cX7_findBars 210 = .ok (.getfield 45, 3) := by decide +kernel
theorem dX7_findBars_213 : decode cX7_findBars 213 = .ok (.iconst 0, 1) := by decide +kernel
theorem dX7_findBars_214 : decode cX7_findBars 214 = .ok (.iconst 0, 1) := by decide +kernel
theorem dX7_findBars_215 : decode cX7_findBars 215 = .ok (.iastore, 1) := by decide +kernel
theorem dX7_findBars_216 : decode cX7_findBars 216 = .ok (.aload_n 0, 1) := by decide +kernel
theorem dX7_findBars_217 : decode cX7_findBars 217 = .ok (.getfield 45, 3) := by decide +kernel
theorem dX7_findBars_220 : decode cX7_findBars 220 = .ok (.iconst 0, 1) := by decide +kernel
theorem dX7_findBars_221 : decode cX7_findBars 221 = .ok (.iaload, 1) := by decide +kernel
theorem dX7_findBars_222 : decode cX7_findBars 222 = .ok (.aload_n 0, 1) := by decide +kernel
theorem dX7_findBars_223 : decode cX7_findBars 223 = .ok (.getfield 88, 3) := by decide +kernel
theorem dX7_findBars_226 : decode cX7_findBars 226 = .ok (.if_icmp .ge 145, 3) := by decide +kernel
theorem dX7_findBars_229 : decode cX7_findBars 229 = .ok (.aload_n 0, 1) := by decide +kernel
theorem dX7_findBars_230 : decode cX7_findBars 230 = .ok (.getfield 45, 3) := by decide +kernel
theorem dX7_findBars_233 : decode cX7_findBars 233 = .ok (.iconst 1, 1) := by decide +kernel
theorem dX7_findBars_234 : decode cX7_findBars 234 = .ok (.aload_n 0, 1) := by decide +kernel
theorem dX7_findBars_235 : decode cX7_findBars 235 = .ok (.getfield 45, 3) := by decide +kernel
theorem dX7_findBars_238 : decode cX7_findBars 238 = .ok (.iconst 0, 1) := by decide +kernel
theorem dX7_findBars_239 : decode cX7_findBars 239 = .ok (.iaload, 1) := by decide +kernel
theorem dX7_findBars_240 : decode cX7_findBars 240 = .ok (.iconst 1, 1) := by decide +kernel
theorem dX7_findBars_241 : decode cX7_findBars 241 = .ok (.iadd, 1) := by decide +kernel
theorem dX7_findBars_242 : decode cX7_findBars 242 = .ok (.iastore, 1) := by decide +kernel
theorem dX7_findBars_243 : decode cX7_findBars 243 = .ok (.aload_n 0, 1) := by decide +kernel
theorem dX7_findBars_244 : decode cX7_findBars 244 = .ok (.getfield 45, 3) := by decide +kernel
theorem dX7_findBars_247 : decode cX7_findBars 247 = .ok (.iconst 1, 1) := by decide +kernel
theorem dX7_findBars_248 : decode cX7_findBars 248 = .ok (.iaload, 1) := by decide +kernel
theorem dX7_findBars_249 : decode cX7_findBars 249 = .ok (.aload_n 0, 1) := by decide +kernel
theorem dX7_findBars_250 : decode cX7_findBars 250 = .ok (.getfield 88, 3) := by decide +kernel
theorem dX7_findBars_253 : decode cX7_findBars 253 = .ok (.if_icmp .ge 105, 3) := by decide +kernel
theorem dX7_findBars_256 : decode cX7_findBars 256 = .ok (.aload_n 0, 1) := by decide +kernel
theorem dX7_findBars_257 : decode cX7_findBars 257 = .ok (.getfield 45, 3) := by decide +kernel
theorem dX7_findBars_260 : decode cX7_findBars 260 = .ok (.iconst 2, 1) := by decide +kernel
theorem dX7_findBars_261 : decode cX7_findBars 261 = .ok (.aload_n 0, 1) := by decide +kernel
theorem dX7_findBars_262 : decode cX7_findBars 262 = .ok (.getfield 45, 3) := by decide +kernel
theorem dX7_findBars_265 : decode cX7_findBars 265 = .ok (.iconst 1, 1) := by decide +kernel
theorem dX7_findBars_266 : decode cX7_findBars 266 = .ok (.iaload, 1) := by decide +kernel
theorem dX7_findBars_267 : decode cX7_findBars 267 = .ok (.iconst 1, 1) := by decide +kernel
theorem dX7_findBars_268 : decode cX7_findBars 268 = .ok (.iadd, 1) := by decide +kernel
theorem dX7_findBars_269 : decode cX7_findBars 269 = .ok (.iastore, 1) := by decide +kernel
theorem dX7_findBars_270 : decode cX7_findBars 270 = .ok (.aload_n 0, 1) := by decide +kernel
theorem dX7_findBars_271 : decode cX7_findBars 271 = .ok (.getfield 45, 3) := by decide +kernel
theorem dX7_findBars_274 : decode cX7_findBars 274 = .ok (.iconst 2, 1) := by decide +kernel
theorem dX7_findBars_275 : decode cX7_findBars 275 = .ok (.iaload, 1) := by decide +kernel
theorem dX7_findBars_276 : decode cX7_findBars 276 = .ok (.aload_n 0, 1) := by decide +kernel
theorem dX7_findBars_277 : decode cX7_findBars 277 = .ok (.getfield 88, 3) := by decide +kernel
theorem dX7_findBars_280 : decode cX7_findBars 280 = .ok (.if_icmp .ge 65, 3) := by decide +kernel
theorem dX7_findBars_283 : decode cX7_findBars 283 = .ok (.aload_n 0, 1) := by decide +kernel
theorem dX7_findBars_284 : decode cX7_findBars 284 = .ok (.getfield 45, 3) := by decide +kernel
theorem dX7_findBars_287 : decode cX7_findBars 287 = .ok (.iconst 3, 1) := by decide +kernel
theorem dX7_findBars_288 : decode cX7_findBars 288 = .ok (.aload_n 0, 1) := by decide +kernel
theorem dX7_findBars_289 : decode cX7_findBars 289 = .ok (.getfield 45, 3) := by decide +kernel
theorem dX7_findBars_292 : decode cX7_findBars 292 = .ok (.iconst 2, 1) := by decide +kernel
theorem dX7_findBars_293 : decode cX7_findBars 293 = .ok (.iaload, 1) := by decide +kernel
theorem dX7_findBars_294 : decode cX7_findBars 294 = .ok (.iconst 1, 1) := by decide +kernel
theorem dX7_findBars_295 : decode cX7_findBars 295 = .ok (.iadd, 1) := by decide +kernel
theorem dX7_findBars_296 : decode cX7_findBars 296 = .ok (.iastore, 1) := by decide +kernel
theorem dX7_findBars_297 : decode cX7_findBars 297 = .ok (.aload_n 0, 1) := by decide +kernel
theorem dX7_findBars_298 : decode cX7_findBars 298 = .ok (.getfield 45, 3) := by decide +kernel
theorem dX7_findBars_301 : decode cX7_findBars 301 = .ok (.iconst 3, 1) := by decide +kernel
theorem dX7_findBars_302 : decode cX7_findBars 302 = .ok (.iaload, 1) := by decide +kernel
theorem dX7_findBars_303 : decode cX7_findBars 303 = .ok (.aload_n 0, 1) := by decide +kernel
theorem dX7_findBars_304 : decode cX7_findBars 304 = .ok (.getfield 88, 3) := by decide +kernel
theorem dX7_findBars_307 : decode cX7_findBars 307 = .ok (.if_icmp .ge 25, 3) := by decide +kernel
theorem dX7_findBars_310 : decode cX7_findBars 310 = .ok (.aload_n 0, 1) := by decide +kernel
theorem dX7_findBars_311 : decode cX7_findBars 311 = .ok (.invokevirtual 177, 3) := by decide +kernel
theorem dX7_findBars_314 : decode cX7_findBars 314 = .ok (.ifCond .eq 5, 3) := by decide +kernel
theorem dX7_findBars_317 : decode cX7_findBars 317 = .ok (.iconst 4, 1) := by decide +kernel
theorem dX7_findBars_318 : decode cX7_findBars 318 = .ok (.ireturn, 1) := by decide +kernel
theorem dX7_findBars_319 : decode cX7_findBars 319 = .ok (.aload_n 0, 1) := by decide +kernel
theorem dX7_findBars_320 : decode cX7_findBars 320 = .ok (.getfield 45, 3) := by decide +kernel
theorem dX7_findBars_323 : decode cX7_findBars 323 = .ok (.iconst 3, 1) := by decide +kernel
theorem dX7_findBars_324 : decode cX7_findBars 324 = .ok (.dup2, 1) := by decide +kernel
theorem dX7_findBars_325 : decode cX7_findBars 325 = .ok (.iaload, 1) := by decide +kernel
theorem dX7_findBars_326 : decode cX7_findBars 326 = .ok (.iconst 1, 1) := by decide +kernel
theorem dX7_findBars_327 : decode cX7_findBars 327 = .ok (.iadd, 1) := by decide +kernel
theorem dX7_findBars_328 : decode cX7_findBars 328 = .ok (.iastore, 1) := by decide +kernel
theorem dX7_findBars_329 : decode cX7_findBars 329 = .ok (.goto (-32), 3) := by decide +kernel
theorem dX7_findBars_332 : decode cX7_findBars 332 = .ok (.aload_n 0, 1) := by decide +kernel
theorem dX7_findBars_333 : decode cX7_findBars 333 = .ok (.getfield 45, 3) := by decide +kernel
theorem dX7_findBars_336 : decode cX7_findBars 336 = .ok (.iconst 2, 1) := by decide +kernel
theorem dX7_findBars_337 : decode cX7_findBars 337 = .ok (.dup2, 1) := by decide +kernel
theorem dX7_findBars_338 : decode cX7_findBars 338 = .ok (.iaload, 1) := by decide +kernel
theorem dX7_findBars_339 : decode cX7_findBars 339 = .ok (.iconst 1, 1) := by decide +kernel
theorem dX7_findBars_340 : decode cX7_findBars 340 = .ok (.iadd, 1) := by decide +kernel
theorem dX7_findBars_341 : decode cX7_findBars 341 = .ok (.iastore, 1) := by decide +kernel
theorem dX7_findBars_342 : decode cX7_findBars 342 = .ok (.goto (-72), 3) := by decide +kernel
theorem dX7_findBars_345 : decode cX7_findBars 345 = .ok (.aload_n 0, 1) := by decide +kernel
theorem dX7_findBars_346 : decode cX7_findBars 346 = .ok (.getfield 45, 3) := by decide +kernel
theorem dX7_findBars_349 : decode cX7_findBars 349 = .ok (.iconst 1, 1) := by decide +kernel
theorem dX7_findBars_350 : decode cX7_findBars 350 = .ok (.dup2, 1) := by decide +kernel
theorem dX7_findBars_351 : decode cX7_findBars 351 = .ok (.iaload, 1) := by decide +kernel
theorem dX7_findBars_352 : decode cX7_findBars 352 = .ok (.iconst 1, 1) := by decide +kernel
theorem dX7_findBars_353 : decode cX7_findBars 353 = .ok (.iadd, 1) := by decide +kernel
theorem dX7_findBars_354 : decode cX7_findBars 354 = .ok (.iastore, 1) := by decide +kernel
theorem dX7_findBars_355 : decode cX7_findBars 355 = .ok (.goto (-112), 3) := by decide +kernel
theorem dX7_findBars_358 : decode cX7_findBars 358 = .ok (.aload_n 0, 1) := by decide +kernel
theorem dX7_findBars_359 : decode cX7_findBars 359 = .ok (.getfield 45, 3) := by decide +kernel
theorem dX7_findBars_362 : decode cX7_findBars 362 = .ok (.iconst 0, 1) := by decide +kernel
theorem dX7_findBars_363 : decode cX7_findBars 363 = .ok (.dup2, 1) := by decide +kernel
theorem dX7_findBars_364 : decode cX7_findBars 364 = .ok (.iaload, 1) := by decide +kernel
theorem dX7_findBars_365 : decode cX7_findBars 365 = .ok (.iconst 1, 1) := by decide +kernel
theorem dX7_findBars_366 : decode cX7_findBars 366 = .ok (.iadd, 1) := by decide +kernel
theorem dX7_findBars_367 : decode cX7_findBars 367 = .ok (.iastore, 1) := by decide +kernel
theorem dX7_findBars_368 : decode cX7_findBars 368 = .ok (.goto (-152), 3) := by decide +kernel
theorem dX7_findBars_371 : decode cX7_findBars 371 = .ok (.iconst 0, 1) := by decide +kernel
theorem dX7_findBars_372 : decode cX7_findBars 372 = .ok (.ireturn, 1) := by decide +kernel
theorem dX7_bar_0 : decode cX7_bar 0 = .ok (.iload_n 1, 1) := by decide +kernel
theorem dX7_bar_1 : decode cX7_bar 1 = .ok (.i2l, 1) := by decide +kernel
theorem dX7_bar_2 : decode cX7_bar 2 = .ok (.ldc2_w 144, 3) := by decide +kernel
theorem dX7_bar_5 : decode cX7_bar 5 = .ok (.ldc2_w 69, 3) := by decide +kernel
theorem dX7_bar_8 : decode cX7_bar 8 = .ok (.invokestatic 59, 3) := by decide +kernel
theorem dX7_bar_11 : decode cX7_bar 11 = .ok (.ifCond .ne 5, 3) := by decide +kernel
theorem dX7_bar_14 : decode cX7_bar 14 = .ok (.iconst (-1), 1) := by decide +kernel
theorem dX7_bar_15 : decode cX7_bar 15 = .ok (.ireturn, 1) := by decide +kernel
theorem dX7_bar_16 : decode cX7_bar 16 = .ok (.aload_n 0, 1) := by decide +kernel
theorem dX7_bar_17 : decode cX7_bar 17 = .ok (.invokevirtual 141, 3) := by decide +kernel
theorem dX7_bar_20 : decode cX7_bar 20 = .ok (.aload_n 0, 1) := by decide +kernel
theorem dX7_bar_21 : decode cX7_bar 21 = .ok (.getfield 114, 3) := by decide +kernel
theorem dX7_bar_24 : decode cX7_bar 24 = .ok (.ifCond .eq 6, 3) := by decide +kernel
theorem dX7_bar_27 : decode cX7_bar 27 = .ok (.bipush (-2), 2) := by decide +kernel
theorem dX7_bar_29 : decode cX7_bar 29 = .ok (.ireturn, 1) := by decide +kernel
theorem dX7_bar_30 : decode cX7_bar 30 = .ok (.aload_n 0, 1) := by decide +kernel
theorem dX7_bar_31 : decode cX7_bar 31 = .ok (.aload_n 0, 1) := by decide +kernel
theorem dX7_bar_32 : decode cX7_bar 32 = .ok (.invokevirtual 180, 3) := by decide +kernel
theorem dX7_bar_35 : decode cX7_bar 35 = .ok (.putfield 184, 3) := by decide +kernel
theorem dX7_bar_38 : decode cX7_bar 38 = .ok (.iload_n 1, 1) := by decide +kernel
theorem dX7_bar_39 : decode cX7_bar 39 = .ok (.aload_n 0, 1) := by decide +kernel
theorem dX7_bar_40 : decode cX7_bar 40 = .ok (.getfield 184, 3) := by decide +kernel
theorem dX7_bar_43 : decode cX7_bar 43 = .ok (.if_icmp .lt 5, 3) := by decide +kernel
theorem dX7_bar_46 : decode cX7_bar 46 = .ok (.iconst (-1), 1) := by decide +kernel
theorem dX7_bar_47 : decode cX7_bar 47 = .ok (.ireturn, 1) := by decide +kernel
theorem dX7_bar_48 : decode cX7_bar 48 = .ok (.iload_n 1, 1) := by decide +kernel
theorem dX7_bar_49 : decode cX7_bar 49 = .ok (.ifCond .ge 10, 3) := by decide +kernel
theorem dX7_bar_52 : decode cX7_bar 52 = .ok (.aload_n 0, 1) := by decide +kernel
theorem dX7_bar_53 : decode cX7_bar 53 = .ok (.getfield 184, 3) := by decide +kernel
theorem dX7_bar_56 : decode cX7_bar 56 = .ok (.goto 31, 3) := by decide +kernel
theorem dX7_bar_59 : decode cX7_bar 59 = .ok (.aload_n 0, 1) := by decide +kernel
theorem dX7_bar_60 : decode cX7_bar 60 = .ok (.getfield 45, 3) := by decide +kernel
theorem dX7_bar_63 : decode cX7_bar 63 = .ok (.iload_n 1, 1) := by decide +kernel
theorem dX7_bar_64 : decode cX7_bar 64 = .ok (.iaload, 1) := by decide +kernel
theorem dX7_bar_65 : decode cX7_bar 65 = .ok (.iconst 2, 1) := by decide +kernel
theorem dX7_bar_66 : decode cX7_bar 66 = .ok (.aload_n 0, 1) := by decide +kernel
theorem dX7_bar_67 : decode cX7_bar 67 = .ok (.getfield 7, 3) := by decide +kernel
theorem dX7_bar_70 : decode cX7_bar 70 = .ok (.imul, 1) := by decide +kernel
theorem dX7_bar_71 : decode cX7_bar 71 = .ok (.iconst 2, 1) := by decide +kernel
theorem dX7_bar_72 : decode cX7_bar 72 = .ok (.iadd, 1) := by decide +kernel
theorem dX7_bar_73 : decode cX7_bar 73 = .ok (.if_icmp .ne 8, 3) := by decide +kernel
theorem dX7_bar_76 : decode cX7_bar 76 = .ok (.bipush 14, 2) := by decide +kernel
theorem dX7_bar_78 : decode cX7_bar 78 = .ok (.goto 9, 3) := by decide +kernel
theorem dX7_bar_81 : decode cX7_bar 81 = .ok (.aload_n 0, 1) := by decide +kernel
theorem dX7_bar_82 : decode cX7_bar 82 = .ok (.getfield 45, 3) := by decide +kernel
theorem dX7_bar_85 : decode cX7_bar 85 = .ok (.iload_n 1, 1) := by decide +kernel
theorem dX7_bar_86 : decode cX7_bar 86 = .ok (.iaload, 1) := by decide +kernel
theorem dX7_bar_87 : decode cX7_bar 87 = .ok (.ireturn, 1) := by decide +kernel
theorem dX7_four_0 : decode cX7_four 0 = .ok (.aload_n 0, 1) := by decide +kernel
theorem dX7_four_1 : decode cX7_four 1 = .ok (.getfield 35, 3) := by decide +kernel
theorem dX7_four_4 : decode cX7_four 4 = .ok (.iconst 5, 1) := by decide +kernel
theorem dX7_four_5 : decode cX7_four 5 = .ok (.iload_n 1, 1) := by decide +kernel
theorem dX7_four_6 : decode cX7_four 6 = .ok (.imul, 1) := by decide +kernel
theorem dX7_four_7 : decode cX7_four 7 = .ok (.iload 5, 2) := by decide +kernel
theorem dX7_four_9 : decode cX7_four 9 = .ok (.iadd, 1) := by decide +kernel
theorem dX7_four_10 : decode cX7_four 10 = .ok (.laload, 1) := by decide +kernel
theorem dX7_four_11 : decode cX7_four 11 = .ok (.aload_n 0, 1) := by decide +kernel
theorem dX7_four_12 : decode cX7_four 12 = .ok (.iload_n 2, 1) := by decide +kernel
theorem dX7_four_13 : decode cX7_four 13 = .ok (.iload_n 3, 1) := by decide +kernel
theorem dX7_four_14 : decode cX7_four 14 = .ok (.iload 4, 2) := by decide +kernel
theorem dX7_four_16 : decode cX7_four 16 = .ok (.iload 6, 2) := by decide +kernel
theorem dX7_four_18 : decode cX7_four 18 = .ok (.iload 7, 2) := by decide +kernel
theorem dX7_four_20 : decode cX7_four 20 = .ok (.iload 8, 2) := by decide +kernel
theorem dX7_four_22 : decode cX7_four 22 = .ok (.invokevirtual 95, 3) := by decide +kernel
theorem dX7_four_25 : decode cX7_four 25 = .ok (.lmul, 1) := by decide +kernel
theorem dX7_four_26 : decode cX7_four 26 = .ok (.aload_n 0, 1) := by decide +kernel
theorem dX7_four_27 : decode cX7_four 27 = .ok (.getfield 35, 3) := by decide +kernel
theorem dX7_four_30 : decode cX7_four 30 = .ok (.iconst 5, 1) := by decide +kernel
theorem dX7_four_31 : decode cX7_four 31 = .ok (.iload_n 2, 1) := by decide +kernel
theorem dX7_four_32 : decode cX7_four 32 = .ok (.imul, 1) := by decide +kernel
theorem dX7_four_33 : decode cX7_four 33 = .ok (.iload 5, 2) := by decide +kernel
theorem dX7_four_35 : decode cX7_four 35 = .ok (.iadd, 1) := by decide +kernel
theorem dX7_four_36 : decode cX7_four 36 = .ok (.laload, 1) := by decide +kernel
theorem dX7_four_37 : decode cX7_four 37 = .ok (.aload_n 0, 1) := by decide +kernel
theorem dX7_four_38 : decode cX7_four 38 = .ok (.iload_n 1, 1) := by decide +kernel
theorem dX7_four_39 : decode cX7_four 39 = .ok (.iload_n 3, 1) := by decide +kernel
theorem dX7_four_40 : decode cX7_four 40 = .ok (.iload 4, 2) := by decide +kernel
theorem dX7_four_42 : decode cX7_four 42 = .ok (.iload 6, 2) := by decide +kernel
theorem dX7_four_44 : decode cX7_four 44 = .ok (.iload 7, 2) := by decide +kernel
theorem dX7_four_46 : decode cX7_four 46 = .ok (.iload 8, 2) := by decide +kernel
theorem dX7_four_48 : decode cX7_four 48 = .ok (.invokevirtual 95, 3) := by decide +kernel
theorem dX7_four_51 : decode cX7_four 51 = .ok (.lmul, 1) := by decide +kernel
theorem dX7_four_52 : decode cX7_four 52 = .ok (.lsub, 1) := by decide +kernel
theorem dX7_four_53 : decode cX7_four 53 = .ok (.aload_n 0, 1) := by decide +kernel
theorem dX7_four_54 : decode cX7_four 54 = .ok (.getfield 35, 3) := by decide +kernel
theorem dX7_four_57 : decode cX7_four 57 = .ok (.iconst 5, 1) := by decide +kernel
theorem dX7_four_58 : decode cX7_four 58 = .ok (.iload_n 3, 1) := by decide +kernel
theorem dX7_four_59 : decode cX7_four 59 = .ok (.imul, 1) := by decide +kernel
theorem dX7_four_60 : decode cX7_four 60 = .ok (.iload 5, 2) := by decide +kernel
theorem dX7_four_62 : decode cX7_four 62 = .ok (.iadd, 1) := by decide +kernel
theorem dX7_four_63 : decode cX7_four 63 = .ok (.laload, 1) := by decide +kernel
theorem dX7_four_64 : decode cX7_four 64 = .ok (.aload_n 0, 1) := by decide +kernel
theorem dX7_four_65 : decode cX7_four 65 = .ok (.iload_n 1, 1) := by decide +kernel
theorem dX7_four_66 : decode cX7_four 66 = .ok (.iload_n 2, 1) := by decide +kernel
theorem dX7_four_67 : decode cX7_four 67 = .ok (.iload 4, 2) := by decide +kernel
theorem dX7_four_69 : decode cX7_four 69 = .ok (.iload 6, 2) := by decide +kernel
theorem dX7_four_71 : decode cX7_four 71 = .ok (.iload 7, 2) := by decide +kernel
theorem dX7_four_73 : decode cX7_four 73 = .ok (.iload 8, 2) := by decide +kernel
theorem dX7_four_75 : decode cX7_four 75 = .ok (.invokevirtual 95, 3) := by decide +kernel
theorem dX7_four_78 : decode cX7_four 78 = .ok (.lmul, 1) := by decide +kernel
theorem dX7_four_79 : decode cX7_four 79 = .ok (.ladd, 1) := by decide +kernel
theorem dX7_four_80 : decode cX7_four 80 = .ok (.aload_n 0, 1) := by decide +kernel
theorem dX7_four_81 : decode cX7_four 81 = .ok (.getfield 35, 3) := by decide +kernel
theorem dX7_four_84 : decode cX7_four 84 = .ok (.iconst 5, 1) := by decide +kernel
theorem dX7_four_85 : decode cX7_four 85 = .ok (.iload 4, 2) := by decide +kernel
theorem dX7_four_87 : decode cX7_four 87 = .ok (.imul, 1) := by decide +kernel
theorem dX7_four_88 : decode cX7_four 88 = .ok (.iload 5, 2) := by decide +kernel
theorem dX7_four_90 : decode cX7_four 90 = .ok (.iadd, 1) := by decide +kernel
theorem dX7_four_91 : decode cX7_four 91 = .ok (.laload, 1) := by decide +kernel
theorem dX7_four_92 : decode cX7_four 92 = .ok (.aload_n 0, 1) := by decide +kernel
theorem dX7_four_93 : decode cX7_four 93 = .ok (.iload_n 1, 1) := by decide +kernel
theorem dX7_four_94 : decode cX7_four 94 = .ok (.iload_n 2, 1) := by decide +kernel
theorem dX7_four_95 : decode cX7_four 95 = .ok (.iload_n 3, 1) := by decide +kernel
theorem dX7_four_96 : decode cX7_four 96 = .ok (.iload 6, 2) := by decide +kernel
theorem dX7_four_98 : decode cX7_four 98 = .ok (.iload 7, 2) := by decide +kernel
theorem dX7_four_100 : decode cX7_four 100 = .ok (.iload 8, 2) := by decide +kernel
theorem dX7_four_102 : decode cX7_four 102 = .ok (.invokevirtual 95, 3) := by decide +kernel
theorem dX7_four_105 : decode cX7_four 105 = .ok (.lmul, 1) := by decide +kernel
theorem dX7_four_106 : decode cX7_four 106 = .ok (.lsub, 1) := by decide +kernel
theorem dX7_four_107 : decode cX7_four 107 = .ok (.lreturn, 1) := by decide +kernel
theorem dX7_meetFour_0 : decode cX7_meetFour 0 = .ok (.aload_n 0, 1) := by decide +kernel
theorem dX7_meetFour_1 : decode cX7_meetFour 1 = .ok (.aload_n 0, 1) := by decide +kernel
theorem dX7_meetFour_2 : decode cX7_meetFour 2 = .ok (.iload_n 1, 1) := by decide +kernel
theorem dX7_meetFour_3 : decode cX7_meetFour 3 = .ok (.iload_n 2, 1) := by decide +kernel
theorem dX7_meetFour_4 : decode cX7_meetFour 4 = .ok (.iload_n 3, 1) := by decide +kernel
theorem dX7_meetFour_5 : decode cX7_meetFour 5 = .ok (.iload 4, 2) := by decide +kernel
theorem dX7_meetFour_7 : decode cX7_meetFour 7 = .ok (.iconst 3, 1) := by decide +kernel
theorem dX7_meetFour_8 : decode cX7_meetFour 8 = .ok (.iconst 0, 1) := by decide +kernel
theorem dX7_meetFour_9 : decode cX7_meetFour 9 = .ok (.iconst 1, 1) := by decide +kernel
theorem dX7_meetFour_10 : decode cX7_meetFour 10 = .ok (.iconst 2, 1) := by decide +kernel
theorem dX7_meetFour_11 : decode cX7_meetFour 11 = .ok (.invokevirtual 187, 3) := by decide +kernel
theorem dX7_meetFour_14 : decode cX7_meetFour 14 = .ok (.putfield 91, 3) := by decide +kernel
theorem dX7_meetFour_17 : decode cX7_meetFour 17 = .ok (.aload_n 0, 1) := by decide +kernel
theorem dX7_meetFour_18 : decode cX7_meetFour 18 = .ok (.getfield 91, 3) := by decide +kernel
theorem dX7_meetFour_21 : decode cX7_meetFour 21 = .ok (.lconst 0, 1) := by decide +kernel
theorem dX7_meetFour_22 : decode cX7_meetFour 22 = .ok (.lcmp, 1) := by decide +kernel
theorem dX7_meetFour_23 : decode cX7_meetFour 23 = .ok (.ifCond .ne 5, 3) := by decide +kernel
theorem dX7_meetFour_26 : decode cX7_meetFour 26 = .ok (.iconst 0, 1) := by decide +kernel
theorem dX7_meetFour_27 : decode cX7_meetFour 27 = .ok (.ireturn, 1) := by decide +kernel
theorem dX7_meetFour_28 : decode cX7_meetFour 28 = .ok (.aload_n 0, 1) := by decide +kernel
theorem dX7_meetFour_29 : decode cX7_meetFour 29 = .ok (.getfield 39, 3) := by decide +kernel
theorem dX7_meetFour_32 : decode cX7_meetFour 32 = .ok (.iconst 3, 1) := by decide +kernel
theorem dX7_meetFour_33 : decode cX7_meetFour 33 = .ok (.aload_n 0, 1) := by decide +kernel
theorem dX7_meetFour_34 : decode cX7_meetFour 34 = .ok (.iload_n 1, 1) := by decide +kernel
theorem dX7_meetFour_35 : decode cX7_meetFour 35 = .ok (.iload_n 2, 1) := by decide +kernel
theorem dX7_meetFour_36 : decode cX7_meetFour 36 = .ok (.iload_n 3, 1) := by decide +kernel
theorem dX7_meetFour_37 : decode cX7_meetFour 37 = .ok (.iload 4, 2) := by decide +kernel
theorem dX7_meetFour_39 : decode cX7_meetFour 39 = .ok (.iconst 4, 1) := by decide +kernel
theorem dX7_meetFour_40 : decode cX7_meetFour 40 = .ok (.iconst 0, 1) := by decide +kernel
theorem dX7_meetFour_41 : decode cX7_meetFour 41 = .ok (.iconst 1, 1) := by decide +kernel
theorem dX7_meetFour_42 : decode cX7_meetFour 42 = .ok (.iconst 2, 1) := by decide +kernel
theorem dX7_meetFour_43 : decode cX7_meetFour 43 = .ok (.invokevirtual 187, 3) := by decide +kernel
theorem dX7_meetFour_46 : decode cX7_meetFour 46 = .ok (.lastore, 1) := by decide +kernel
theorem dX7_meetFour_47 : decode cX7_meetFour 47 = .ok (.aload_n 0, 1) := by decide +kernel
theorem dX7_meetFour_48 : decode cX7_meetFour 48 = .ok (.getfield 39, 3) := by decide +kernel
theorem dX7_meetFour_51 : decode cX7_meetFour 51 = .ok (.iconst 0, 1) := by decide +kernel
theorem dX7_meetFour_52 : decode cX7_meetFour 52 = .ok (.aload_n 0, 1) := by decide +kernel
theorem dX7_meetFour_53 : decode cX7_meetFour 53 = .ok (.iload_n 1, 1) := by decide +kernel
theorem dX7_meetFour_54 : decode cX7_meetFour 54 = .ok (.iload_n 2, 1) := by decide +kernel
theorem dX7_meetFour_55 : decode cX7_meetFour 55 = .ok (.iload_n 3, 1) := by decide +kernel
theorem dX7_meetFour_56 : decode cX7_meetFour 56 = .ok (.iload 4, 2) := by decide +kernel
theorem dX7_meetFour_58 : decode cX7_meetFour 58 = .ok (.iconst 3, 1) := by decide +kernel
theorem dX7_meetFour_59 : decode cX7_meetFour 59 = .ok (.iconst 4, 1) := by decide +kernel
theorem dX7_meetFour_60 : decode cX7_meetFour 60 = .ok (.iconst 1, 1) := by decide +kernel
theorem dX7_meetFour_61 : decode cX7_meetFour 61 = .ok (.iconst 2, 1) := by decide +kernel
theorem dX7_meetFour_62 : decode cX7_meetFour 62 = .ok (.invokevirtual 187, 3) := by decide +kernel
theorem dX7_meetFour_65 : decode cX7_meetFour 65 = .ok (.lastore, 1) := by decide +kernel
theorem dX7_meetFour_66 : decode cX7_meetFour 66 = .ok (.aload_n 0, 1) := by decide +kernel
theorem dX7_meetFour_67 : decode cX7_meetFour 67 = .ok (.getfield 39, 3) := by decide +kernel
theorem dX7_meetFour_70 : decode cX7_meetFour 70 = .ok (.iconst 1, 1) := by decide +kernel
theorem dX7_meetFour_71 : decode cX7_meetFour 71 = .ok (.aload_n 0, 1) := by decide +kernel
theorem dX7_meetFour_72 : decode cX7_meetFour 72 = .ok (.iload_n 1, 1) := by decide +kernel
theorem dX7_meetFour_73 : decode cX7_meetFour 73 = .ok (.iload_n 2, 1) := by decide +kernel
theorem dX7_meetFour_74 : decode cX7_meetFour 74 = .ok (.iload_n 3, 1) := by decide +kernel
theorem dX7_meetFour_75 : decode cX7_meetFour 75 = .ok (.iload 4, 2) := by decide +kernel
theorem dX7_meetFour_77 : decode cX7_meetFour 77 = .ok (.iconst 3, 1) := by decide +kernel
theorem dX7_meetFour_78 : decode cX7_meetFour 78 = .ok (.iconst 0, 1) := by decide +kernel
theorem dX7_meetFour_79 : decode cX7_meetFour 79 = .ok (.iconst 4, 1) := by decide +kernel
theorem dX7_meetFour_80 : decode cX7_meetFour 80 = .ok (.iconst 2, 1) := by decide +kernel
theorem dX7_meetFour_81 : decode cX7_meetFour 81 = .ok (.invokevirtual 187, 3) := by decide +kernel
theorem dX7_meetFour_84 : decode cX7_meetFour 84 = .ok (.lastore, 1) := by decide +kernel
theorem dX7_meetFour_85 : decode cX7_meetFour 85 = .ok (.aload_n 0, 1) := by decide +kernel
theorem dX7_meetFour_86 : decode cX7_meetFour 86 = .ok (.getfield 39, 3) := by decide +kernel
theorem dX7_meetFour_89 : decode cX7_meetFour 89 = .ok (.iconst 2, 1) := by decide +kernel
theorem dX7_meetFour_90 : decode cX7_meetFour 90 = .ok (.aload_n 0, 1) := by decide +kernel
theorem dX7_meetFour_91 : decode cX7_meetFour 91 = .ok (.iload_n 1, 1) := by decide +kernel
theorem dX7_meetFour_92 : decode cX7_meetFour 92 = .ok (.iload_n 2, 1) := by decide +kernel
theorem dX7_meetFour_93 : decode cX7_meetFour 93 = .ok (.iload_n 3, 1) := by decide +kernel
theorem dX7_meetFour_94 : decode cX7_meetFour 94 = .ok (.iload 4, 2) := by decide +kernel
theorem dX7_meetFour_96 : decode cX7_meetFour 96 = .ok (.iconst 3, 1) := by decide +kernel
theorem dX7_meetFour_97 : decode cX7_meetFour 97 = .ok (.iconst 0, 1) := by decide +kernel
theorem dX7_meetFour_98 : decode cX7_meetFour 98 = .ok (.iconst 1, 1) := by decide +kernel
theorem dX7_meetFour_99 : decode cX7_meetFour 99 = .ok (.iconst 4, 1) := by decide +kernel
theorem dX7_meetFour_100 : decode cX7_meetFour 100 = .ok (.invokevirtual 187, 3) := by decide +kernel
theorem dX7_meetFour_103 : decode cX7_meetFour 103 = .ok (.lastore, 1) := by decide +kernel
theorem dX7_meetFour_104 : decode cX7_meetFour 104 = .ok (.aload_n 0, 1) := by decide +kernel
theorem dX7_meetFour_105 : decode cX7_meetFour 105 = .ok (.invokevirtual 99, 3) := by decide +kernel
theorem dX7_meetFour_108 : decode cX7_meetFour 108 = .ok (.aload_n 0, 1) := by decide +kernel
theorem dX7_meetFour_109 : decode cX7_meetFour 109 = .ok (.getfield 191, 3) := by decide +kernel
theorem dX7_meetFour_112 : decode cX7_meetFour 112 = .ok (.lconst 0, 1) := by decide +kernel
theorem dX7_meetFour_113 : decode cX7_meetFour 113 = .ok (.lcmp, 1) := by decide +kernel
theorem dX7_meetFour_114 : decode cX7_meetFour 114 = .ok (.ifCond .le 57, 3) := by decide +kernel
theorem dX7_meetFour_117 : decode cX7_meetFour 117 = .ok (.aload_n 0, 1) := by decide +kernel
theorem dX7_meetFour_118 : decode cX7_meetFour 118 = .ok (.getfield 39, 3) := by decide +kernel
theorem dX7_meetFour_121 : decode cX7_meetFour 121 = .ok (.iconst 3, 1) := by decide +kernel
theorem dX7_meetFour_122 : decode cX7_meetFour 122 = .ok (.laload, 1) := by decide +kernel
theorem dX7_meetFour_123 : decode cX7_meetFour 123 = .ok (.aload_n 0, 1) := by decide +kernel
theorem dX7_meetFour_124 : decode cX7_meetFour 124 = .ok (.getfield 39, 3) := by decide +kernel
theorem dX7_meetFour_127 : decode cX7_meetFour 127 = .ok (.iconst 3, 1) := by decide +kernel
theorem dX7_meetFour_128 : decode cX7_meetFour 128 = .ok (.laload, 1) := by decide +kernel
theorem dX7_meetFour_129 : decode cX7_meetFour 129 = .ok (.aload_n 0, 1) := by decide +kernel
theorem dX7_meetFour_130 : decode cX7_meetFour 130 = .ok (.getfield 91, 3) := by decide +kernel
theorem dX7_meetFour_133 : decode cX7_meetFour 133 = .ok (.invokestatic 125, 3) := by decide +kernel
theorem dX7_meetFour_136 : decode cX7_meetFour 136 = .ok (.ldiv, 1) := by decide +kernel
theorem dX7_meetFour_137 : decode cX7_meetFour 137 = .ok (.aload_n 0, 1) := by decide +kernel
theorem dX7_meetFour_138 : decode cX7_meetFour 138 = .ok (.getfield 91, 3) := by decide +kernel
theorem dX7_meetFour_141 : decode cX7_meetFour 141 = .ok (.aload_n 0, 1) := by decide +kernel
theorem dX7_meetFour_142 : decode cX7_meetFour 142 = .ok (.getfield 39, 3) := by decide +kernel
theorem dX7_meetFour_145 : decode cX7_meetFour 145 = .ok (.iconst 3, 1) := by decide +kernel
theorem dX7_meetFour_146 : decode cX7_meetFour 146 = .ok (.laload, 1) := by decide +kernel
theorem dX7_meetFour_147 : decode cX7_meetFour 147 = .ok (.aload_n 0, 1) := by decide +kernel
theorem dX7_meetFour_148 : decode cX7_meetFour 148 = .ok (.getfield 91, 3) := by decide +kernel
theorem dX7_meetFour_151 : decode cX7_meetFour 151 = .ok (.invokestatic 125, 3) := by decide +kernel
theorem dX7_meetFour_154 : decode cX7_meetFour 154 = .ok (.ldiv, 1) := by decide +kernel
theorem dX7_meetFour_155 : decode cX7_meetFour 155 = .ok (.aload_n 0, 1) := by decide +kernel
theorem dX7_meetFour_156 : decode cX7_meetFour 156 = .ok (.getfield 194, 3) := by decide +kernel
theorem dX7_meetFour_159 : decode cX7_meetFour 159 = .ok (.aload_n 0, 1) := by decide +kernel
theorem dX7_meetFour_160 : decode cX7_meetFour 160 = .ok (.getfield 191, 3) := by decide +kernel
theorem dX7_meetFour_163 : decode cX7_meetFour 163 = .ok (.invokestatic 131, 3) := by decide +kernel
theorem dX7_meetFour_166 : decode cX7_meetFour 166 = .ok (.ifCond .lt 5, 3) := by decide +kernel
theorem dX7_meetFour_169 : decode cX7_meetFour 169 = .ok (.iconst 0, 1) := by decide +kernel
theorem dX7_meetFour_170 : decode cX7_meetFour 170 = .ok (.ireturn, 1) := by decide +kernel
theorem dX7_meetFour_171 : decode cX7_meetFour 171 = .ok (.aload_n 0, 1) := by decide +kernel
theorem dX7_meetFour_172 : decode cX7_meetFour 172 = .ok (.invokevirtual 102, 3) := by decide +kernel
theorem dX7_meetFour_175 : decode cX7_meetFour 175 = .ok (.ireturn, 1) := by decide +kernel
theorem dX7_findFactor_0 : decode cX7_findFactor 0 = .ok (.aload_n 0, 1) := by decide +kernel
theorem dX7_findFactor_1 : decode cX7_findFactor 1 = .ok (.iconst 1, 1) := by decide +kernel
theorem dX7_findFactor_2 : decode cX7_findFactor 2 = .ok (.invokevirtual 110, 3) := by decide +kernel
theorem dX7_findFactor_5 : decode cX7_findFactor 5 = .ok (.aload_n 0, 1) := by decide +kernel
theorem dX7_findFactor_6 : decode cX7_findFactor 6 = .ok (.lconst 0, 1) := by decide +kernel
theorem dX7_findFactor_7 : decode cX7_findFactor 7 = .ok (.putfield 191, 3) := by decide +kernel
theorem dX7_findFactor_10 : decode cX7_findFactor 10 = .ok (.iconst 0, 1) := by decide +kernel
theorem dX7_findFactor_11 : decode cX7_findFactor 11 = .ok (.istore_n 1, 1) := by decide +kernel
theorem dX7_findFactor_12 : decode cX7_findFactor 12 = .ok (.iload_n 1, 1) := by decide +kernel
theorem dX7_findFactor_13 : decode cX7_findFactor 13 = .ok (.aload_n 0, 1) := by decide +kernel
theorem dX7_findFactor_14 : decode cX7_findFactor 14 = .ok (.getfield 88, 3) := by decide +kernel
theorem dX7_findFactor_17 : decode cX7_findFactor 17 = .ok (.if_icmp .ge 116, 3) := by decide +kernel
theorem dX7_findFactor_20 : decode cX7_findFactor 20 = .ok (.iload_n 1, 1) := by decide +kernel
theorem dX7_findFactor_21 : decode cX7_findFactor 21 = .ok (.iconst 1, 1) := by decide +kernel
theorem dX7_findFactor_22 : decode cX7_findFactor 22 = .ok (.iadd, 1) := by decide +kernel
theorem dX7_findFactor_23 : decode cX7_findFactor 23 = .ok (.istore_n 2, 1) := by decide +kernel
theorem dX7_findFactor_24 : decode cX7_findFactor 24 = .ok (.iload_n 2, 1) := by decide +kernel
theorem dX7_findFactor_25 : decode cX7_findFactor 25 = .ok (.aload_n 0, 1) := by decide +kernel
theorem dX7_findFactor_26 : decode cX7_findFactor 26 = .ok (.getfield 88, 3) := by decide +kernel
theorem dX7_findFactor_29 : decode cX7_findFactor 29 = .ok (.if_icmp .ge 98, 3) := by decide +kernel
theorem dX7_findFactor_32 : decode cX7_findFactor 32 = .ok (.iload_n 2, 1) := by decide +kernel
theorem dX7_findFactor_33 : decode cX7_findFactor 33 = .ok (.iconst 1, 1) := by decide +kernel
theorem dX7_findFactor_34 : decode cX7_findFactor 34 = .ok (.iadd, 1) := by decide +kernel
theorem dX7_findFactor_35 : decode cX7_findFactor 35 = .ok (.istore_n 3, 1) := by decide +kernel
theorem dX7_findFactor_36 : decode cX7_findFactor 36 = .ok (.iload_n 3, 1) := by decide +kernel
theorem dX7_findFactor_37 : decode cX7_findFactor 37 = .ok (.aload_n 0, 1) := by decide +kernel
theorem dX7_findFactor_38 : decode cX7_findFactor 38 = .ok (.getfield 88, 3) := by decide +kernel
theorem dX7_findFactor_41 : decode cX7_findFactor 41 = .ok (.if_icmp .ge 80, 3) := by decide +kernel
theorem dX7_findFactor_44 : decode cX7_findFactor 44 = .ok (.iload_n 3, 1) := by decide +kernel
theorem dX7_findFactor_45 : decode cX7_findFactor 45 = .ok (.iconst 1, 1) := by decide +kernel
theorem dX7_findFactor_46 : decode cX7_findFactor 46 = .ok (.iadd, 1) := by decide +kernel
theorem dX7_findFactor_47 : decode cX7_findFactor 47 = .ok (.istore 4, 2) := by decide +kernel
theorem dX7_findFactor_49 : decode cX7_findFactor 49 = .ok (.iload 4, 2) := by decide +kernel
theorem dX7_findFactor_51 : decode cX7_findFactor 51 = .ok (.aload_n 0, 1) := by decide +kernel
theorem dX7_findFactor_52 : decode cX7_findFactor 52 = .ok (.getfield 88, 3) := by decide +kernel
theorem dX7_findFactor_55 : decode cX7_findFactor 55 = .ok (.if_icmp .ge 60, 3) := by decide +kernel
theorem dX7_findFactor_58 : decode cX7_findFactor 58 = .ok (.aload_n 0, 1) := by decide +kernel
theorem dX7_findFactor_59 : decode cX7_findFactor 59 = .ok (.iload_n 1, 1) := by decide +kernel
theorem dX7_findFactor_60 : decode cX7_findFactor 60 = .ok (.iload_n 2, 1) := by decide +kernel
theorem dX7_findFactor_61 : decode cX7_findFactor 61 = .ok (.iload_n 3, 1) := by decide +kernel
theorem dX7_findFactor_62 : decode cX7_findFactor 62 = .ok (.iload 4, 2) := by decide +kernel
theorem dX7_findFactor_64 : decode cX7_findFactor 64 = .ok (.invokevirtual 197, 3) := by decide +kernel
theorem dX7_findFactor_67 : decode cX7_findFactor 67 = .ok (.ifCond .eq 42, 3) := by decide +kernel
theorem dX7_findFactor_70 : decode cX7_findFactor 70 = .ok (.aload_n 0, 1) := by decide +kernel
theorem dX7_findFactor_71 : decode cX7_findFactor 71 = .ok (.getfield 39, 3) := by decide +kernel
theorem dX7_findFactor_74 : decode cX7_findFactor 74 = .ok (.iconst 3, 1) := by decide +kernel
theorem dX7_findFactor_75 : decode cX7_findFactor 75 = .ok (.laload, 1) := by decide +kernel
theorem dX7_findFactor_76 : decode cX7_findFactor 76 = .ok (.aload_n 0, 1) := by decide +kernel
theorem dX7_findFactor_77 : decode cX7_findFactor 77 = .ok (.getfield 91, 3) := by decide +kernel
theorem dX7_findFactor_80 : decode cX7_findFactor 80 = .ok (.invokestatic 125, 3) := by decide +kernel
theorem dX7_findFactor_83 : decode cX7_findFactor 83 = .ok (.lstore 5, 2) := by decide +kernel
theorem dX7_findFactor_85 : decode cX7_findFactor 85 = .ok (.aload_n 0, 1) := by decide +kernel
theorem dX7_findFactor_86 : decode cX7_findFactor 86 = .ok (.aload_n 0, 1) := by decide +kernel
theorem dX7_findFactor_87 : decode cX7_findFactor 87 = .ok (.getfield 39, 3) := by decide +kernel
theorem dX7_findFactor_90 : decode cX7_findFactor 90 = .ok (.iconst 3, 1) := by decide +kernel
theorem dX7_findFactor_91 : decode cX7_findFactor 91 = .ok (.laload, 1) := by decide +kernel
theorem dX7_findFactor_92 : decode cX7_findFactor 92 = .ok (.lload 5, 2) := by decide +kernel
theorem dX7_findFactor_94 : decode cX7_findFactor 94 = .ok (.ldiv, 1) := by decide +kernel
theorem dX7_findFactor_95 : decode cX7_findFactor 95 = .ok (.putfield 194, 3) := by decide +kernel
theorem dX7_findFactor_98 : decode cX7_findFactor 98 = .ok (.aload_n 0, 1) := by decide +kernel
theorem dX7_findFactor_99 : decode cX7_findFactor 99 = .ok (.aload_n 0, 1) := by decide +kernel
theorem dX7_findFactor_100 : decode cX7_findFactor 100 = .ok (.getfield 91, 3) := by decide +kernel
theorem dX7_findFactor_103 : decode cX7_findFactor 103 = .ok (.lload 5, 2) := by decide +kernel
theorem dX7_findFactor_105 : decode cX7_findFactor 105 = .ok (.ldiv, 1) := by decide +kernel
theorem dX7_findFactor_106 : decode cX7_findFactor 106 = .ok (.putfield 191, 3) := by decide +kernel
theorem dX7_findFactor_109 : decode cX7_findFactor 109 = .ok (.iinc 4 1, 3) := by decide +kernel
theorem dX7_findFactor_112 : decode cX7_findFactor 112 = .ok (.goto (-63), 3) := by decide +kernel
theorem dX7_findFactor_115 : decode cX7_findFactor 115 = .ok (.iinc 3 1, 3) := by decide +kernel
theorem dX7_findFactor_118 : decode cX7_findFactor 118 = .ok (.goto (-82), 3) := by decide +kernel
theorem dX7_findFactor_121 : decode cX7_findFactor 121 = .ok (.iinc 2 1, 3) := by decide +kernel
theorem dX7_findFactor_124 : decode cX7_findFactor 124 = .ok (.goto (-100), 3) := by decide +kernel
theorem dX7_findFactor_127 : decode cX7_findFactor 127 = .ok (.iinc 1 1, 3) := by decide +kernel
theorem dX7_findFactor_130 : decode cX7_findFactor 130 = .ok (.goto (-118), 3) := by decide +kernel
theorem dX7_findFactor_133 : decode cX7_findFactor 133 = .ok (.aload_n 0, 1) := by decide +kernel
theorem dX7_findFactor_134 : decode cX7_findFactor 134 = .ok (.getfield 191, 3) := by decide +kernel
theorem dX7_findFactor_137 : decode cX7_findFactor 137 = .ok (.lconst 0, 1) := by decide +kernel
theorem dX7_findFactor_138 : decode cX7_findFactor 138 = .ok (.lcmp, 1) := by decide +kernel
theorem dX7_findFactor_139 : decode cX7_findFactor 139 = .ok (.ifCond .le 7, 3) := by decide +kernel
theorem dX7_findFactor_142 : decode cX7_findFactor 142 = .ok (.iconst 1, 1) := by decide +kernel
theorem dX7_findFactor_143 : decode cX7_findFactor 143 = .ok (.goto 4, 3) := by decide +kernel
theorem dX7_findFactor_146 : decode cX7_findFactor 146 = .ok (.iconst 0, 1) := by decide +kernel
theorem dX7_findFactor_147 : decode cX7_findFactor 147 = .ok (.ireturn, 1) := by decide +kernel
theorem dX7_factor_0 : decode cX7_factor 0 = .ok (.iload_n 1, 1) := by decide +kernel
theorem dX7_factor_1 : decode cX7_factor 1 = .ok (.i2l, 1) := by decide +kernel
