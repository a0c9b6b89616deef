theorem dX5_tightestMost_15 : decode cX5_tightestMost 15 = .ok (.aload_n 0, 1) := by decide +kernel
theorem dX5_tightestMost_16 : decode cX5_tightestMost 16 = .ok (.getfield 16, 3) := by decide +kernel
theorem dX5_tightestMost_19 : decode cX5_tightestMost 19 = .ok (.iload 6, 2) := by decide +kernel
theorem dX5_tightestMost_21 : decode cX5_tightestMost 21 = .ok (.laload, 1) := by decide +kernel
theorem dX5_tightestMost_22 : decode cX5_tightestMost 22 = .ok (.lconst 0, 1) := by decide +kernel
theorem dX5_tightestMost_23 : decode cX5_tightestMost 23 = .ok (.lcmp, 1) := by decide +kernel
theorem dX5_tightestMost_24 : decode cX5_tightestMost 24 = .ok (.ifCond .le 48, 3) := by decide +kernel
theorem dX5_tightestMost_27 : decode cX5_tightestMost 27 = .ok (.iload 5, 2) := by decide +kernel
theorem dX5_tightestMost_29 : decode cX5_tightestMost 29 = .ok (.ifCond .eq 39, 3) := by decide +kernel
theorem dX5_tightestMost_32 : decode cX5_tightestMost 32 = .ok (.aload_n 0, 1) := by decide +kernel
theorem dX5_tightestMost_33 : decode cX5_tightestMost 33 = .ok (.iload 6, 2) := by decide +kernel
theorem dX5_tightestMost_35 : decode cX5_tightestMost 35 = .ok (.lload_n 1, 1) := by decide +kernel
theorem dX5_tightestMost_36 : decode cX5_tightestMost 36 = .ok (.lload_n 3, 1) := by decide +kernel
theorem dX5_tightestMost_37 : decode cX5_tightestMost 37 = .ok (.invokevirtual 90, 3) := by decide +kernel
theorem dX5_tightestMost_40 : decode cX5_tightestMost 40 = .ok (.aload_n 0, 1) := by decide +kernel
theorem dX5_tightestMost_41 : decode cX5_tightestMost 41 = .ok (.getfield 16, 3) := by decide +kernel
theorem dX5_tightestMost_44 : decode cX5_tightestMost 44 = .ok (.iload 5, 2) := by decide +kernel
theorem dX5_tightestMost_46 : decode cX5_tightestMost 46 = .ok (.laload, 1) := by decide +kernel
theorem dX5_tightestMost_47 : decode cX5_tightestMost 47 = .ok (.lmul, 1) := by decide +kernel
theorem dX5_tightestMost_48 : decode cX5_tightestMost 48 = .ok (.aload_n 0, 1) := by decide +kernel
theorem dX5_tightestMost_49 : decode cX5_tightestMost 49 = .ok (.iload 5, 2) := by decide +kernel
theorem dX5_tightestMost_51 : decode cX5_tightestMost 51 = .ok (.lload_n 1, 1) := by decide +kernel
theorem dX5_tightestMost_52 : decode cX5_tightestMost 52 = .ok (.lload_n 3, 1) := by decide +kernel
theorem dX5_tightestMost_53 : decode cX5_tightestMost 53 = .ok (.invokevirtual 90, 3) := by decide +kernel
theorem dX5_tightestMost_56 : decode cX5_tightestMost 56 = .ok (.aload_n 0, 1) := by decide +kernel
theorem dX5_tightestMost_57 : decode cX5_tightestMost 57 = .ok (.getfield 16, 3) := by decide +kernel
theorem dX5_tightestMost_60 : decode cX5_tightestMost 60 = .ok (.iload 6, 2) := by decide +kernel
theorem dX5_tightestMost_62 : decode cX5_tightestMost 62 = .ok (.laload, 1) := by decide +kernel
theorem dX5_tightestMost_63 : decode cX5_tightestMost 63 = .ok (.lmul, 1) := by decide +kernel
theorem dX5_tightestMost_64 : decode cX5_tightestMost 64 = .ok (.lcmp, 1) := by decide +kernel
theorem dX5_tightestMost_65 : decode cX5_tightestMost 65 = .ok (.ifCond .ge 7, 3) := by decide +kernel
theorem dX5_tightestMost_68 : decode cX5_tightestMost 68 = .ok (.iload 6, 2) := by decide +kernel
theorem dX5_tightestMost_70 : decode cX5_tightestMost 70 = .ok (.istore 5, 2) := by decide +kernel
theorem dX5_tightestMost_72 : decode cX5_tightestMost 72 = .ok (.iinc 6 1, 3) := by decide +kernel
theorem dX5_tightestMost_75 : decode cX5_tightestMost 75 = .ok (.goto (-69), 3) := by decide +kernel
theorem dX5_tightestMost_78 : decode cX5_tightestMost 78 = .ok (.iload 5, 2) := by decide +kernel
theorem dX5_tightestMost_80 : decode cX5_tightestMost 80 = .ok (.ireturn, 1) := by decide +kernel
theorem dX5_bars_0 : decode cX5_bars 0 = .ok (.iload_n 2, 1) := by decide +kernel
theorem dX5_bars_1 : decode cX5_bars 1 = .ok (.ifCond .eq 41, 3) := by decide +kernel
theorem dX5_bars_4 : decode cX5_bars 4 = .ok (.aload_n 0, 1) := by decide +kernel
theorem dX5_bars_5 : decode cX5_bars 5 = .ok (.iload_n 1, 1) := by decide +kernel
theorem dX5_bars_6 : decode cX5_bars 6 = .ok (.lload_n 3, 1) := by decide +kernel
theorem dX5_bars_7 : decode cX5_bars 7 = .ok (.lload 5, 2) := by decide +kernel
theorem dX5_bars_9 : decode cX5_bars 9 = .ok (.invokevirtual 86, 3) := by decide +kernel
theorem dX5_bars_12 : decode cX5_bars 12 = .ok (.aload_n 0, 1) := by decide +kernel
theorem dX5_bars_13 : decode cX5_bars 13 = .ok (.getfield 16, 3) := by decide +kernel
theorem dX5_bars_16 : decode cX5_bars 16 = .ok (.iload_n 2, 1) := by decide +kernel
theorem dX5_bars_17 : decode cX5_bars 17 = .ok (.laload, 1) := by decide +kernel
theorem dX5_bars_18 : decode cX5_bars 18 = .ok (.lmul, 1) := by decide +kernel
theorem dX5_bars_19 : decode cX5_bars 19 = .ok (.aload_n 0, 1) := by decide +kernel
theorem dX5_bars_20 : decode cX5_bars 20 = .ok (.iload_n 2, 1) := by decide +kernel
theorem dX5_bars_21 : decode cX5_bars 21 = .ok (.lload_n 3, 1) := by decide +kernel
theorem dX5_bars_22 : decode cX5_bars 22 = .ok (.lload 5, 2) := by decide +kernel
theorem dX5_bars_24 : decode cX5_bars 24 = .ok (.invokevirtual 90, 3) := by decide +kernel
theorem dX5_bars_27 : decode cX5_bars 27 = .ok (.aload_n 0, 1) := by decide +kernel
theorem dX5_bars_28 : decode cX5_bars 28 = .ok (.getfield 16, 3) := by decide +kernel
theorem dX5_bars_31 : decode cX5_bars 31 = .ok (.iload_n 1, 1) := by decide +kernel
theorem dX5_bars_32 : decode cX5_bars 32 = .ok (.laload, 1) := by decide +kernel
theorem dX5_bars_33 : decode cX5_bars 33 = .ok (.lmul, 1) := by decide +kernel
theorem dX5_bars_34 : decode cX5_bars 34 = .ok (.lcmp, 1) := by decide +kernel
theorem dX5_bars_35 : decode cX5_bars 35 = .ok (.ifCond .le 7, 3) := by decide +kernel
theorem dX5_bars_38 : decode cX5_bars 38 = .ok (.iconst 1, 1) := by decide +kernel
theorem dX5_bars_39 : decode cX5_bars 39 = .ok (.goto 4, 3) := by decide +kernel
theorem dX5_bars_42 : decode cX5_bars 42 = .ok (.iconst 0, 1) := by decide +kernel
theorem dX5_bars_43 : decode cX5_bars 43 = .ok (.ireturn, 1) := by decide +kernel
theorem dX6_init_0 : decode cX6_init 0 = .ok (.aload_n 0, 1) := by decide +kernel
theorem dX6_init_1 : decode cX6_init 1 = .ok (.invokespecial 3, 3) := by decide +kernel
theorem dX6_init_4 : decode cX6_init 4 = .ok (.aload_n 0, 1) := by decide +kernel
theorem dX6_init_5 : decode cX6_init 5 = .ok (.new 9, 3) := by decide +kernel
theorem dX6_init_8 : decode cX6_init 8 = .ok (.dup, 1) := by decide +kernel
theorem dX6_init_9 : decode cX6_init 9 = .ok (.invokespecial 11, 3) := by decide +kernel
theorem dX6_init_12 : decode cX6_init 12 = .ok (.putfield 12, 3) := by decide +kernel
theorem dX6_init_15 : decode cX6_init 15 = .ok (.aload_n 0, 1) := by decide +kernel
theorem dX6_init_16 : decode cX6_init 16 = .ok (.new 16, 3) := by decide +kernel
theorem dX6_init_19 : decode cX6_init 19 = .ok (.dup, 1) := by decide +kernel
theorem dX6_init_20 : decode cX6_init 20 = .ok (.aload_n 0, 1) := by decide +kernel
theorem dX6_init_21 : decode cX6_init 21 = .ok (.getfield 12, 3) := by decide +kernel
theorem dX6_init_24 : decode cX6_init 24 = .ok (.invokespecial 18, 3) := by decide +kernel
theorem dX6_init_27 : decode cX6_init 27 = .ok (.putfield 21, 3) := by decide +kernel
theorem dX6_init_30 : decode cX6_init 30 = .ok (.aload_n 0, 1) := by decide +kernel
theorem dX6_init_31 : decode cX6_init 31 = .ok (.new 25, 3) := by decide +kernel
theorem dX6_init_34 : decode cX6_init 34 = .ok (.dup, 1) := by decide +kernel
theorem dX6_init_35 : decode cX6_init 35 = .ok (.aload_n 0, 1) := by decide +kernel
theorem dX6_init_36 : decode cX6_init 36 = .ok (.getfield 12, 3) := by decide +kernel
theorem dX6_init_39 : decode cX6_init 39 = .ok (.invokespecial 27, 3) := by decide +kernel
theorem dX6_init_42 : decode cX6_init 42 = .ok (.putfield 28, 3) := by decide +kernel
theorem dX6_init_45 : decode cX6_init 45 = .ok (.aload_n 0, 1) := by decide +kernel
theorem dX6_init_46 : decode cX6_init 46 = .ok (.new 32, 3) := by decide +kernel
theorem dX6_init_49 : decode cX6_init 49 = .ok (.dup, 1) := by decide +kernel
theorem dX6_init_50 : decode cX6_init 50 = .ok (.aload_n 0, 1) := by decide +kernel
theorem dX6_init_51 : decode cX6_init 51 = .ok (.getfield 12, 3) := by decide +kernel
theorem dX6_init_54 : decode cX6_init 54 = .ok (.invokespecial 34, 3) := by decide +kernel
theorem dX6_init_57 : decode cX6_init 57 = .ok (.putfield 35, 3) := by decide +kernel
theorem dX6_init_60 : decode cX6_init 60 = .ok (.aload_n 0, 1) := by decide +kernel
theorem dX6_init_61 : decode cX6_init 61 = .ok (.iconst 4, 1) := by decide +kernel
theorem dX6_init_62 : decode cX6_init 62 = .ok (.anewarray 39, 3) := by decide +kernel
theorem dX6_init_65 : decode cX6_init 65 = .ok (.putfield 41, 3) := by decide +kernel
theorem dX6_init_68 : decode cX6_init 68 = .ok (.aload_n 0, 1) := by decide +kernel
theorem dX6_init_69 : decode cX6_init 69 = .ok (.bipush 7, 2) := by decide +kernel
theorem dX6_init_71 : decode cX6_init 71 = .ok (.newarray .int, 2) := by decide +kernel
theorem dX6_init_73 : decode cX6_init 73 = .ok (.putfield 45, 3) := by decide +kernel
theorem dX6_init_76 : decode cX6_init 76 = .ok (.aload_n 0, 1) := by decide +kernel
theorem dX6_init_77 : decode cX6_init 77 = .ok (.new 49, 3) := by decide +kernel
theorem dX6_init_80 : decode cX6_init 80 = .ok (.dup, 1) := by decide +kernel
theorem dX6_init_81 : decode cX6_init 81 = .ok (.invokespecial 51, 3) := by decide +kernel
theorem dX6_init_84 : decode cX6_init 84 = .ok (.putfield 52, 3) := by decide +kernel
theorem dX6_init_87 : decode cX6_init 87 = .ok (.aload_n 0, 1) := by decide +kernel
theorem dX6_init_88 : decode cX6_init 88 = .ok (.new 49, 3) := by decide +kernel
theorem dX6_init_91 : decode cX6_init 91 = .ok (.dup, 1) := by decide +kernel
theorem dX6_init_92 : decode cX6_init 92 = .ok (.invokespecial 51, 3) := by decide +kernel
theorem dX6_init_95 : decode cX6_init 95 = .ok (.putfield 56, 3) := by decide +kernel
theorem dX6_init_98 : decode cX6_init 98 = .ok (.aload_n 0, 1) := by decide +kernel
theorem dX6_init_99 : decode cX6_init 99 = .ok (.getfield 12, 3) := by decide +kernel
theorem dX6_init_102 : decode cX6_init 102 = .ok (.iconst 2, 1) := by decide +kernel
theorem dX6_init_103 : decode cX6_init 103 = .ok (.invokevirtual 59, 3) := by decide +kernel
theorem dX6_init_106 : decode cX6_init 106 = .ok (.iconst 0, 1) := by decide +kernel
theorem dX6_init_107 : decode cX6_init 107 = .ok (.istore_n 1, 1) := by decide +kernel
theorem dX6_init_108 : decode cX6_init 108 = .ok (.iload_n 1, 1) := by decide +kernel
theorem dX6_init_109 : decode cX6_init 109 = .ok (.iconst 4, 1) := by decide +kernel
theorem dX6_init_110 : decode cX6_init 110 = .ok (.if_icmp .ge 22, 3) := by decide +kernel
theorem dX6_init_113 : decode cX6_init 113 = .ok (.aload_n 0, 1) := by decide +kernel
theorem dX6_init_114 : decode cX6_init 114 = .ok (.getfield 41, 3) := by decide +kernel
theorem dX6_init_117 : decode cX6_init 117 = .ok (.iload_n 1, 1) := by decide +kernel
theorem dX6_init_118 : decode cX6_init 118 = .ok (.new 39, 3) := by decide +kernel
theorem dX6_init_121 : decode cX6_init 121 = .ok (.dup, 1) := by decide +kernel
theorem dX6_init_122 : decode cX6_init 122 = .ok (.invokespecial 63, 3) := by decide +kernel
theorem dX6_init_125 : decode cX6_init 125 = .ok (.aastore, 1) := by decide +kernel
theorem dX6_init_126 : decode cX6_init 126 = .ok (.iinc 1 1, 3) := by decide +kernel
theorem dX6_init_129 : decode cX6_init 129 = .ok (.goto (-21), 3) := by decide +kernel
theorem dX6_init_132 : decode cX6_init 132 = .ok (.return_, 1) := by decide +kernel
theorem dX6_joints_0 : decode cX6_joints 0 = .ok (.iload_n 1, 1) := by decide +kernel
theorem dX6_joints_1 : decode cX6_joints 1 = .ok (.iconst 2, 1) := by decide +kernel
theorem dX6_joints_2 : decode cX6_joints 2 = .ok (.if_icmp .lt 9, 3) := by decide +kernel
theorem dX6_joints_5 : decode cX6_joints 5 = .ok (.iload_n 1, 1) := by decide +kernel
theorem dX6_joints_6 : decode cX6_joints 6 = .ok (.bipush 6, 2) := by decide +kernel
theorem dX6_joints_8 : decode cX6_joints 8 = .ok (.if_icmp .le 5, 3) := by decide +kernel
theorem dX6_joints_11 : decode cX6_joints 11 = .ok (.iconst (-1), 1) := by decide +kernel
theorem dX6_joints_12 : decode cX6_joints 12 = .ok (.ireturn, 1) := by decide +kernel
theorem dX6_joints_13 : decode cX6_joints 13 = .ok (.aload_n 0, 1) := by decide +kernel
theorem dX6_joints_14 : decode cX6_joints 14 = .ok (.getfield 12, 3) := by decide +kernel
theorem dX6_joints_17 : decode cX6_joints 17 = .ok (.iload_n 1, 1) := by decide +kernel
theorem dX6_joints_18 : decode cX6_joints 18 = .ok (.invokevirtual 59, 3) := by decide +kernel
theorem dX6_joints_21 : decode cX6_joints 21 = .ok (.iconst 1, 1) := by decide +kernel
theorem dX6_joints_22 : decode cX6_joints 22 = .ok (.ireturn, 1) := by decide +kernel
theorem dX6_at_0 : decode cX6_at 0 = .ok (.iload_n 1, 1) := by decide +kernel
theorem dX6_at_1 : decode cX6_at 1 = .ok (.iconst 1, 1) := by decide +kernel
theorem dX6_at_2 : decode cX6_at 2 = .ok (.if_icmp .lt 24, 3) := by decide +kernel
theorem dX6_at_5 : decode cX6_at 5 = .ok (.iload_n 1, 1) := by decide +kernel
theorem dX6_at_6 : decode cX6_at 6 = .ok (.aload_n 0, 1) := by decide +kernel
theorem dX6_at_7 : decode cX6_at 7 = .ok (.getfield 12, 3) := by decide +kernel
theorem dX6_at_10 : decode cX6_at 10 = .ok (.getfield 64, 3) := by decide +kernel
theorem dX6_at_13 : decode cX6_at 13 = .ok (.if_icmp .gt 13, 3) := by decide +kernel
theorem dX6_at_16 : decode cX6_at 16 = .ok (.iload_n 2, 1) := by decide +kernel
theorem dX6_at_17 : decode cX6_at 17 = .ok (.ifCond .lt 9, 3) := by decide +kernel
theorem dX6_at_20 : decode cX6_at 20 = .ok (.iload_n 2, 1) := by decide +kernel
theorem dX6_at_21 : decode cX6_at 21 = .ok (.bipush 20, 2) := by decide +kernel
theorem dX6_at_23 : decode cX6_at 23 = .ok (.if_icmp .le 5, 3) := by decide +kernel
theorem dX6_at_26 : decode cX6_at 26 = .ok (.iconst (-1), 1) := by decide +kernel
theorem dX6_at_27 : decode cX6_at 27 = .ok (.ireturn, 1) := by decide +kernel
theorem dX6_at_28 : decode cX6_at 28 = .ok (.iload_n 2, 1) := by decide +kernel
theorem dX6_at_29 : decode cX6_at 29 = .ok (.aload_n 0, 1) := by decide +kernel
theorem dX6_at_30 : decode cX6_at 30 = .ok (.getfield 12, 3) := by decide +kernel
theorem dX6_at_33 : decode cX6_at 33 = .ok (.getfield 68, 3) := by decide +kernel
theorem dX6_at_36 : decode cX6_at 36 = .ok (.iload_n 1, 1) := by decide +kernel
theorem dX6_at_37 : decode cX6_at 37 = .ok (.iconst 1, 1) := by decide +kernel
theorem dX6_at_38 : decode cX6_at 38 = .ok (.isub, 1) := by decide +kernel
theorem dX6_at_39 : decode cX6_at 39 = .ok (.iaload, 1) := by decide +kernel
theorem dX6_at_40 : decode cX6_at 40 = .ok (.if_icmp .le 29, 3) := by decide +kernel
theorem dX6_at_43 : decode cX6_at 43 = .ok (.iload_n 1, 1) := by decide +kernel
theorem dX6_at_44 : decode cX6_at 44 = .ok (.aload_n 0, 1) := by decide +kernel
theorem dX6_at_45 : decode cX6_at 45 = .ok (.getfield 12, 3) := by decide +kernel
theorem dX6_at_48 : decode cX6_at 48 = .ok (.getfield 64, 3) := by decide +kernel
theorem dX6_at_51 : decode cX6_at 51 = .ok (.if_icmp .ge 21, 3) := by decide +kernel
theorem dX6_at_54 : decode cX6_at 54 = .ok (.iload_n 2, 1) := by decide +kernel
theorem dX6_at_55 : decode cX6_at 55 = .ok (.aload_n 0, 1) := by decide +kernel
theorem dX6_at_56 : decode cX6_at 56 = .ok (.getfield 12, 3) := by decide +kernel
theorem dX6_at_59 : decode cX6_at 59 = .ok (.getfield 68, 3) := by decide +kernel
theorem dX6_at_62 : decode cX6_at 62 = .ok (.iload_n 1, 1) := by decide +kernel
theorem dX6_at_63 : decode cX6_at 63 = .ok (.iconst 1, 1) := by decide +kernel
theorem dX6_at_64 : decode cX6_at 64 = .ok (.iadd, 1) := by decide +kernel
theorem dX6_at_65 : decode cX6_at 65 = .ok (.iaload, 1) := by decide +kernel
theorem dX6_at_66 : decode cX6_at 66 = .ok (.if_icmp .lt 6, 3) := by decide +kernel
theorem dX6_at_69 : decode cX6_at 69 = .ok (.bipush (-2), 2) := by decide +kernel
theorem dX6_at_71 : decode cX6_at 71 = .ok (.ireturn, 1) := by decide +kernel
theorem dX6_at_72 : decode cX6_at 72 = .ok (.aload_n 0, 1) := by decide +kernel
theorem dX6_at_73 : decode cX6_at 73 = .ok (.getfield 12, 3) := by decide +kernel
theorem dX6_at_76 : decode cX6_at 76 = .ok (.getfield 68, 3) := by decide +kernel
theorem dX6_at_79 : decode cX6_at 79 = .ok (.iload_n 1, 1) := by decide +kernel
theorem dX6_at_80 : decode cX6_at 80 = .ok (.iaload, 1) := by decide +kernel
theorem dX6_at_81 : decode cX6_at 81 = .ok (.istore_n 3, 1) := by decide +kernel
theorem dX6_at_82 : decode cX6_at 82 = .ok (.aload_n 0, 1) := by decide +kernel
theorem dX6_at_83 : decode cX6_at 83 = .ok (.getfield 12, 3) := by decide +kernel
theorem dX6_at_86 : decode cX6_at 86 = .ok (.getfield 68, 3) := by decide +kernel
theorem dX6_at_89 : decode cX6_at 89 = .ok (.iload_n 1, 1) := by decide +kernel
theorem dX6_at_90 : decode cX6_at 90 = .ok (.iload_n 2, 1) := by decide +kernel
theorem dX6_at_91 : decode cX6_at 91 = .ok (.iastore, 1) := by decide +kernel
theorem dX6_at_92 : decode cX6_at 92 = .ok (.iload_n 3, 1) := by decide +kernel
theorem dX6_at_93 : decode cX6_at 93 = .ok (.ireturn, 1) := by decide +kernel
theorem dX6_edges_0 : decode cX6_edges 0 = .ok (.aload_n 0, 1) := by decide +kernel
theorem dX6_edges_1 : decode cX6_edges 1 = .ok (.getfield 12, 3) := by decide +kernel
theorem dX6_edges_4 : decode cX6_edges 4 = .ok (.iload_n 1, 1) := by decide +kernel
theorem dX6_edges_5 : decode cX6_edges 5 = .ok (.invokevirtual 71, 3) := by decide +kernel
theorem dX6_edges_8 : decode cX6_edges 8 = .ok (.ifCond .eq 11, 3) := by decide +kernel
theorem dX6_edges_11 : decode cX6_edges 11 = .ok (.iload_n 2, 1) := by decide +kernel
theorem dX6_edges_12 : decode cX6_edges 12 = .ok (.iload_n 3, 1) := by decide +kernel
theorem dX6_edges_13 : decode cX6_edges 13 = .ok (.invokestatic 75, 3) := by decide +kernel
theorem dX6_edges_16 : decode cX6_edges 16 = .ok (.ifCond .ne 5, 3) := by decide +kernel
theorem dX6_edges_19 : decode cX6_edges 19 = .ok (.iconst (-1), 1) := by decide +kernel
theorem dX6_edges_20 : decode cX6_edges 20 = .ok (.ireturn, 1) := by decide +kernel
theorem dX6_edges_21 : decode cX6_edges 21 = .ok (.aload_n 0, 1) := by decide +kernel
theorem dX6_edges_22 : decode cX6_edges 22 = .ok (.getfield 12, 3) := by decide +kernel
theorem dX6_edges_25 : decode cX6_edges 25 = .ok (.getfield 79, 3) := by decide +kernel
theorem dX6_edges_28 : decode cX6_edges 28 = .ok (.iload_n 1, 1) := by decide +kernel
theorem dX6_edges_29 : decode cX6_edges 29 = .ok (.iload_n 2, 1) := by decide +kernel
theorem dX6_edges_30 : decode cX6_edges 30 = .ok (.iastore, 1) := by decide +kernel
theorem dX6_edges_31 : decode cX6_edges 31 = .ok (.aload_n 0, 1) := by decide +kernel
theorem dX6_edges_32 : decode cX6_edges 32 = .ok (.getfield 12, 3) := by decide +kernel
theorem dX6_edges_35 : decode cX6_edges 35 = .ok (.getfield 82, 3) := by decide +kernel
theorem dX6_edges_38 : decode cX6_edges 38 = .ok (.iload_n 1, 1) := by decide +kernel
theorem dX6_edges_39 : decode cX6_edges 39 = .ok (.iload_n 3, 1) := by decide +kernel
theorem dX6_edges_40 : decode cX6_edges 40 = .ok (.iastore, 1) := by decide +kernel
theorem dX6_edges_41 : decode cX6_edges 41 = .ok (.iconst 1, 1) := by decide +kernel
theorem dX6_edges_42 : decode cX6_edges 42 = .ok (.ireturn, 1) := by decide +kernel
theorem dX6_load_0 : decode cX6_load 0 = .ok (.aload_n 0, 1) := by decide +kernel
theorem dX6_load_1 : decode cX6_load 1 = .ok (.getfield 12, 3) := by decide +kernel
theorem dX6_load_4 : decode cX6_load 4 = .ok (.iload_n 1, 1) := by decide +kernel
theorem dX6_load_5 : decode cX6_load 5 = .ok (.invokevirtual 85, 3) := by decide +kernel
theorem dX6_load_8 : decode cX6_load 8 = .ok (.ifCond .eq 10, 3) := by decide +kernel
theorem dX6_load_11 : decode cX6_load 11 = .ok (.iload_n 2, 1) := by decide +kernel
theorem dX6_load_12 : decode cX6_load 12 = .ok (.invokestatic 88, 3) := by decide +kernel
theorem dX6_load_15 : decode cX6_load 15 = .ok (.ifCond .ne 5, 3) := by decide +kernel
theorem dX6_load_18 : decode cX6_load 18 = .ok (.iconst (-1), 1) := by decide +kernel
theorem dX6_load_19 : decode cX6_load 19 = .ok (.ireturn, 1) := by decide +kernel
theorem dX6_load_20 : decode cX6_load 20 = .ok (.aload_n 0, 1) := by decide +kernel
theorem dX6_load_21 : decode cX6_load 21 = .ok (.getfield 12, 3) := by decide +kernel
theorem dX6_load_24 : decode cX6_load 24 = .ok (.getfield 91, 3) := by decide +kernel
theorem dX6_load_27 : decode cX6_load 27 = .ok (.iload_n 1, 1) := by decide +kernel
theorem dX6_load_28 : decode cX6_load 28 = .ok (.iaload, 1) := by decide +kernel
theorem dX6_load_29 : decode cX6_load 29 = .ok (.istore_n 3, 1) := by decide +kernel
theorem dX6_load_30 : decode cX6_load 30 = .ok (.aload_n 0, 1) := by decide +kernel
theorem dX6_load_31 : decode cX6_load 31 = .ok (.getfield 12, 3) := by decide +kernel
theorem dX6_load_34 : decode cX6_load 34 = .ok (.getfield 91, 3) := by decide +kernel
theorem dX6_load_37 : decode cX6_load 37 = .ok (.iload_n 1, 1) := by decide +kernel
theorem dX6_load_38 : decode cX6_load 38 = .ok (.iload_n 2, 1) := by decide +kernel
theorem dX6_load_39 : decode cX6_load 39 = .ok (.iastore, 1) := by decide +kernel
theorem dX6_load_40 : decode cX6_load 40 = .ok (.iload_n 3, 1) := by decide +kernel
theorem dX6_load_41 : decode cX6_load 41 = .ok (.ireturn, 1) := by decide +kernel
theorem dX6_sheet_0 : decode cX6_sheet 0 = .ok (.iload_n 1, 1) := by decide +kernel
theorem dX6_sheet_1 : decode cX6_sheet 1 = .ok (.invokestatic 94, 3) := by decide +kernel
theorem dX6_sheet_4 : decode cX6_sheet 4 = .ok (.ifCond .eq 16, 3) := by decide +kernel
theorem dX6_sheet_7 : decode cX6_sheet 7 = .ok (.iload_n 2, 1) := by decide +kernel
theorem dX6_sheet_8 : decode cX6_sheet 8 = .ok (.invokestatic 97, 3) := by decide +kernel
theorem dX6_sheet_11 : decode cX6_sheet 11 = .ok (.ifCond .eq 9, 3) := by decide +kernel
theorem dX6_sheet_14 : decode cX6_sheet 14 = .ok (.iload_n 3, 1) := by decide +kernel
theorem dX6_sheet_15 : decode cX6_sheet 15 = .ok (.bipush 28, 2) := by decide +kernel
theorem dX6_sheet_17 : decode cX6_sheet 17 = .ok (.if_icmp .le 5, 3) := by decide +kernel
theorem dX6_sheet_20 : decode cX6_sheet 20 = .ok (.iconst (-1), 1) := by decide +kernel
theorem dX6_sheet_21 : decode cX6_sheet 21 = .ok (.ireturn, 1) := by decide +kernel
theorem dX6_sheet_22 : decode cX6_sheet 22 = .ok (.iload_n 3, 1) := by decide +kernel
theorem dX6_sheet_23 : decode cX6_sheet 23 = .ok (.ifCond .ge 6, 3) := by decide +kernel
theorem dX6_sheet_26 : decode cX6_sheet 26 = .ok (.bipush (-14), 2) := by decide +kernel
theorem dX6_sheet_28 : decode cX6_sheet 28 = .ok (.ireturn, 1) := by decide +kernel
theorem dX6_sheet_29 : decode cX6_sheet 29 = .ok (.aload_n 0, 1) := by decide +kernel
theorem dX6_sheet_30 : decode cX6_sheet 30 = .ok (.getfield 41, 3) := by decide +kernel
theorem dX6_sheet_33 : decode cX6_sheet 33 = .ok (.iload_n 1, 1) := by decide +kernel
theorem dX6_sheet_34 : decode cX6_sheet 34 = .ok (.aaload, 1) := by decide +kernel
theorem dX6_sheet_35 : decode cX6_sheet 35 = .ok (.iload_n 2, 1) := by decide +kernel
theorem dX6_sheet_36 : decode cX6_sheet 36 = .ok (.iload_n 3, 1) := by decide +kernel
theorem dX6_sheet_37 : decode cX6_sheet 37 = .ok (.invokevirtual 100, 3) := by decide +kernel
theorem dX6_sheet_40 : decode cX6_sheet 40 = .ok (.iload_n 3, 1) := by decide +kernel
theorem dX6_sheet_41 : decode cX6_sheet 41 = .ok (.ireturn, 1) := by decide +kernel
theorem dX6_drop_0 : decode cX6_drop 0 = .ok (.iload_n 1, 1) := by decide +kernel
theorem dX6_drop_1 : decode cX6_drop 1 = .ok (.invokestatic 94, 3) := by decide +kernel
theorem dX6_drop_4 : decode cX6_drop 4 = .ok (.ifCond .ne 5, 3) := by decide +kernel
theorem dX6_drop_7 : decode cX6_drop 7 = .ok (.iconst (-1), 1) := by decide +kernel
theorem dX6_drop_8 : decode cX6_drop 8 = .ok (.ireturn, 1) := by decide +kernel
theorem dX6_drop_9 : decode cX6_drop 9 = .ok (.aload_n 0, 1) := by decide +kernel
theorem dX6_drop_10 : decode cX6_drop 10 = .ok (.getfield 41, 3) := by decide +kernel
theorem dX6_drop_13 : decode cX6_drop 13 = .ok (.iload_n 1, 1) := by decide +kernel
theorem dX6_drop_14 : decode cX6_drop 14 = .ok (.aaload, 1) := by decide +kernel
theorem dX6_drop_15 : decode cX6_drop 15 = .ok (.getfield 104, 3) := by decide +kernel
theorem dX6_drop_18 : decode cX6_drop 18 = .ok (.ifCond .ne 6, 3) := by decide +kernel
theorem dX6_drop_21 : decode cX6_drop 21 = .ok (.bipush (-11), 2) := by decide +kernel
theorem dX6_drop_23 : decode cX6_drop 23 = .ok (.ireturn, 1) := by decide +kernel
theorem dX6_drop_24 : decode cX6_drop 24 = .ok (.aload_n 0, 1) := by decide +kernel
theorem dX6_drop_25 : decode cX6_drop 25 = .ok (.getfield 41, 3) := by decide +kernel
theorem dX6_drop_28 : decode cX6_drop 28 = .ok (.iload_n 1, 1) := by decide +kernel
theorem dX6_drop_29 : decode cX6_drop 29 = .ok (.aaload, 1) := by decide +kernel
theorem dX6_drop_30 : decode cX6_drop 30 = .ok (.iconst 0, 1) := by decide +kernel
theorem dX6_drop_31 : decode cX6_drop 31 = .ok (.putfield 104, 3) := by decide +kernel
theorem dX6_drop_34 : decode cX6_drop 34 = .ok (.aload_n 0, 1) := by decide +kernel
theorem dX6_drop_35 : decode cX6_drop 35 = .ok (.getfield 41, 3) := by decide +kernel
theorem dX6_drop_38 : decode cX6_drop 38 = .ok (.iload_n 1, 1) := by decide +kernel
theorem dX6_drop_39 : decode cX6_drop 39 = .ok (.aaload, 1) := by decide +kernel
theorem dX6_drop_40 : decode cX6_drop 40 = .ok (.getfield 108, 3) := by decide +kernel
theorem dX6_drop_43 : decode cX6_drop 43 = .ok (.ireturn, 1) := by decide +kernel
theorem dX6_item_0 : decode cX6_item 0 = .ok (.aload_n 0, 1) := by decide +kernel
theorem dX6_item_1 : decode cX6_item 1 = .ok (.iload_n 1, 1) := by decide +kernel
theorem dX6_item_2 : decode cX6_item 2 = .ok (.iload_n 2, 1) := by decide +kernel
theorem dX6_item_3 : decode cX6_item 3 = .ok (.invokevirtual 111, 3) := by decide +kernel
theorem dX6_item_6 : decode cX6_item 6 = .ok (.istore 5, 2) := by decide +kernel
theorem dX6_item_8 : decode cX6_item 8 = .ok (.iload 5, 2) := by decide +kernel
theorem dX6_item_10 : decode cX6_item 10 = .ok (.ifCond .eq 6, 3) := by decide +kernel
theorem dX6_item_13 : decode cX6_item 13 = .ok (.iload 5, 2) := by decide +kernel
theorem dX6_item_15 : decode cX6_item 15 = .ok (.ireturn, 1) := by decide +kernel
theorem dX6_item_16 : decode cX6_item 16 = .ok (.aload_n 0, 1) := by decide +kernel
theorem dX6_item_17 : decode cX6_item 17 = .ok (.getfield 41, 3) := by decide +kernel
theorem dX6_item_20 : decode cX6_item 20 = .ok (.iload_n 1, 1) := by decide +kernel
theorem dX6_item_21 : decode cX6_item 21 = .ok (.aaload, 1) := by decide +kernel
theorem dX6_item_22 : decode cX6_item 22 = .ok (.astore 6, 2) := by decide +kernel
theorem dX6_item_24 : decode cX6_item 24 = .ok (.iload_n 3, 1) := by decide +kernel
theorem dX6_item_25 : decode cX6_item 25 = .ok (.ifCond .lt 12, 3) := by decide +kernel
theorem dX6_item_28 : decode cX6_item 28 = .ok (.iload_n 3, 1) := by decide +kernel
theorem dX6_item_29 : decode cX6_item 29 = .ok (.aload 6, 2) := by decide +kernel
theorem dX6_item_31 : decode cX6_item 31 = .ok (.getfield 108, 3) := by decide +kernel
theorem dX6_item_34 : decode cX6_item 34 = .ok (.if_icmp .lt 6, 3) := by decide +kernel
theorem dX6_item_37 : decode cX6_item 37 = .ok (.bipush (-13), 2) := by decide +kernel
theorem dX6_item_39 : decode cX6_item 39 = .ok (.ireturn, 1) := by decide +kernel
theorem dX6_item_40 : decode cX6_item 40 = .ok (.aload 6, 2) := by decide +kernel
theorem dX6_item_42 : decode cX6_item 42 = .ok (.getfield 115, 3) := by decide +kernel
theorem dX6_item_45 : decode cX6_item 45 = .ok (.iload_n 3, 1) := by decide +kernel
theorem dX6_item_46 : decode cX6_item 46 = .ok (.iload_n 2, 1) := by decide +kernel
theorem dX6_item_47 : decode cX6_item 47 = .ok (.ifCond .ne 9, 3) := by decide +kernel
theorem dX6_item_50 : decode cX6_item 50 = .ok (.iload 4, 2) := by decide +kernel
theorem dX6_item_52 : decode cX6_item 52 = .ok (.i2b, 1) := by decide +kernel
theorem dX6_item_53 : decode cX6_item 53 = .ok (.goto 5, 3) := by decide +kernel
theorem dX6_item_56 : decode cX6_item 56 = .ok (.iload 4, 2) := by decide +kernel
theorem dX6_item_58 : decode cX6_item 58 = .ok (.iastore, 1) := by decide +kernel
theorem dX6_item_59 : decode cX6_item 59 = .ok (.iconst 1, 1) := by decide +kernel
theorem dX6_item_60 : decode cX6_item 60 = .ok (.ireturn, 1) := by decide +kernel
theorem dX6_read_0 : decode cX6_read 0 = .ok (.aload_n 0, 1) := by decide +kernel
theorem dX6_read_1 : decode cX6_read 1 = .ok (.iload_n 1, 1) := by decide +kernel
theorem dX6_read_2 : decode cX6_read 2 = .ok (.iload_n 2, 1) := by decide +kernel
theorem dX6_read_3 : decode cX6_read 3 = .ok (.invokevirtual 111, 3) := by decide +kernel
theorem dX6_read_6 : decode cX6_read 6 = .ok (.istore 4, 2) := by decide +kernel
theorem dX6_read_8 : decode cX6_read 8 = .ok (.iload 4, 2) := by decide +kernel
theorem dX6_read_10 : decode cX6_read 10 = .ok (.ifCond .eq 6, 3) := by decide +kernel
theorem dX6_read_13 : decode cX6_read 13 = .ok (.iload 4, 2) := by decide +kernel
theorem dX6_read_15 : decode cX6_read 15 = .ok (.ireturn, 1) := by decide +kernel
theorem dX6_read_16 : decode cX6_read 16 = .ok (.aload_n 0, 1) := by decide +kernel
theorem dX6_read_17 : decode cX6_read 17 = .ok (.getfield 41, 3) := by decide +kernel
theorem dX6_read_20 : decode cX6_read 20 = .ok (.iload_n 1, 1) := by decide +kernel
theorem dX6_read_21 : decode cX6_read 21 = .ok (.aaload, 1) := by decide +kernel
theorem dX6_read_22 : decode cX6_read 22 = .ok (.astore 5, 2) := by decide +kernel
theorem dX6_read_24 : decode cX6_read 24 = .ok (.iload_n 3, 1) := by decide +kernel
theorem dX6_read_25 : decode cX6_read 25 = .ok (.ifCond .lt 24, 3) := by decide +kernel
theorem dX6_read_28 : decode cX6_read 28 = .ok (.iload_n 3, 1) := by decide +kernel
theorem dX6_read_29 : decode cX6_read 29 = .ok (.aload 5, 2) := by decide +kernel
theorem dX6_read_31 : decode cX6_read 31 = .ok (.getfield 108, 3) := by decide +kernel
theorem dX6_read_34 : decode cX6_read 34 = .ok (.iconst 4, 1) := by decide +kernel
theorem dX6_read_35 : decode cX6_read 35 = .ok (.aload_n 0, 1) := by decide +kernel
theorem dX6_read_36 : decode cX6_read 36 = .ok (.getfield 12, 3) := by decide +kernel
theorem dX6_read_39 : decode cX6_read 39 = .ok (.getfield 64, 3) := by decide +kernel
theorem dX6_read_42 : decode cX6_read 42 = .ok (.iconst 1, 1) := by decide +kernel
theorem dX6_read_43 : decode cX6_read 43 = .ok (.iadd, 1) := by decide +kernel
theorem dX6_read_44 : decode cX6_read 44 = .ok (.imul, 1) := by decide +kernel
theorem dX6_read_45 : decode cX6_read 45 = .ok (.isub, 1) := by decide +kernel
theorem dX6_read_46 : decode cX6_read 46 = .ok (.if_icmp .le 6, 3) := by decide +kernel
theorem dX6_read_49 : decode cX6_read 49 = .ok (.bipush (-13), 2) := by decide +kernel
theorem dX6_read_51 : decode cX6_read 51 = .ok (.ireturn, 1) := by decide +kernel
theorem dX6_read_52 : decode cX6_read 52 = .ok (.aload_n 0, 1) := by decide +kernel
theorem dX6_read_53 : decode cX6_read 53 = .ok (.getfield 12, 3) := by decide +kernel
theorem dX6_read_56 : decode cX6_read 56 = .ok (.aload 5, 2) := by decide +kernel
theorem dX6_read_58 : decode cX6_read 58 = .ok (.getfield 115, 3) := by decide +kernel
theorem dX6_read_61 : decode cX6_read 61 = .ok (.iload_n 3, 1) := by decide +kernel
theorem dX6_read_62 : decode cX6_read 62 = .ok (.invokevirtual 118, 3) := by decide +kernel
theorem dX6_read_65 : decode cX6_read 65 = .ok (.ifCond .ne 6, 3) := by decide +kernel
theorem dX6_read_68 : decode cX6_read 68 = .ok (.bipush (-2), 2) := by decide +kernel
theorem dX6_read_70 : decode cX6_read 70 = .ok (.ireturn, 1) := by decide +kernel
theorem dX6_read_71 : decode cX6_read 71 = .ok (.aload_n 0, 1) := by decide +kernel
theorem dX6_read_72 : decode cX6_read 72 = .ok (.getfield 12, 3) := by decide +kernel
theorem dX6_read_75 : decode cX6_read 75 = .ok (.aload 5, 2) := by decide +kernel
theorem dX6_read_77 : decode cX6_read 77 = .ok (.getfield 115, 3) := by decide +kernel
theorem dX6_read_80 : decode cX6_read 80 = .ok (.iload_n 3, 1) := by decide +kernel
theorem dX6_read_81 : decode cX6_read 81 = .ok (.invokevirtual 122, 3) := by decide +kernel
theorem dX6_read_84 : decode cX6_read 84 = .ok (.iconst 1, 1) := by decide +kernel
theorem dX6_read_85 : decode cX6_read 85 = .ok (.ireturn, 1) := by decide +kernel
theorem dX6_told_0 : decode cX6_told 0 = .ok (.aload_n 0, 1) := by decide +kernel
theorem dX6_told_1 : decode cX6_told 1 = .ok (.getfield 12, 3) := by decide +kernel
theorem dX6_told_4 : decode cX6_told 4 = .ok (.iload_n 1, 1) := by decide +kernel
theorem dX6_told_5 : decode cX6_told 5 = .ok (.invokevirtual 71, 3) := by decide +kernel
theorem dX6_told_8 : decode cX6_told 8 = .ok (.ifCond .ne 6, 3) := by decide +kernel
theorem dX6_told_11 : decode cX6_told 11 = .ok (.ldc 126, 2) := by decide +kernel
theorem dX6_told_13 : decode cX6_told 13 = .ok (.ireturn, 1) := by decide +kernel
theorem dX6_told_14 : decode cX6_told 14 = .ok (.iload_n 2, 1) := by decide +kernel
theorem dX6_told_15 : decode cX6_told 15 = .ok (.tableswitch 97 0 4 #[33, 43, 53, 63, 73], 33) := by decide +kernel
theorem dX6_told_48 : decode cX6_told 48 = .ok (.aload_n 0, 1) := by decide +kernel
theorem dX6_told_49 : decode cX6_told 49 = .ok (.getfield 12, 3) := by decide +kernel
theorem dX6_told_52 : decode cX6_told 52 = .ok (.getfield 68, 3) := by decide +kernel
theorem dX6_told_55 : decode cX6_told 55 = .ok (.iload_n 1, 1) := by decide +kernel
theorem dX6_told_56 : decode cX6_told 56 = .ok (.iaload, 1) := by decide +kernel
theorem dX6_told_57 : decode cX6_told 57 = .ok (.ireturn, 1) := by decide +kernel
theorem dX6_told_58 : decode cX6_told 58 = .ok (.aload_n 0, 1) := by decide +kernel
theorem dX6_told_59 : decode cX6_told 59 = .ok (.getfield 12, 3) := by decide +kernel
theorem dX6_told_62 : decode cX6_told 62 = .ok (.getfield 79, 3) := by decide +kernel
theorem dX6_told_65 : decode cX6_told 65 = .ok (.iload_n 1, 1) := by decide +kernel
theorem dX6_told_66 : decode cX6_told 66 = .ok (.iaload, 1) := by decide +kernel
theorem dX6_told_67 : decode cX6_told 67 = .ok (.ireturn, 1) := by decide +kernel
theorem dX6_told_68 : decode cX6_told 68 = .ok (.aload_n 0, 1) := by decide +kernel
theorem dX6_told_69 : decode cX6_told 69 = .ok (.getfield 12, 3) := by decide +kernel
theorem dX6_told_72 : decode cX6_told 72 = .ok (.getfield 82, 3) := by decide +kernel
theorem dX6_told_75 : decode cX6_told 75 = .ok (.iload_n 1, 1) := by decide +kernel
theorem dX6_told_76 : decode cX6_told 76 = .ok (.iaload, 1) := by decide +kernel
theorem dX6_told_77 : decode cX6_told 77 = .ok (.ireturn, 1) := by decide +kernel
theorem dX6_told_78 : decode cX6_told 78 = .ok (.aload_n 0, 1) := by decide +kernel
theorem dX6_told_79 : decode cX6_told 79 = .ok (.getfield 12, 3) := by decide +kernel
theorem dX6_told_82 : decode cX6_told 82 = .ok (.getfield 91, 3) := by decide +kernel
theorem dX6_told_85 : decode cX6_told 85 = .ok (.iload_n 1, 1) := by decide +kernel
theorem dX6_told_86 : decode cX6_told 86 = .ok (.iaload, 1) := by decide +kernel
theorem dX6_told_87 : decode cX6_told 87 = .ok (.ireturn, 1) := by decide +kernel
theorem dX6_told_88 : decode cX6_told 88 = .ok (.aload_n 0, 1) := by decide +kernel
theorem dX6_told_89 : decode cX6_told 89 = .ok (.getfield 12, 3) := by decide +kernel
theorem dX6_told_92 : decode cX6_told 92 = .ok (.aload_n 0, 1) := by decide +kernel
theorem dX6_told_93 : decode cX6_told 93 = .ok (.getfield 12, 3) := by decide +kernel
theorem dX6_told_96 : decode cX6_told 96 = .ok (.getfield 91, 3) := by decide +kernel
theorem dX6_told_99 : decode cX6_told 99 = .ok (.invokevirtual 127, 3) := by decide +kernel
theorem dX6_told_102 : decode cX6_told 102 = .ok (.aload_n 0, 1) := by decide +kernel
theorem dX6_told_103 : decode cX6_told 103 = .ok (.getfield 12, 3) := by decide +kernel
theorem dX6_told_106 : decode cX6_told 106 = .ok (.getfield 131, 3) := by decide +kernel
theorem dX6_told_109 : decode cX6_told 109 = .ok (.iload_n 1, 1) := by decide +kernel
theorem dX6_told_110 : decode cX6_told 110 = .ok (.iaload, 1) := by decide +kernel
theorem dX6_told_111 : decode cX6_told 111 = .ok (.ireturn, 1) := by decide +kernel
theorem dX6_told_112 : decode cX6_told 112 = .ok (.ldc 126, 2) := by decide +kernel
theorem dX6_told_114 : decode cX6_told 114 = .ok (.ireturn, 1) := by decide +kernel
theorem dX6_stands_0 : decode cX6_stands 0 = .ok (.aload_n 0, 1) := by decide +kernel
theorem dX6_stands_1 : decode cX6_stands 1 = .ok (.aload_n 0, 1) := by decide +kernel
theorem dX6_stands_2 : decode cX6_stands 2 = .ok (.getfield 12, 3) := by decide +kernel
theorem dX6_stands_5 : decode cX6_stands 5 = .ok (.getfield 91, 3) := by decide +kernel
theorem dX6_stands_8 : decode cX6_stands 8 = .ok (.invokevirtual 134, 3) := by decide +kernel
theorem dX6_stands_11 : decode cX6_stands 11 = .ok (.ifCond .eq 7, 3) := by decide +kernel
theorem dX6_stands_14 : decode cX6_stands 14 = .ok (.iconst 1, 1) := by decide +kernel
theorem dX6_stands_15 : decode cX6_stands 15 = .ok (.goto 4, 3) := by decide +kernel
theorem dX6_stands_18 : decode cX6_stands 18 = .ok (.iconst 0, 1) := by decide +kernel
theorem dX6_stands_19 : decode cX6_stands 19 = .ok (.ireturn, 1) := by decide +kernel
theorem dX6_thrust_0 : decode cX6_thrust 0 = .ok (.iload_n 1, 1) := by decide +kernel
theorem dX6_thrust_1 : decode cX6_thrust 1 = .ok (.invokestatic 138, 3) := by decide +kernel
theorem dX6_thrust_4 : decode cX6_thrust 4 = .ok (.ifCond .eq 10, 3) := by decide +kernel
theorem dX6_thrust_7 : decode cX6_thrust 7 = .ok (.iload_n 2, 1) := by decide +kernel
theorem dX6_thrust_8 : decode cX6_thrust 8 = .ok (.invokestatic 138, 3) := by decide +kernel
theorem dX6_thrust_11 : decode cX6_thrust 11 = .ok (.ifCond .ne 7, 3) := by decide +kernel
theorem dX6_thrust_14 : decode cX6_thrust 14 = .ok (.ldc2_w 141, 3) := by decide +kernel
theorem dX6_thrust_17 : decode cX6_thrust 17 = .ok (.lreturn, 1) := by decide +kernel
theorem dX6_thrust_18 : decode cX6_thrust 18 = .ok (.aload_n 0, 1) := by decide +kernel
theorem dX6_thrust_19 : decode cX6_thrust 19 = .ok (.aload_n 0, 1) := by decide +kernel
theorem dX6_thrust_20 : decode cX6_thrust 20 = .ok (.getfield 12, 3) := by decide +kernel
theorem dX6_thrust_23 : decode cX6_thrust 23 = .ok (.getfield 91, 3) := by decide +kernel
theorem dX6_thrust_26 : decode cX6_thrust 26 = .ok (.invokevirtual 134, 3) := by decide +kernel
theorem dX6_thrust_29 : decode cX6_thrust 29 = .ok (.ifCond .ne 7, 3) := by decide +kernel
theorem dX6_thrust_32 : decode cX6_thrust 32 = .ok (.ldc2_w 143, 3) := by decide +kernel
theorem dX6_thrust_35 : decode cX6_thrust 35 = .ok (.lreturn, 1) := by decide +kernel
theorem dX6_thrust_36 : decode cX6_thrust 36 = .ok (.iload_n 1, 1) := by decide +kernel
theorem dX6_thrust_37 : decode cX6_thrust 37 = .ok (.ifCond .ne 17, 3) := by decide +kernel
theorem dX6_thrust_40 : decode cX6_thrust 40 = .ok (.aload_n 0, 1) := by decide +kernel
theorem dX6_thrust_41 : decode cX6_thrust 41 = .ok (.getfield 21, 3) := by decide +kernel
theorem dX6_thrust_44 : decode cX6_thrust 44 = .ok (.aload_n 0, 1) := by decide +kernel
theorem dX6_thrust_45 : decode cX6_thrust 45 = .ok (.getfield 52, 3) := by decide +kernel
theorem dX6_thrust_48 : decode cX6_thrust 48 = .ok (.invokevirtual 145, 3) := by decide +kernel
theorem dX6_thrust_51 : decode cX6_thrust 51 = .ok (.goto 14, 3) := by decide +kernel
theorem dX6_thrust_54 : decode cX6_thrust 54 = .ok (.aload_n 0, 1) := by decide +kernel
theorem dX6_thrust_55 : decode cX6_thrust 55 = .ok (.getfield 21, 3) := by decide +kernel
theorem dX6_thrust_58 : decode cX6_thrust 58 = .ok (.aload_n 0, 1) := by decide +kernel
theorem dX6_thrust_59 : decode cX6_thrust 59 = .ok (.getfield 52, 3) := by decide +kernel
theorem dX6_thrust_62 : decode cX6_thrust 62 = .ok (.invokevirtual 149, 3) := by decide +kernel
theorem dX6_thrust_65 : decode cX6_thrust 65 = .ok (.istore_n 3, 1) := by decide +kernel
theorem dX6_thrust_66 : decode cX6_thrust 66 = .ok (.iload_n 3, 1) := by decide +kernel
theorem dX6_thrust_67 : decode cX6_thrust 67 = .ok (.ifCond .eq 15, 3) := by decide +kernel
theorem dX6_thrust_70 : decode cX6_thrust 70 = .ok (.aload_n 0, 1) := by decide +kernel
theorem dX6_thrust_71 : decode cX6_thrust 71 = .ok (.getfield 52, 3) := by decide +kernel
theorem dX6_thrust_74 : decode cX6_thrust 74 = .ok (.getfield 152, 3) := by decide +kernel
theorem dX6_thrust_77 : decode cX6_thrust 77 = .ok (.lconst 0, 1) := by decide +kernel
theorem dX6_thrust_78 : decode cX6_thrust 78 = .ok (.lcmp, 1) := by decide +kernel
theorem dX6_thrust_79 : decode cX6_thrust 79 = .ok (.ifCond .ne 7, 3) := by decide +kernel
theorem dX6_thrust_82 : decode cX6_thrust 82 = .ok (.ldc2_w 156, 3) := by decide +kernel
theorem dX6_thrust_85 : decode cX6_thrust 85 = .ok (.lreturn, 1) := by decide +kernel
theorem dX6_thrust_86 : decode cX6_thrust 86 = .ok (.aload_n 0, 1) := by decide +kernel
theorem dX6_thrust_87 : decode cX6_thrust 87 = .ok (.getfield 52, 3) := by decide +kernel
theorem dX6_thrust_90 : decode cX6_thrust 90 = .ok (.aload_n 0, 1) := by decide +kernel
theorem dX6_thrust_91 : decode cX6_thrust 91 = .ok (.getfield 52, 3) := by decide +kernel
theorem dX6_thrust_94 : decode cX6_thrust 94 = .ok (.getfield 158, 3) := by decide +kernel
theorem dX6_thrust_97 : decode cX6_thrust 97 = .ok (.aload_n 0, 1) := by decide +kernel
theorem dX6_thrust_98 : decode cX6_thrust 98 = .ok (.getfield 52, 3) := by decide +kernel
theorem dX6_thrust_101 : decode cX6_thrust 101 = .ok (.getfield 152, 3) := by decide +kernel
theorem dX6_thrust_104 : decode cX6_thrust 104 = .ok (.aload_n 0, 1) := by decide +kernel
theorem dX6_thrust_105 : decode cX6_thrust 105 = .ok (.getfield 12, 3) := by decide +kernel
theorem dX6_thrust_108 : decode cX6_thrust 108 = .ok (.invokevirtual 161, 3) := by decide +kernel
theorem dX6_thrust_111 : decode cX6_thrust 111 = .ok (.i2l, 1) := by decide +kernel
theorem dX6_thrust_112 : decode cX6_thrust 112 = .ok (.lmul, 1) := by decide +kernel
theorem dX6_thrust_113 : decode cX6_thrust 113 = .ok (.invokevirtual 165, 3) := by decide +kernel
theorem dX6_thrust_116 : decode cX6_thrust 116 = .ok (.aload_n 0, 1) := by decide +kernel
theorem dX6_thrust_117 : decode cX6_thrust 117 = .ok (.getfield 52, 3) := by decide +kernel
theorem dX6_thrust_120 : decode cX6_thrust 120 = .ok (.iload_n 2, 1) := by decide +kernel
theorem dX6_thrust_121 : decode cX6_thrust 121 = .ok (.invokevirtual 169, 3) := by decide +kernel
theorem dX6_thrust_124 : decode cX6_thrust 124 = .ok (.lreturn, 1) := by decide +kernel
theorem dX6_height_0 : decode cX6_height 0 = .ok (.aload_n 0, 1) := by decide +kernel
theorem dX6_height_1 : decode cX6_height 1 = .ok (.getfield 12, 3) := by decide +kernel
theorem dX6_height_4 : decode cX6_height 4 = .ok (.iload_n 1, 1) := by decide +kernel
theorem dX6_height_5 : decode cX6_height 5 = .ok (.invokevirtual 71, 3) := by decide +kernel
theorem dX6_height_8 : decode cX6_height 8 = .ok (.ifCond .eq 10, 3) := by decide +kernel
theorem dX6_height_11 : decode cX6_height 11 = .ok (.iload_n 2, 1) := by decide +kernel
theorem dX6_height_12 : decode cX6_height 12 = .ok (.invokestatic 138, 3) := by decide +kernel
theorem dX6_height_15 : decode cX6_height 15 = .ok (.ifCond .ne 7, 3) := by decide +kernel
theorem dX6_height_18 : decode cX6_height 18 = .ok (.ldc2_w 173, 3) := by decide +kernel
theorem dX6_height_21 : decode cX6_height 21 = .ok (.lreturn, 1) := by decide +kernel
theorem dX6_height_22 : decode cX6_height 22 = .ok (.aload_n 0, 1) := by decide +kernel
theorem dX6_height_23 : decode cX6_height 23 = .ok (.aload_n 0, 1) := by decide +kernel
theorem dX6_height_24 : decode cX6_height 24 = .ok (.getfield 12, 3) := by decide +kernel
theorem dX6_height_27 : decode cX6_height 27 = .ok (.getfield 91, 3) := by decide +kernel
theorem dX6_height_30 : decode cX6_height 30 = .ok (.invokevirtual 134, 3) := by decide +kernel
theorem dX6_height_33 : decode cX6_height 33 = .ok (.ifCond .ne 7, 3) := by decide +kernel
theorem dX6_height_36 : decode cX6_height 36 = .ok (.ldc2_w 175, 3) := by decide +kernel
theorem dX6_height_39 : decode cX6_height 39 = .ok (.lreturn, 1) := by decide +kernel
theorem dX6_height_40 : decode cX6_height 40 = .ok (.aload_n 0, 1) := by decide +kernel
theorem dX6_height_41 : decode cX6_height 41 = .ok (.getfield 21, 3) := by decide +kernel
theorem dX6_height_44 : decode cX6_height 44 = .ok (.aload_n 0, 1) := by decide +kernel
theorem dX6_height_45 : decode cX6_height 45 = .ok (.getfield 52, 3) := by decide +kernel
theorem dX6_height_48 : decode cX6_height 48 = .ok (.invokevirtual 145, 3) := by decide +kernel
theorem dX6_height_51 : decode cX6_height 51 = .ok (.ifCond .ne 7, 3) := by decide +kernel
theorem dX6_height_54 : decode cX6_height 54 = .ok (.ldc2_w 177, 3) := by decide +kernel
theorem dX6_height_57 : decode cX6_height 57 = .ok (.lreturn, 1) := by decide +kernel
theorem dX6_height_58 : decode cX6_height 58 = .ok (.aload_n 0, 1) := by decide +kernel
theorem dX6_height_59 : decode cX6_height 59 = .ok (.getfield 28, 3) := by decide +kernel
theorem dX6_height_62 : decode cX6_height 62 = .ok (.aload_n 0, 1) := by decide +kernel
theorem dX6_height_63 : decode cX6_height 63 = .ok (.getfield 52, 3) := by decide +kernel
theorem dX6_height_66 : decode cX6_height 66 = .ok (.invokevirtual 179, 3) := by decide +kernel
theorem dX6_height_69 : decode cX6_height 69 = .ok (.aload_n 0, 1) := by decide +kernel
theorem dX6_height_70 : decode cX6_height 70 = .ok (.getfield 28, 3) := by decide +kernel
theorem dX6_height_73 : decode cX6_height 73 = .ok (.aload_n 0, 1) := by decide +kernel
theorem dX6_height_74 : decode cX6_height 74 = .ok (.getfield 52, 3) := by decide +kernel
theorem dX6_height_77 : decode cX6_height 77 = .ok (.iload_n 1, 1) := by decide +kernel
theorem dX6_height_78 : decode cX6_height 78 = .ok (.invokevirtual 183, 3) := by decide +kernel
theorem dX6_height_81 : decode cX6_height 81 = .ok (.aload_n 0, 1) := by decide +kernel
theorem dX6_height_82 : decode cX6_height 82 = .ok (.getfield 52, 3) := by decide +kernel
theorem dX6_height_85 : decode cX6_height 85 = .ok (.iload_n 2, 1) := by decide +kernel
theorem dX6_height_86 : decode cX6_height 86 = .ok (.invokevirtual 169, 3) := by decide +kernel
theorem dX6_height_89 : decode cX6_height 89 = .ok (.lreturn, 1) := by decide +kernel
theorem dX6_bar_0 : decode cX6_bar 0 = .ok (.iload_n 1, 1) := by decide +kernel
theorem dX6_bar_1 : decode cX6_bar 1 = .ok (.iconst (-1), 1) := by decide +kernel
theorem dX6_bar_2 : decode cX6_bar 2 = .ok (.if_icmp .lt 8, 3) := by decide +kernel
theorem dX6_bar_5 : decode cX6_bar 5 = .ok (.iload_n 1, 1) := by decide +kernel
theorem dX6_bar_6 : decode cX6_bar 6 = .ok (.iconst 4, 1) := by decide +kernel
theorem dX6_bar_7 : decode cX6_bar 7 = .ok (.if_icmp .lt 5, 3) := by decide +kernel
theorem dX6_bar_10 : decode cX6_bar 10 = .ok (.iconst (-1), 1) := by decide +kernel
theorem dX6_bar_11 : decode cX6_bar 11 = .ok (.ireturn, 1) := by decide +kernel
theorem dX6_bar_12 : decode cX6_bar 12 = .ok (.aload_n 0, 1) := by decide +kernel
theorem dX6_bar_13 : decode cX6_bar 13 = .ok (.aload_n 0, 1) := by decide +kernel
theorem dX6_bar_14 : decode cX6_bar 14 = .ok (.getfield 12, 3) := by decide +kernel
theorem dX6_bar_17 : decode cX6_bar 17 = .ok (.getfield 91, 3) := by decide +kernel
theorem dX6_bar_20 : decode cX6_bar 20 = .ok (.invokevirtual 134, 3) := by decide +kernel
theorem dX6_bar_23 : decode cX6_bar 23 = .ok (.ifCond .eq 6, 3) := by decide +kernel
theorem dX6_bar_26 : decode cX6_bar 26 = .ok (.bipush (-2), 2) := by decide +kernel
theorem dX6_bar_28 : decode cX6_bar 28 = .ok (.ireturn, 1) := by decide +kernel
theorem dX6_bar_29 : decode cX6_bar 29 = .ok (.aload_n 0, 1) := by decide +kernel
theorem dX6_bar_30 : decode cX6_bar 30 = .ok (.getfield 35, 3) := by decide +kernel
theorem dX6_bar_33 : decode cX6_bar 33 = .ok (.invokevirtual 187, 3) := by decide +kernel
theorem dX6_bar_36 : decode cX6_bar 36 = .ok (.iload_n 1, 1) := by decide +kernel
theorem dX6_bar_37 : decode cX6_bar 37 = .ok (.iconst (-1), 1) := by decide +kernel
theorem dX6_bar_38 : decode cX6_bar 38 = .ok (.if_icmp .ne 11, 3) := by decide +kernel
theorem dX6_bar_41 : decode cX6_bar 41 = .ok (.aload_n 0, 1) := by decide +kernel
theorem dX6_bar_42 : decode cX6_bar 42 = .ok (.getfield 35, 3) := by decide +kernel
theorem dX6_bar_45 : decode cX6_bar 45 = .ok (.getfield 190, 3) := by decide +kernel
theorem dX6_bar_48 : decode cX6_bar 48 = .ok (.ireturn, 1) := by decide +kernel
theorem dX6_bar_49 : decode cX6_bar 49 = .ok (.iload_n 1, 1) := by decide +kernel
theorem dX6_bar_50 : decode cX6_bar 50 = .ok (.aload_n 0, 1) := by decide +kernel
theorem dX6_bar_51 : decode cX6_bar 51 = .ok (.getfield 35, 3) := by decide +kernel
theorem dX6_bar_54 : decode cX6_bar 54 = .ok (.getfield 190, 3) := by decide +kernel
theorem dX6_bar_57 : decode cX6_bar 57 = .ok (.if_icmp .ge 15, 3) := by decide +kernel
theorem dX6_bar_60 : decode cX6_bar 60 = .ok (.aload_n 0, 1) := by decide +kernel
theorem dX6_bar_61 : decode cX6_bar 61 = .ok (.getfield 35, 3) := by decide +kernel
theorem dX6_bar_64 : decode cX6_bar 64 = .ok (.getfield 193, 3) := by decide +kernel
theorem dX6_bar_67 : decode cX6_bar 67 = .ok (.iload_n 1, 1) := by decide +kernel
theorem dX6_bar_68 : decode cX6_bar 68 = .ok (.iaload, 1) := by decide +kernel
theorem dX6_bar_69 : decode cX6_bar 69 = .ok (.goto 4, 3) := by decide +kernel
theorem dX6_bar_72 : decode cX6_bar 72 = .ok (.iconst (-1), 1) := by decide +kernel
theorem dX6_bar_73 : decode cX6_bar 73 = .ok (.ireturn, 1) := by decide +kernel
theorem dX6_fits_0 : decode cX6_fits 0 = .ok (.iload_n 1, 1) := by decide +kernel
theorem dX6_fits_1 : decode cX6_fits 1 = .ok (.invokestatic 196, 3) := by decide +kernel
theorem dX6_fits_4 : decode cX6_fits 4 = .ok (.ifCond .eq 10, 3) := by decide +kernel
theorem dX6_fits_7 : decode cX6_fits 7 = .ok (.iload_n 2, 1) := by decide +kernel
theorem dX6_fits_8 : decode cX6_fits 8 = .ok (.invokestatic 196, 3) := by decide +kernel
theorem dX6_fits_11 : decode cX6_fits 11 = .ok (.ifCond .ne 5, 3) := by decide +kernel
theorem dX6_fits_14 : decode cX6_fits 14 = .ok (.iconst (-1), 1) := by decide +kernel
theorem dX6_fits_15 : decode cX6_fits 15 = .ok (.ireturn, 1) := by decide +kernel
theorem dX6_fits_16 : decode cX6_fits 16 = .ok (.iload_n 3, 1) := by decide +kernel
theorem dX6_fits_17 : decode cX6_fits 17 = .ok (.ifCond .lt 24, 3) := by decide +kernel
theorem dX6_fits_20 : decode cX6_fits 20 = .ok (.iload_n 3, 1) := by decide +kernel
theorem dX6_fits_21 : decode cX6_fits 21 = .ok (.sipush 1000, 3) := by decide +kernel
theorem dX6_fits_24 : decode cX6_fits 24 = .ok (.if_icmp .gt 17, 3) := by decide +kernel
theorem dX6_fits_27 : decode cX6_fits 27 = .ok (.iload 4, 2) := by decide +kernel
theorem dX6_fits_29 : decode cX6_fits 29 = .ok (.iconst 1, 1) := by decide +kernel
theorem dX6_fits_30 : decode cX6_fits 30 = .ok (.if_icmp .lt 11, 3) := by decide +kernel
theorem dX6_fits_33 : decode cX6_fits 33 = .ok (.iload 4, 2) := by decide +kernel
theorem dX6_fits_35 : decode cX6_fits 35 = .ok (.sipush 1000, 3) := by decide +kernel
theorem dX6_fits_38 : decode cX6_fits 38 = .ok (.if_icmp .le 5, 3) := by decide +kernel
theorem dX6_fits_41 : decode cX6_fits 41 = .ok (.iconst (-1), 1) := by decide +kernel
theorem dX6_fits_42 : decode cX6_fits 42 = .ok (.ireturn, 1) := by decide +kernel
theorem dX6_fits_43 : decode cX6_fits 43 = .ok (.aload_n 0, 1) := by decide +kernel
theorem dX6_fits_44 : decode cX6_fits 44 = .ok (.getfield 12, 3) := by decide +kernel
theorem dX6_fits_47 : decode cX6_fits 47 = .ok (.aload_n 0, 1) := by decide +kernel
theorem dX6_fits_48 : decode cX6_fits 48 = .ok (.getfield 12, 3) := by decide +kernel
theorem dX6_fits_51 : decode cX6_fits 51 = .ok (.getfield 91, 3) := by decide +kernel
theorem dX6_fits_54 : decode cX6_fits 54 = .ok (.invokevirtual 127, 3) := by decide +kernel
theorem dX6_fits_57 : decode cX6_fits 57 = .ok (.aload_n 0, 1) := by decide +kernel
theorem dX6_fits_58 : decode cX6_fits 58 = .ok (.getfield 12, 3) := by decide +kernel
theorem dX6_fits_61 : decode cX6_fits 61 = .ok (.invokevirtual 161, 3) := by decide +kernel
theorem dX6_fits_64 : decode cX6_fits 64 = .ok (.i2l, 1) := by decide +kernel
theorem dX6_fits_65 : decode cX6_fits 65 = .ok (.lstore 5, 2) := by decide +kernel
theorem dX6_fits_67 : decode cX6_fits 67 = .ok (.iconst 0, 1) := by decide +kernel
theorem dX6_fits_68 : decode cX6_fits 68 = .ok (.istore 7, 2) := by decide +kernel
theorem dX6_fits_70 : decode cX6_fits 70 = .ok (.iload 7, 2) := by decide +kernel
theorem dX6_fits_72 : decode cX6_fits 72 = .ok (.aload_n 0, 1) := by decide +kernel
theorem dX6_fits_73 : decode cX6_fits 73 = .ok (.getfield 12, 3) := by decide +kernel
theorem dX6_fits_76 : decode cX6_fits 76 = .ok (.getfield 64, 3) := by decide +kernel
theorem dX6_fits_79 : decode cX6_fits 79 = .ok (.if_icmp .gt 116, 3) := by decide +kernel
theorem dX6_fits_82 : decode cX6_fits 82 = .ok (.iload_n 1, 1) := by decide +kernel
theorem dX6_fits_83 : decode cX6_fits 83 = .ok (.i2l, 1) := by decide +kernel
theorem dX6_fits_84 : decode cX6_fits 84 = .ok (.lload 5, 2) := by decide +kernel
theorem dX6_fits_86 : decode cX6_fits 86 = .ok (.aload_n 0, 1) := by decide +kernel
theorem dX6_fits_87 : decode cX6_fits 87 = .ok (.getfield 12, 3) := by decide +kernel
theorem dX6_fits_90 : decode cX6_fits 90 = .ok (.getfield 68, 3) := by decide +kernel
theorem dX6_fits_93 : decode cX6_fits 93 = .ok (.iload 7, 2) := by decide +kernel
theorem dX6_fits_95 : decode cX6_fits 95 = .ok (.iaload, 1) := by decide +kernel
theorem dX6_fits_96 : decode cX6_fits 96 = .ok (.i2l, 1) := by decide +kernel
theorem dX6_fits_97 : decode cX6_fits 97 = .ok (.lsub, 1) := by decide +kernel
theorem dX6_fits_98 : decode cX6_fits 98 = .ok (.lmul, 1) := by decide +kernel
theorem dX6_fits_99 : decode cX6_fits 99 = .ok (.iload_n 2, 1) := by decide +kernel
theorem dX6_fits_100 : decode cX6_fits 100 = .ok (.i2l, 1) := by decide +kernel
theorem dX6_fits_101 : decode cX6_fits 101 = .ok (.aload_n 0, 1) := by decide +kernel
theorem dX6_fits_102 : decode cX6_fits 102 = .ok (.getfield 12, 3) := by decide +kernel
theorem dX6_fits_105 : decode cX6_fits 105 = .ok (.getfield 68, 3) := by decide +kernel
theorem dX6_fits_108 : decode cX6_fits 108 = .ok (.iload 7, 2) := by decide +kernel
theorem dX6_fits_110 : decode cX6_fits 110 = .ok (.iaload, 1) := by decide +kernel
theorem dX6_fits_111 : decode cX6_fits 111 = .ok (.i2l, 1) := by decide +kernel
theorem dX6_fits_112 : decode cX6_fits 112 = .ok (.lmul, 1) := by decide +kernel
theorem dX6_fits_113 : decode cX6_fits 113 = .ok (.ladd, 1) := by decide +kernel
theorem dX6_fits_114 : decode cX6_fits 114 = .ok (.lstore 8, 2) := by decide +kernel
theorem dX6_fits_116 : decode cX6_fits 116 = .ok (.lload 8, 2) := by decide +kernel
theorem dX6_fits_118 : decode cX6_fits 118 = .ok (.iload 4, 2) := by decide +kernel
theorem dX6_fits_120 : decode cX6_fits 120 = .ok (.i2l, 1) := by decide +kernel
theorem dX6_fits_121 : decode cX6_fits 121 = .ok (.lmul, 1) := by decide +kernel
theorem dX6_fits_122 : decode cX6_fits 122 = .ok (.aload_n 0, 1) := by decide +kernel
theorem dX6_fits_123 : decode cX6_fits 123 = .ok (.getfield 12, 3) := by decide +kernel
theorem dX6_fits_126 : decode cX6_fits 126 = .ok (.getfield 131, 3) := by decide +kernel
theorem dX6_fits_129 : decode cX6_fits 129 = .ok (.iload 7, 2) := by decide +kernel
theorem dX6_fits_131 : decode cX6_fits 131 = .ok (.iaload, 1) := by decide +kernel
theorem dX6_fits_132 : decode cX6_fits 132 = .ok (.i2l, 1) := by decide +kernel
theorem dX6_fits_133 : decode cX6_fits 133 = .ok (.iload_n 3, 1) := by decide +kernel
theorem dX6_fits_134 : decode cX6_fits 134 = .ok (.i2l, 1) := by decide +kernel
theorem dX6_fits_135 : decode cX6_fits 135 = .ok (.lmul, 1) := by decide +kernel
theorem dX6_fits_136 : decode cX6_fits 136 = .ok (.ladd, 1) := by decide +kernel
theorem dX6_fits_137 : decode cX6_fits 137 = .ok (.lstore 10, 2) := by decide +kernel
theorem dX6_fits_139 : decode cX6_fits 139 = .ok (.lload 10, 2) := by decide +kernel
theorem dX6_fits_141 : decode cX6_fits 141 = .ok (.aload_n 0, 1) := by decide +kernel
theorem dX6_fits_142 : decode cX6_fits 142 = .ok (.getfield 12, 3) := by decide +kernel
theorem dX6_fits_145 : decode cX6_fits 145 = .ok (.getfield 79, 3) := by decide +kernel
theorem dX6_fits_148 : decode cX6_fits 148 = .ok (.iload 7, 2) := by decide +kernel
theorem dX6_fits_150 : decode cX6_fits 150 = .ok (.iaload, 1) := by decide +kernel
theorem dX6_fits_151 : decode cX6_fits 151 = .ok (.i2l, 1) := by decide +kernel
theorem dX6_fits_152 : decode cX6_fits 152 = .ok (.lload 5, 2) := by decide +kernel
theorem dX6_fits_154 : decode cX6_fits 154 = .ok (.lmul, 1) := by decide +kernel
theorem dX6_fits_155 : decode cX6_fits 155 = .ok (.iload 4, 2) := by decide +kernel
theorem dX6_fits_157 : decode cX6_fits 157 = .ok (.i2l, 1) := by decide +kernel
theorem dX6_fits_158 : decode cX6_fits 158 = .ok (.lmul, 1) := by decide +kernel
theorem dX6_fits_159 : decode cX6_fits 159 = .ok (.lcmp, 1) := by decide +kernel
theorem dX6_fits_160 : decode cX6_fits 160 = .ok (.ifCond .lt 27, 3) := by decide +kernel
theorem dX6_fits_163 : decode cX6_fits 163 = .ok (.lload 10, 2) := by decide +kernel
theorem dX6_fits_165 : decode cX6_fits 165 = .ok (.aload_n 0, 1) := by decide +kernel
theorem dX6_fits_166 : decode cX6_fits 166 = .ok (.getfield 12, 3) := by decide +kernel
theorem dX6_fits_169 : decode cX6_fits 169 = .ok (.getfield 82, 3) := by decide +kernel
theorem dX6_fits_172 : decode cX6_fits 172 = .ok (.iload 7, 2) := by decide +kernel
theorem dX6_fits_174 : decode cX6_fits 174 = .ok (.iaload, 1) := by decide +kernel
theorem dX6_fits_175 : decode cX6_fits 175 = .ok (.i2l, 1) := by decide +kernel
theorem dX6_fits_176 : decode cX6_fits 176 = .ok (.lload 5, 2) := by decide +kernel
theorem dX6_fits_178 : decode cX6_fits 178 = .ok (.lmul, 1) := by decide +kernel
theorem dX6_fits_179 : decode cX6_fits 179 = .ok (.iload 4, 2) := by decide +kernel
theorem dX6_fits_181 : decode cX6_fits 181 = .ok (.i2l, 1) := by decide +kernel
theorem dX6_fits_182 : decode cX6_fits 182 = .ok (.lmul, 1) := by decide +kernel
theorem dX6_fits_183 : decode cX6_fits 183 = .ok (.lcmp, 1) := by decide +kernel
theorem dX6_fits_184 : decode cX6_fits 184 = .ok (.ifCond .le 5, 3) := by decide +kernel
theorem dX6_fits_187 : decode cX6_fits 187 = .ok (.iconst 0, 1) := by decide +kernel
theorem dX6_fits_188 : decode cX6_fits 188 = .ok (.ireturn, 1) := by decide +kernel
theorem dX6_fits_189 : decode cX6_fits 189 = .ok (.iinc 7 1, 3) := by decide +kernel
theorem dX6_fits_192 : decode cX6_fits 192 = .ok (.goto (-122), 3) := by decide +kernel
theorem dX6_fits_195 : decode cX6_fits 195 = .ok (.iconst 1, 1) := by decide +kernel
theorem dX6_fits_196 : decode cX6_fits 196 = .ok (.ireturn, 1) := by decide +kernel
theorem dX6_factor_0 : decode cX6_factor 0 = .ok (.iload_n 1, 1) := by decide +kernel
theorem dX6_factor_1 : decode cX6_factor 1 = .ok (.invokestatic 138, 3) := by decide +kernel
theorem dX6_factor_4 : decode cX6_factor 4 = .ok (.ifCond .ne 7, 3) := by decide +kernel
theorem dX6_factor_7 : decode cX6_factor 7 = .ok (.ldc2_w 141, 3) := by decide +kernel
theorem dX6_factor_10 : decode cX6_factor 10 = .ok (.lreturn, 1) := by decide +kernel
theorem dX6_factor_11 : decode cX6_factor 11 = .ok (.aload_n 0, 1) := by decide +kernel
theorem dX6_factor_12 : decode cX6_factor 12 = .ok (.getfield 21, 3) := by decide +kernel
theorem dX6_factor_15 : decode cX6_factor 15 = .ok (.aload_n 0, 1) := by decide +kernel
theorem dX6_factor_16 : decode cX6_factor 16 = .ok (.getfield 12, 3) := by decide +kernel
theorem dX6_factor_19 : decode cX6_factor 19 = .ok (.getfield 91, 3) := by decide +kernel
theorem dX6_factor_22 : decode cX6_factor 22 = .ok (.invokevirtual 199, 3) := by decide +kernel
theorem dX6_factor_25 : decode cX6_factor 25 = .ok (.aload_n 0, 1) := by decide +kernel
theorem dX6_factor_26 : decode cX6_factor 26 = .ok (.getfield 21, 3) := by decide +kernel
theorem dX6_factor_29 : decode cX6_factor 29 = .ok (.aload_n 0, 1) := by decide +kernel
theorem dX6_factor_30 : decode cX6_factor 30 = .ok (.getfield 52, 3) := by decide +kernel
theorem dX6_factor_33 : decode cX6_factor 33 = .ok (.invokevirtual 202, 3) := by decide +kernel
theorem dX6_factor_36 : decode cX6_factor 36 = .ok (.ifCond .ne 7, 3) := by decide +kernel
theorem dX6_factor_39 : decode cX6_factor 39 = .ok (.ldc2_w 156, 3) := by decide +kernel
theorem dX6_factor_42 : decode cX6_factor 42 = .ok (.lreturn, 1) := by decide +kernel
theorem dX6_factor_43 : decode cX6_factor 43 = .ok (.aload_n 0, 1) := by decide +kernel
theorem dX6_factor_44 : decode cX6_factor 44 = .ok (.getfield 52, 3) := by decide +kernel
theorem dX6_factor_47 : decode cX6_factor 47 = .ok (.iload_n 1, 1) := by decide +kernel
theorem dX6_factor_48 : decode cX6_factor 48 = .ok (.invokevirtual 169, 3) := by decide +kernel
theorem dX6_factor_51 : decode cX6_factor 51 = .ok (.lreturn, 1) := by decide +kernel
theorem dX6_harms_0 : decode cX6_harms 0 = .ok (.iload_n 1, 1) := by decide +kernel
theorem dX6_harms_1 : decode cX6_harms 1 = .ok (.iconst 1, 1) := by decide +kernel
theorem dX6_harms_2 : decode cX6_harms 2 = .ok (.if_icmp .lt 9, 3) := by decide +kernel
theorem dX6_harms_5 : decode cX6_harms 5 = .ok (.iload_n 1, 1) := by decide +kernel
theorem dX6_harms_6 : decode cX6_harms 6 = .ok (.bipush 10, 2) := by decide +kernel
theorem dX6_harms_8 : decode cX6_harms 8 = .ok (.if_icmp .le 5, 3) := by decide +kernel
theorem dX6_harms_11 : decode cX6_harms 11 = .ok (.iconst (-1), 1) := by decide +kernel
theorem dX6_harms_12 : decode cX6_harms 12 = .ok (.ireturn, 1) := by decide +kernel
theorem dX6_harms_13 : decode cX6_harms 13 = .ok (.iconst 1, 1) := by decide +kernel
theorem dX6_harms_14 : decode cX6_harms 14 = .ok (.istore_n 2, 1) := by decide +kernel
theorem dX6_harms_15 : decode cX6_harms 15 = .ok (.aload_n 0, 1) := by decide +kernel
theorem dX6_harms_16 : decode cX6_harms 16 = .ok (.getfield 56, 3) := by decide +kernel
theorem dX6_harms_19 : decode cX6_harms 19 = .ok (.lconst 0, 1) := by decide +kernel
theorem dX6_harms_20 : decode cX6_harms 20 = .ok (.lconst 1, 1) := by decide +kernel
theorem dX6_harms_21 : decode cX6_harms 21 = .ok (.invokevirtual 165, 3) := by decide +kernel
theorem dX6_harms_24 : decode cX6_harms 24 = .ok (.iconst 1, 1) := by decide +kernel
theorem dX6_harms_25 : decode cX6_harms 25 = .ok (.istore_n 3, 1) := by decide +kernel
theorem dX6_harms_26 : decode cX6_harms 26 = .ok (.iload_n 3, 1) := by decide +kernel
theorem dX6_harms_27 : decode cX6_harms 27 = .ok (.aload_n 0, 1) := by decide +kernel
theorem dX6_harms_28 : decode cX6_harms 28 = .ok (.getfield 12, 3) := by decide +kernel
theorem dX6_harms_31 : decode cX6_harms 31 = .ok (.getfield 64, 3) := by decide +kernel
theorem dX6_harms_34 : decode cX6_harms 34 = .ok (.if_icmp .ge 101, 3) := by decide +kernel
theorem dX6_harms_37 : decode cX6_harms 37 = .ok (.aload_n 0, 1) := by decide +kernel
theorem dX6_harms_38 : decode cX6_harms 38 = .ok (.getfield 12, 3) := by decide +kernel
theorem dX6_harms_41 : decode cX6_harms 41 = .ok (.getfield 91, 3) := by decide +kernel
theorem dX6_harms_44 : decode cX6_harms 44 = .ok (.iconst 0, 1) := by decide +kernel
theorem dX6_harms_45 : decode cX6_harms 45 = .ok (.aload_n 0, 1) := by decide +kernel
theorem dX6_harms_46 : decode cX6_harms 46 = .ok (.getfield 45, 3) := by decide +kernel
theorem dX6_harms_49 : decode cX6_harms 49 = .ok (.iconst 0, 1) := by decide +kernel
theorem dX6_harms_50 : decode cX6_harms 50 = .ok (.bipush 7, 2) := by decide +kernel
theorem dX6_harms_52 : decode cX6_harms 52 = .ok (.invokestatic 205, 3) := by decide +kernel
theorem dX6_harms_55 : decode cX6_harms 55 = .ok (.aload_n 0, 1) := by decide +kernel
