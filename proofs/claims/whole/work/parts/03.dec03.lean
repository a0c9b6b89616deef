theorem dX6_harms_56 : decode cX6_harms 56 = .ok (.getfield 45, 3) := by decide +kernel
theorem dX6_harms_59 : decode cX6_harms 59 = .ok (.iload_n 3, 1) := by decide +kernel
theorem dX6_harms_60 : decode cX6_harms 60 = .ok (.dup2, 1) := by decide +kernel
theorem dX6_harms_61 : decode cX6_harms 61 = .ok (.iaload, 1) := by decide +kernel
theorem dX6_harms_62 : decode cX6_harms 62 = .ok (.iload_n 1, 1) := by decide +kernel
theorem dX6_harms_63 : decode cX6_harms 63 = .ok (.iadd, 1) := by decide +kernel
theorem dX6_harms_64 : decode cX6_harms 64 = .ok (.iastore, 1) := by decide +kernel
theorem dX6_harms_65 : decode cX6_harms 65 = .ok (.aload_n 0, 1) := by decide +kernel
theorem dX6_harms_66 : decode cX6_harms 66 = .ok (.getfield 21, 3) := by decide +kernel
theorem dX6_harms_69 : decode cX6_harms 69 = .ok (.aload_n 0, 1) := by decide +kernel
theorem dX6_harms_70 : decode cX6_harms 70 = .ok (.getfield 45, 3) := by decide +kernel
theorem dX6_harms_73 : decode cX6_harms 73 = .ok (.invokevirtual 199, 3) := by decide +kernel
theorem dX6_harms_76 : decode cX6_harms 76 = .ok (.aload_n 0, 1) := by decide +kernel
theorem dX6_harms_77 : decode cX6_harms 77 = .ok (.getfield 21, 3) := by decide +kernel
theorem dX6_harms_80 : decode cX6_harms 80 = .ok (.aload_n 0, 1) := by decide +kernel
theorem dX6_harms_81 : decode cX6_harms 81 = .ok (.getfield 52, 3) := by decide +kernel
theorem dX6_harms_84 : decode cX6_harms 84 = .ok (.invokevirtual 202, 3) := by decide +kernel
theorem dX6_harms_87 : decode cX6_harms 87 = .ok (.ifCond .ne 5, 3) := by decide +kernel
theorem dX6_harms_90 : decode cX6_harms 90 = .ok (.iload_n 3, 1) := by decide +kernel
theorem dX6_harms_91 : decode cX6_harms 91 = .ok (.ireturn, 1) := by decide +kernel
theorem dX6_harms_92 : decode cX6_harms 92 = .ok (.aload_n 0, 1) := by decide +kernel
theorem dX6_harms_93 : decode cX6_harms 93 = .ok (.getfield 52, 3) := by decide +kernel
theorem dX6_harms_96 : decode cX6_harms 96 = .ok (.aload_n 0, 1) := by decide +kernel
theorem dX6_harms_97 : decode cX6_harms 97 = .ok (.getfield 56, 3) := by decide +kernel
theorem dX6_harms_100 : decode cX6_harms 100 = .ok (.invokevirtual 211, 3) := by decide +kernel
theorem dX6_harms_103 : decode cX6_harms 103 = .ok (.ifCond .eq 26, 3) := by decide +kernel
theorem dX6_harms_106 : decode cX6_harms 106 = .ok (.aload_n 0, 1) := by decide +kernel
theorem dX6_harms_107 : decode cX6_harms 107 = .ok (.getfield 56, 3) := by decide +kernel
theorem dX6_harms_110 : decode cX6_harms 110 = .ok (.aload_n 0, 1) := by decide +kernel
theorem dX6_harms_111 : decode cX6_harms 111 = .ok (.getfield 52, 3) := by decide +kernel
theorem dX6_harms_114 : decode cX6_harms 114 = .ok (.getfield 152, 3) := by decide +kernel
theorem dX6_harms_117 : decode cX6_harms 117 = .ok (.aload_n 0, 1) := by decide +kernel
theorem dX6_harms_118 : decode cX6_harms 118 = .ok (.getfield 52, 3) := by decide +kernel
theorem dX6_harms_121 : decode cX6_harms 121 = .ok (.getfield 158, 3) := by decide +kernel
theorem dX6_harms_124 : decode cX6_harms 124 = .ok (.invokevirtual 165, 3) := by decide +kernel
theorem dX6_harms_127 : decode cX6_harms 127 = .ok (.iload_n 3, 1) := by decide +kernel
theorem dX6_harms_128 : decode cX6_harms 128 = .ok (.istore_n 2, 1) := by decide +kernel
theorem dX6_harms_129 : decode cX6_harms 129 = .ok (.iinc 3 1, 3) := by decide +kernel
theorem dX6_harms_132 : decode cX6_harms 132 = .ok (.goto (-106), 3) := by decide +kernel
theorem dX6_harms_135 : decode cX6_harms 135 = .ok (.iload_n 2, 1) := by decide +kernel
theorem dX6_harms_136 : decode cX6_harms 136 = .ok (.ireturn, 1) := by decide +kernel
theorem dX6_falls_0 : decode cX6_falls 0 = .ok (.aload_n 0, 1) := by decide +kernel
theorem dX6_falls_1 : decode cX6_falls 1 = .ok (.getfield 12, 3) := by decide +kernel
theorem dX6_falls_4 : decode cX6_falls 4 = .ok (.getfield 64, 3) := by decide +kernel
theorem dX6_falls_7 : decode cX6_falls 7 = .ok (.iconst 2, 1) := by decide +kernel
theorem dX6_falls_8 : decode cX6_falls 8 = .ok (.idiv, 1) := by decide +kernel
theorem dX6_falls_9 : decode cX6_falls 9 = .ok (.istore_n 1, 1) := by decide +kernel
theorem dX6_falls_10 : decode cX6_falls 10 = .ok (.iconst 0, 1) := by decide +kernel
theorem dX6_falls_11 : decode cX6_falls 11 = .ok (.istore_n 2, 1) := by decide +kernel
theorem dX6_falls_12 : decode cX6_falls 12 = .ok (.iload_n 2, 1) := by decide +kernel
theorem dX6_falls_13 : decode cX6_falls 13 = .ok (.iload_n 1, 1) := by decide +kernel
theorem dX6_falls_14 : decode cX6_falls 14 = .ok (.if_icmp .gt 90, 3) := by decide +kernel
theorem dX6_falls_17 : decode cX6_falls 17 = .ok (.iconst 0, 1) := by decide +kernel
theorem dX6_falls_18 : decode cX6_falls 18 = .ok (.istore_n 3, 1) := by decide +kernel
theorem dX6_falls_19 : decode cX6_falls 19 = .ok (.iload_n 3, 1) := by decide +kernel
theorem dX6_falls_20 : decode cX6_falls 20 = .ok (.aload_n 0, 1) := by decide +kernel
theorem dX6_falls_21 : decode cX6_falls 21 = .ok (.getfield 12, 3) := by decide +kernel
theorem dX6_falls_24 : decode cX6_falls 24 = .ok (.getfield 64, 3) := by decide +kernel
theorem dX6_falls_27 : decode cX6_falls 27 = .ok (.if_icmp .gt 58, 3) := by decide +kernel
theorem dX6_falls_30 : decode cX6_falls 30 = .ok (.iload_n 3, 1) := by decide +kernel
theorem dX6_falls_31 : decode cX6_falls 31 = .ok (.iload_n 2, 1) := by decide +kernel
theorem dX6_falls_32 : decode cX6_falls 32 = .ok (.if_icmp .le 16, 3) := by decide +kernel
theorem dX6_falls_35 : decode cX6_falls 35 = .ok (.iload_n 3, 1) := by decide +kernel
theorem dX6_falls_36 : decode cX6_falls 36 = .ok (.aload_n 0, 1) := by decide +kernel
theorem dX6_falls_37 : decode cX6_falls 37 = .ok (.getfield 12, 3) := by decide +kernel
theorem dX6_falls_40 : decode cX6_falls 40 = .ok (.getfield 64, 3) := by decide +kernel
theorem dX6_falls_43 : decode cX6_falls 43 = .ok (.iload_n 2, 1) := by decide +kernel
theorem dX6_falls_44 : decode cX6_falls 44 = .ok (.isub, 1) := by decide +kernel
theorem dX6_falls_45 : decode cX6_falls 45 = .ok (.if_icmp .lt 7, 3) := by decide +kernel
theorem dX6_falls_48 : decode cX6_falls 48 = .ok (.iconst 1, 1) := by decide +kernel
theorem dX6_falls_49 : decode cX6_falls 49 = .ok (.goto 4, 3) := by decide +kernel
theorem dX6_falls_52 : decode cX6_falls 52 = .ok (.iconst 0, 1) := by decide +kernel
theorem dX6_falls_53 : decode cX6_falls 53 = .ok (.istore 4, 2) := by decide +kernel
theorem dX6_falls_55 : decode cX6_falls 55 = .ok (.aload_n 0, 1) := by decide +kernel
theorem dX6_falls_56 : decode cX6_falls 56 = .ok (.getfield 45, 3) := by decide +kernel
theorem dX6_falls_59 : decode cX6_falls 59 = .ok (.iload_n 3, 1) := by decide +kernel
theorem dX6_falls_60 : decode cX6_falls 60 = .ok (.iload 4, 2) := by decide +kernel
theorem dX6_falls_62 : decode cX6_falls 62 = .ok (.ifCond .eq 15, 3) := by decide +kernel
theorem dX6_falls_65 : decode cX6_falls 65 = .ok (.aload_n 0, 1) := by decide +kernel
theorem dX6_falls_66 : decode cX6_falls 66 = .ok (.getfield 12, 3) := by decide +kernel
theorem dX6_falls_69 : decode cX6_falls 69 = .ok (.getfield 91, 3) := by decide +kernel
theorem dX6_falls_72 : decode cX6_falls 72 = .ok (.iload_n 3, 1) := by decide +kernel
theorem dX6_falls_73 : decode cX6_falls 73 = .ok (.iaload, 1) := by decide +kernel
theorem dX6_falls_74 : decode cX6_falls 74 = .ok (.goto 4, 3) := by decide +kernel
theorem dX6_falls_77 : decode cX6_falls 77 = .ok (.iconst 0, 1) := by decide +kernel
theorem dX6_falls_78 : decode cX6_falls 78 = .ok (.iastore, 1) := by decide +kernel
theorem dX6_falls_79 : decode cX6_falls 79 = .ok (.iinc 3 1, 3) := by decide +kernel
theorem dX6_falls_82 : decode cX6_falls 82 = .ok (.goto (-63), 3) := by decide +kernel
theorem dX6_falls_85 : decode cX6_falls 85 = .ok (.aload_n 0, 1) := by decide +kernel
theorem dX6_falls_86 : decode cX6_falls 86 = .ok (.aload_n 0, 1) := by decide +kernel
theorem dX6_falls_87 : decode cX6_falls 87 = .ok (.getfield 45, 3) := by decide +kernel
theorem dX6_falls_90 : decode cX6_falls 90 = .ok (.invokevirtual 134, 3) := by decide +kernel
theorem dX6_falls_93 : decode cX6_falls 93 = .ok (.ifCond .ne 5, 3) := by decide +kernel
theorem dX6_falls_96 : decode cX6_falls 96 = .ok (.iload_n 2, 1) := by decide +kernel
theorem dX6_falls_97 : decode cX6_falls 97 = .ok (.ireturn, 1) := by decide +kernel
theorem dX6_falls_98 : decode cX6_falls 98 = .ok (.iinc 2 1, 3) := by decide +kernel
theorem dX6_falls_101 : decode cX6_falls 101 = .ok (.goto (-89), 3) := by decide +kernel
theorem dX6_falls_104 : decode cX6_falls 104 = .ok (.bipush (-4), 2) := by decide +kernel
theorem dX6_falls_106 : decode cX6_falls 106 = .ok (.ireturn, 1) := by decide +kernel
theorem dX6_spread_0 : decode cX6_spread 0 = .ok (.iload_n 1, 1) := by decide +kernel
theorem dX6_spread_1 : decode cX6_spread 1 = .ok (.bipush (-10), 2) := by decide +kernel
theorem dX6_spread_3 : decode cX6_spread 3 = .ok (.if_icmp .lt 9, 3) := by decide +kernel
theorem dX6_spread_6 : decode cX6_spread 6 = .ok (.iload_n 1, 1) := by decide +kernel
theorem dX6_spread_7 : decode cX6_spread 7 = .ok (.bipush 10, 2) := by decide +kernel
theorem dX6_spread_9 : decode cX6_spread 9 = .ok (.if_icmp .le 5, 3) := by decide +kernel
theorem dX6_spread_12 : decode cX6_spread 12 = .ok (.iconst (-1), 1) := by decide +kernel
theorem dX6_spread_13 : decode cX6_spread 13 = .ok (.ireturn, 1) := by decide +kernel
theorem dX6_spread_14 : decode cX6_spread 14 = .ok (.aload_n 0, 1) := by decide +kernel
theorem dX6_spread_15 : decode cX6_spread 15 = .ok (.getfield 12, 3) := by decide +kernel
theorem dX6_spread_18 : decode cX6_spread 18 = .ok (.invokevirtual 161, 3) := by decide +kernel
theorem dX6_spread_21 : decode cX6_spread 21 = .ok (.iload_n 1, 1) := by decide +kernel
theorem dX6_spread_22 : decode cX6_spread 22 = .ok (.iadd, 1) := by decide +kernel
theorem dX6_spread_23 : decode cX6_spread 23 = .ok (.istore_n 2, 1) := by decide +kernel
theorem dX6_spread_24 : decode cX6_spread 24 = .ok (.iload_n 2, 1) := by decide +kernel
theorem dX6_spread_25 : decode cX6_spread 25 = .ok (.aload_n 0, 1) := by decide +kernel
theorem dX6_spread_26 : decode cX6_spread 26 = .ok (.getfield 12, 3) := by decide +kernel
theorem dX6_spread_29 : decode cX6_spread 29 = .ok (.getfield 68, 3) := by decide +kernel
theorem dX6_spread_32 : decode cX6_spread 32 = .ok (.aload_n 0, 1) := by decide +kernel
theorem dX6_spread_33 : decode cX6_spread 33 = .ok (.getfield 12, 3) := by decide +kernel
theorem dX6_spread_36 : decode cX6_spread 36 = .ok (.getfield 64, 3) := by decide +kernel
theorem dX6_spread_39 : decode cX6_spread 39 = .ok (.iconst 1, 1) := by decide +kernel
theorem dX6_spread_40 : decode cX6_spread 40 = .ok (.isub, 1) := by decide +kernel
theorem dX6_spread_41 : decode cX6_spread 41 = .ok (.iaload, 1) := by decide +kernel
theorem dX6_spread_42 : decode cX6_spread 42 = .ok (.if_icmp .le 9, 3) := by decide +kernel
theorem dX6_spread_45 : decode cX6_spread 45 = .ok (.iload_n 2, 1) := by decide +kernel
theorem dX6_spread_46 : decode cX6_spread 46 = .ok (.bipush 20, 2) := by decide +kernel
theorem dX6_spread_48 : decode cX6_spread 48 = .ok (.if_icmp .le 6, 3) := by decide +kernel
theorem dX6_spread_51 : decode cX6_spread 51 = .ok (.bipush (-2), 2) := by decide +kernel
theorem dX6_spread_53 : decode cX6_spread 53 = .ok (.ireturn, 1) := by decide +kernel
theorem dX6_spread_54 : decode cX6_spread 54 = .ok (.aload_n 0, 1) := by decide +kernel
theorem dX6_spread_55 : decode cX6_spread 55 = .ok (.getfield 12, 3) := by decide +kernel
theorem dX6_spread_58 : decode cX6_spread 58 = .ok (.getfield 68, 3) := by decide +kernel
theorem dX6_spread_61 : decode cX6_spread 61 = .ok (.aload_n 0, 1) := by decide +kernel
theorem dX6_spread_62 : decode cX6_spread 62 = .ok (.getfield 12, 3) := by decide +kernel
theorem dX6_spread_65 : decode cX6_spread 65 = .ok (.getfield 64, 3) := by decide +kernel
theorem dX6_spread_68 : decode cX6_spread 68 = .ok (.iload_n 2, 1) := by decide +kernel
theorem dX6_spread_69 : decode cX6_spread 69 = .ok (.iastore, 1) := by decide +kernel
theorem dX6_spread_70 : decode cX6_spread 70 = .ok (.iconst 1, 1) := by decide +kernel
theorem dX6_spread_71 : decode cX6_spread 71 = .ok (.ireturn, 1) := by decide +kernel
theorem dX6_holdsUnder_0 : decode cX6_holdsUnder 0 = .ok (.aload_n 0, 1) := by decide +kernel
theorem dX6_holdsUnder_1 : decode cX6_holdsUnder 1 = .ok (.getfield 21, 3) := by decide +kernel
theorem dX6_holdsUnder_4 : decode cX6_holdsUnder 4 = .ok (.aload_n 1, 1) := by decide +kernel
theorem dX6_holdsUnder_5 : decode cX6_holdsUnder 5 = .ok (.invokevirtual 199, 3) := by decide +kernel
theorem dX6_holdsUnder_8 : decode cX6_holdsUnder 8 = .ok (.aload_n 0, 1) := by decide +kernel
theorem dX6_holdsUnder_9 : decode cX6_holdsUnder 9 = .ok (.getfield 21, 3) := by decide +kernel
theorem dX6_holdsUnder_12 : decode cX6_holdsUnder 12 = .ok (.invokevirtual 214, 3) := by decide +kernel
theorem dX6_holdsUnder_15 : decode cX6_holdsUnder 15 = .ok (.ireturn, 1) := by decide +kernel
theorem dX6_refusalOfRow_0 : decode cX6_refusalOfRow 0 = .ok (.iload_n 1, 1) := by decide +kernel
theorem dX6_refusalOfRow_1 : decode cX6_refusalOfRow 1 = .ok (.invokestatic 94, 3) := by decide +kernel
theorem dX6_refusalOfRow_4 : decode cX6_refusalOfRow 4 = .ok (.ifCond .eq 10, 3) := by decide +kernel
theorem dX6_refusalOfRow_7 : decode cX6_refusalOfRow 7 = .ok (.iload_n 2, 1) := by decide +kernel
theorem dX6_refusalOfRow_8 : decode cX6_refusalOfRow 8 = .ok (.invokestatic 97, 3) := by decide +kernel
theorem dX6_refusalOfRow_11 : decode cX6_refusalOfRow 11 = .ok (.ifCond .ne 5, 3) := by decide +kernel
theorem dX6_refusalOfRow_14 : decode cX6_refusalOfRow 14 = .ok (.iconst (-1), 1) := by decide +kernel
theorem dX6_refusalOfRow_15 : decode cX6_refusalOfRow 15 = .ok (.ireturn, 1) := by decide +kernel
theorem dX6_refusalOfRow_16 : decode cX6_refusalOfRow 16 = .ok (.aload_n 0, 1) := by decide +kernel
theorem dX6_refusalOfRow_17 : decode cX6_refusalOfRow 17 = .ok (.getfield 41, 3) := by decide +kernel
theorem dX6_refusalOfRow_20 : decode cX6_refusalOfRow 20 = .ok (.iload_n 1, 1) := by decide +kernel
theorem dX6_refusalOfRow_21 : decode cX6_refusalOfRow 21 = .ok (.aaload, 1) := by decide +kernel
theorem dX6_refusalOfRow_22 : decode cX6_refusalOfRow 22 = .ok (.getfield 104, 3) := by decide +kernel
theorem dX6_refusalOfRow_25 : decode cX6_refusalOfRow 25 = .ok (.ifCond .ne 6, 3) := by decide +kernel
theorem dX6_refusalOfRow_28 : decode cX6_refusalOfRow 28 = .ok (.bipush (-11), 2) := by decide +kernel
theorem dX6_refusalOfRow_30 : decode cX6_refusalOfRow 30 = .ok (.ireturn, 1) := by decide +kernel
theorem dX6_refusalOfRow_31 : decode cX6_refusalOfRow 31 = .ok (.aload_n 0, 1) := by decide +kernel
theorem dX6_refusalOfRow_32 : decode cX6_refusalOfRow 32 = .ok (.getfield 41, 3) := by decide +kernel
theorem dX6_refusalOfRow_35 : decode cX6_refusalOfRow 35 = .ok (.iload_n 1, 1) := by decide +kernel
theorem dX6_refusalOfRow_36 : decode cX6_refusalOfRow 36 = .ok (.aaload, 1) := by decide +kernel
theorem dX6_refusalOfRow_37 : decode cX6_refusalOfRow 37 = .ok (.getfield 217, 3) := by decide +kernel
theorem dX6_refusalOfRow_40 : decode cX6_refusalOfRow 40 = .ok (.iload_n 2, 1) := by decide +kernel
theorem dX6_refusalOfRow_41 : decode cX6_refusalOfRow 41 = .ok (.if_icmp .ne 7, 3) := by decide +kernel
theorem dX6_refusalOfRow_44 : decode cX6_refusalOfRow 44 = .ok (.iconst 0, 1) := by decide +kernel
theorem dX6_refusalOfRow_45 : decode cX6_refusalOfRow 45 = .ok (.goto 5, 3) := by decide +kernel
theorem dX6_refusalOfRow_48 : decode cX6_refusalOfRow 48 = .ok (.bipush (-12), 2) := by decide +kernel
theorem dX6_refusalOfRow_50 : decode cX6_refusalOfRow 50 = .ok (.ireturn, 1) := by decide +kernel
theorem dX6_isSheet_0 : decode cX6_isSheet 0 = .ok (.iload_n 0, 1) := by decide +kernel
theorem dX6_isSheet_1 : decode cX6_isSheet 1 = .ok (.ifCond .lt 12, 3) := by decide +kernel
theorem dX6_isSheet_4 : decode cX6_isSheet 4 = .ok (.iload_n 0, 1) := by decide +kernel
theorem dX6_isSheet_5 : decode cX6_isSheet 5 = .ok (.iconst 4, 1) := by decide +kernel
theorem dX6_isSheet_6 : decode cX6_isSheet 6 = .ok (.if_icmp .ge 7, 3) := by decide +kernel
theorem dX6_isSheet_9 : decode cX6_isSheet 9 = .ok (.iconst 1, 1) := by decide +kernel
theorem dX6_isSheet_10 : decode cX6_isSheet 10 = .ok (.goto 4, 3) := by decide +kernel
theorem dX6_isSheet_13 : decode cX6_isSheet 13 = .ok (.iconst 0, 1) := by decide +kernel
theorem dX6_isSheet_14 : decode cX6_isSheet 14 = .ok (.ireturn, 1) := by decide +kernel
theorem dX6_isLane_0 : decode cX6_isLane 0 = .ok (.iload_n 0, 1) := by decide +kernel
theorem dX6_isLane_1 : decode cX6_isLane 1 = .ok (.ifCond .lt 12, 3) := by decide +kernel
theorem dX6_isLane_4 : decode cX6_isLane 4 = .ok (.iload_n 0, 1) := by decide +kernel
theorem dX6_isLane_5 : decode cX6_isLane 5 = .ok (.iconst 3, 1) := by decide +kernel
theorem dX6_isLane_6 : decode cX6_isLane 6 = .ok (.if_icmp .ge 7, 3) := by decide +kernel
theorem dX6_isLane_9 : decode cX6_isLane 9 = .ok (.iconst 1, 1) := by decide +kernel
theorem dX6_isLane_10 : decode cX6_isLane 10 = .ok (.goto 4, 3) := by decide +kernel
theorem dX6_isLane_13 : decode cX6_isLane 13 = .ok (.iconst 0, 1) := by decide +kernel
theorem dX6_isLane_14 : decode cX6_isLane 14 = .ok (.ireturn, 1) := by decide +kernel
theorem dX6_isChoice_0 : decode cX6_isChoice 0 = .ok (.iload_n 0, 1) := by decide +kernel
theorem dX6_isChoice_1 : decode cX6_isChoice 1 = .ok (.ifCond .eq 8, 3) := by decide +kernel
theorem dX6_isChoice_4 : decode cX6_isChoice 4 = .ok (.iload_n 0, 1) := by decide +kernel
theorem dX6_isChoice_5 : decode cX6_isChoice 5 = .ok (.iconst 1, 1) := by decide +kernel
theorem dX6_isChoice_6 : decode cX6_isChoice 6 = .ok (.if_icmp .ne 7, 3) := by decide +kernel
theorem dX6_isChoice_9 : decode cX6_isChoice 9 = .ok (.iconst 1, 1) := by decide +kernel
theorem dX6_isChoice_10 : decode cX6_isChoice 10 = .ok (.goto 4, 3) := by decide +kernel
theorem dX6_isChoice_13 : decode cX6_isChoice 13 = .ok (.iconst 0, 1) := by decide +kernel
theorem dX6_isChoice_14 : decode cX6_isChoice 14 = .ok (.ireturn, 1) := by decide +kernel
theorem dX6_isHeight_0 : decode cX6_isHeight 0 = .ok (.iload_n 0, 1) := by decide +kernel
theorem dX6_isHeight_1 : decode cX6_isHeight 1 = .ok (.bipush (-20), 2) := by decide +kernel
theorem dX6_isHeight_3 : decode cX6_isHeight 3 = .ok (.if_icmp .lt 13, 3) := by decide +kernel
theorem dX6_isHeight_6 : decode cX6_isHeight 6 = .ok (.iload_n 0, 1) := by decide +kernel
theorem dX6_isHeight_7 : decode cX6_isHeight 7 = .ok (.bipush 20, 2) := by decide +kernel
theorem dX6_isHeight_9 : decode cX6_isHeight 9 = .ok (.if_icmp .gt 7, 3) := by decide +kernel
theorem dX6_isHeight_12 : decode cX6_isHeight 12 = .ok (.iconst 1, 1) := by decide +kernel
theorem dX6_isHeight_13 : decode cX6_isHeight 13 = .ok (.goto 4, 3) := by decide +kernel
theorem dX6_isHeight_16 : decode cX6_isHeight 16 = .ok (.iconst 0, 1) := by decide +kernel
theorem dX6_isHeight_17 : decode cX6_isHeight 17 = .ok (.ireturn, 1) := by decide +kernel
theorem dX6_areEdges_0 : decode cX6_areEdges 0 = .ok (.iload_n 0, 1) := by decide +kernel
theorem dX6_areEdges_1 : decode cX6_areEdges 1 = .ok (.invokestatic 196, 3) := by decide +kernel
theorem dX6_areEdges_4 : decode cX6_areEdges 4 = .ok (.ifCond .eq 19, 3) := by decide +kernel
theorem dX6_areEdges_7 : decode cX6_areEdges 7 = .ok (.iload_n 1, 1) := by decide +kernel
theorem dX6_areEdges_8 : decode cX6_areEdges 8 = .ok (.invokestatic 196, 3) := by decide +kernel
theorem dX6_areEdges_11 : decode cX6_areEdges 11 = .ok (.ifCond .eq 12, 3) := by decide +kernel
theorem dX6_areEdges_14 : decode cX6_areEdges 14 = .ok (.iload_n 0, 1) := by decide +kernel
theorem dX6_areEdges_15 : decode cX6_areEdges 15 = .ok (.iload_n 1, 1) := by decide +kernel
theorem dX6_areEdges_16 : decode cX6_areEdges 16 = .ok (.if_icmp .gt 7, 3) := by decide +kernel
theorem dX6_areEdges_19 : decode cX6_areEdges 19 = .ok (.iconst 1, 1) := by decide +kernel
theorem dX6_areEdges_20 : decode cX6_areEdges 20 = .ok (.goto 4, 3) := by decide +kernel
theorem dX6_areEdges_23 : decode cX6_areEdges 23 = .ok (.iconst 0, 1) := by decide +kernel
theorem dX6_areEdges_24 : decode cX6_areEdges 24 = .ok (.ireturn, 1) := by decide +kernel
theorem dX6_isLoad_0 : decode cX6_isLoad 0 = .ok (.iload_n 0, 1) := by decide +kernel
theorem dX6_isLoad_1 : decode cX6_isLoad 1 = .ok (.ifCond .lt 13, 3) := by decide +kernel
theorem dX6_isLoad_4 : decode cX6_isLoad 4 = .ok (.iload_n 0, 1) := by decide +kernel
theorem dX6_isLoad_5 : decode cX6_isLoad 5 = .ok (.bipush 10, 2) := by decide +kernel
theorem dX6_isLoad_7 : decode cX6_isLoad 7 = .ok (.if_icmp .gt 7, 3) := by decide +kernel
theorem dX6_isLoad_10 : decode cX6_isLoad 10 = .ok (.iconst 1, 1) := by decide +kernel
theorem dX6_isLoad_11 : decode cX6_isLoad 11 = .ok (.goto 4, 3) := by decide +kernel
theorem dX6_isLoad_14 : decode cX6_isLoad 14 = .ok (.iconst 0, 1) := by decide +kernel
theorem dX6_isLoad_15 : decode cX6_isLoad 15 = .ok (.ireturn, 1) := by decide +kernel
theorem dX7_in_0 : decode cX7_in 0 = .ok (.lload_n 0, 1) := by decide +kernel
theorem dX7_in_1 : decode cX7_in 1 = .ok (.lload_n 2, 1) := by decide +kernel
theorem dX7_in_2 : decode cX7_in 2 = .ok (.lcmp, 1) := by decide +kernel
theorem dX7_in_3 : decode cX7_in 3 = .ok (.ifCond .lt 14, 3) := by decide +kernel
theorem dX7_in_6 : decode cX7_in 6 = .ok (.lload_n 0, 1) := by decide +kernel
theorem dX7_in_7 : decode cX7_in 7 = .ok (.lload 4, 2) := by decide +kernel
theorem dX7_in_9 : decode cX7_in 9 = .ok (.lcmp, 1) := by decide +kernel
theorem dX7_in_10 : decode cX7_in 10 = .ok (.ifCond .gt 7, 3) := by decide +kernel
theorem dX7_in_13 : decode cX7_in 13 = .ok (.iconst 1, 1) := by decide +kernel
theorem dX7_in_14 : decode cX7_in 14 = .ok (.goto 4, 3) := by decide +kernel
theorem dX7_in_17 : decode cX7_in 17 = .ok (.iconst 0, 1) := by decide +kernel
theorem dX7_in_18 : decode cX7_in 18 = .ok (.ireturn, 1) := by decide +kernel
theorem dX7_common_0 : decode cX7_common 0 = .ok (.lload_n 0, 1) := by decide +kernel
theorem dX7_common_1 : decode cX7_common 1 = .ok (.lconst 0, 1) := by decide +kernel
theorem dX7_common_2 : decode cX7_common 2 = .ok (.lcmp, 1) := by decide +kernel
theorem dX7_common_3 : decode cX7_common 3 = .ok (.ifCond .ge 8, 3) := by decide +kernel
theorem dX7_common_6 : decode cX7_common 6 = .ok (.lload_n 0, 1) := by decide +kernel
theorem dX7_common_7 : decode cX7_common 7 = .ok (.lneg, 1) := by decide +kernel
theorem dX7_common_8 : decode cX7_common 8 = .ok (.goto 4, 3) := by decide +kernel
theorem dX7_common_11 : decode cX7_common 11 = .ok (.lload_n 0, 1) := by decide +kernel
theorem dX7_common_12 : decode cX7_common 12 = .ok (.lstore 4, 2) := by decide +kernel
theorem dX7_common_14 : decode cX7_common 14 = .ok (.lload_n 2, 1) := by decide +kernel
theorem dX7_common_15 : decode cX7_common 15 = .ok (.lconst 0, 1) := by decide +kernel
theorem dX7_common_16 : decode cX7_common 16 = .ok (.lcmp, 1) := by decide +kernel
theorem dX7_common_17 : decode cX7_common 17 = .ok (.ifCond .ge 8, 3) := by decide +kernel
theorem dX7_common_20 : decode cX7_common 20 = .ok (.lload_n 2, 1) := by decide +kernel
theorem dX7_common_21 : decode cX7_common 21 = .ok (.lneg, 1) := by decide +kernel
theorem dX7_common_22 : decode cX7_common 22 = .ok (.goto 4, 3) := by decide +kernel
theorem dX7_common_25 : decode cX7_common 25 = .ok (.lload_n 2, 1) := by decide +kernel
theorem dX7_common_26 : decode cX7_common 26 = .ok (.lstore 6, 2) := by decide +kernel
theorem dX7_common_28 : decode cX7_common 28 = .ok (.lload 6, 2) := by decide +kernel
theorem dX7_common_30 : decode cX7_common 30 = .ok (.lconst 0, 1) := by decide +kernel
theorem dX7_common_31 : decode cX7_common 31 = .ok (.lcmp, 1) := by decide +kernel
theorem dX7_common_32 : decode cX7_common 32 = .ok (.ifCond .eq 21, 3) := by decide +kernel
theorem dX7_common_35 : decode cX7_common 35 = .ok (.lload 4, 2) := by decide +kernel
theorem dX7_common_37 : decode cX7_common 37 = .ok (.lload 6, 2) := by decide +kernel
theorem dX7_common_39 : decode cX7_common 39 = .ok (.lrem, 1) := by decide +kernel
theorem dX7_common_40 : decode cX7_common 40 = .ok (.lstore 8, 2) := by decide +kernel
theorem dX7_common_42 : decode cX7_common 42 = .ok (.lload 6, 2) := by decide +kernel
theorem dX7_common_44 : decode cX7_common 44 = .ok (.lstore 4, 2) := by decide +kernel
theorem dX7_common_46 : decode cX7_common 46 = .ok (.lload 8, 2) := by decide +kernel
theorem dX7_common_48 : decode cX7_common 48 = .ok (.lstore 6, 2) := by decide +kernel
theorem dX7_common_50 : decode cX7_common 50 = .ok (.goto (-22), 3) := by decide +kernel
theorem dX7_common_53 : decode cX7_common 53 = .ok (.lload 4, 2) := by decide +kernel
theorem dX7_common_55 : decode cX7_common 55 = .ok (.lreturn, 1) := by decide +kernel
theorem dX7_init_0 : decode cX7_init 0 = .ok (.aload_n 0, 1) := by decide +kernel
theorem dX7_init_1 : decode cX7_init 1 = .ok (.invokespecial 1, 3) := by decide +kernel
theorem dX7_init_4 : decode cX7_init 4 = .ok (.aload_n 0, 1) := by decide +kernel
theorem dX7_init_5 : decode cX7_init 5 = .ok (.iconst 2, 1) := by decide +kernel
theorem dX7_init_6 : decode cX7_init 6 = .ok (.putfield 7, 3) := by decide +kernel
theorem dX7_init_9 : decode cX7_init 9 = .ok (.aload_n 0, 1) := by decide +kernel
theorem dX7_init_10 : decode cX7_init 10 = .ok (.bipush 7, 2) := by decide +kernel
theorem dX7_init_12 : decode cX7_init 12 = .ok (.newarray .int, 2) := by decide +kernel
theorem dX7_init_14 : decode cX7_init 14 = .ok (.putfield 13, 3) := by decide +kernel
theorem dX7_init_17 : decode cX7_init 17 = .ok (.aload_n 0, 1) := by decide +kernel
theorem dX7_init_18 : decode cX7_init 18 = .ok (.bipush 7, 2) := by decide +kernel
theorem dX7_init_20 : decode cX7_init 20 = .ok (.newarray .int, 2) := by decide +kernel
theorem dX7_init_22 : decode cX7_init 22 = .ok (.putfield 17, 3) := by decide +kernel
theorem dX7_init_25 : decode cX7_init 25 = .ok (.aload_n 0, 1) := by decide +kernel
theorem dX7_init_26 : decode cX7_init 26 = .ok (.bipush 7, 2) := by decide +kernel
theorem dX7_init_28 : decode cX7_init 28 = .ok (.newarray .int, 2) := by decide +kernel
theorem dX7_init_30 : decode cX7_init 30 = .ok (.putfield 20, 3) := by decide +kernel
theorem dX7_init_33 : decode cX7_init 33 = .ok (.aload_n 0, 1) := by decide +kernel
theorem dX7_init_34 : decode cX7_init 34 = .ok (.bipush 7, 2) := by decide +kernel
theorem dX7_init_36 : decode cX7_init 36 = .ok (.newarray .int, 2) := by decide +kernel
theorem dX7_init_38 : decode cX7_init 38 = .ok (.putfield 23, 3) := by decide +kernel
theorem dX7_init_41 : decode cX7_init 41 = .ok (.aload_n 0, 1) := by decide +kernel
theorem dX7_init_42 : decode cX7_init 42 = .ok (.iconst 4, 1) := by decide +kernel
theorem dX7_init_43 : decode cX7_init 43 = .ok (.newarray .int, 2) := by decide +kernel
theorem dX7_init_45 : decode cX7_init 45 = .ok (.putfield 26, 3) := by decide +kernel
theorem dX7_init_48 : decode cX7_init 48 = .ok (.aload_n 0, 1) := by decide +kernel
theorem dX7_init_49 : decode cX7_init 49 = .ok (.iconst 4, 1) := by decide +kernel
theorem dX7_init_50 : decode cX7_init 50 = .ok (.newarray .int, 2) := by decide +kernel
theorem dX7_init_52 : decode cX7_init 52 = .ok (.putfield 29, 3) := by decide +kernel
theorem dX7_init_55 : decode cX7_init 55 = .ok (.aload_n 0, 1) := by decide +kernel
theorem dX7_init_56 : decode cX7_init 56 = .ok (.bipush 112, 2) := by decide +kernel
theorem dX7_init_58 : decode cX7_init 58 = .ok (.newarray .int, 2) := by decide +kernel
theorem dX7_init_60 : decode cX7_init 60 = .ok (.putfield 32, 3) := by decide +kernel
theorem dX7_init_63 : decode cX7_init 63 = .ok (.aload_n 0, 1) := by decide +kernel
theorem dX7_init_64 : decode cX7_init 64 = .ok (.bipush 80, 2) := by decide +kernel
theorem dX7_init_66 : decode cX7_init 66 = .ok (.newarray .long, 2) := by decide +kernel
theorem dX7_init_68 : decode cX7_init 68 = .ok (.putfield 35, 3) := by decide +kernel
theorem dX7_init_71 : decode cX7_init 71 = .ok (.aload_n 0, 1) := by decide +kernel
theorem dX7_init_72 : decode cX7_init 72 = .ok (.iconst 4, 1) := by decide +kernel
theorem dX7_init_73 : decode cX7_init 73 = .ok (.newarray .long, 2) := by decide +kernel
theorem dX7_init_75 : decode cX7_init 75 = .ok (.putfield 39, 3) := by decide +kernel
theorem dX7_init_78 : decode cX7_init 78 = .ok (.aload_n 0, 1) := by decide +kernel
theorem dX7_init_79 : decode cX7_init 79 = .ok (.iconst 3, 1) := by decide +kernel
theorem dX7_init_80 : decode cX7_init 80 = .ok (.newarray .long, 2) := by decide +kernel
theorem dX7_init_82 : decode cX7_init 82 = .ok (.putfield 42, 3) := by decide +kernel
theorem dX7_init_85 : decode cX7_init 85 = .ok (.aload_n 0, 1) := by decide +kernel
theorem dX7_init_86 : decode cX7_init 86 = .ok (.iconst 4, 1) := by decide +kernel
theorem dX7_init_87 : decode cX7_init 87 = .ok (.newarray .int, 2) := by decide +kernel
theorem dX7_init_89 : decode cX7_init 89 = .ok (.putfield 45, 3) := by decide +kernel
theorem dX7_init_92 : decode cX7_init 92 = .ok (.aload_n 0, 1) := by decide +kernel
theorem dX7_init_93 : decode cX7_init 93 = .ok (.bipush 7, 2) := by decide +kernel
theorem dX7_init_95 : decode cX7_init 95 = .ok (.newarray .int, 2) := by decide +kernel
theorem dX7_init_97 : decode cX7_init 97 = .ok (.putfield 48, 3) := by decide +kernel
theorem dX7_init_100 : decode cX7_init 100 = .ok (.iconst 0, 1) := by decide +kernel
theorem dX7_init_101 : decode cX7_init 101 = .ok (.istore_n 1, 1) := by decide +kernel
theorem dX7_init_102 : decode cX7_init 102 = .ok (.iload_n 1, 1) := by decide +kernel
theorem dX7_init_103 : decode cX7_init 103 = .ok (.iconst 4, 1) := by decide +kernel
theorem dX7_init_104 : decode cX7_init 104 = .ok (.if_icmp .ge 16, 3) := by decide +kernel
theorem dX7_init_107 : decode cX7_init 107 = .ok (.aload_n 0, 1) := by decide +kernel
theorem dX7_init_108 : decode cX7_init 108 = .ok (.getfield 26, 3) := by decide +kernel
theorem dX7_init_111 : decode cX7_init 111 = .ok (.iload_n 1, 1) := by decide +kernel
theorem dX7_init_112 : decode cX7_init 112 = .ok (.iconst (-1), 1) := by decide +kernel
theorem dX7_init_113 : decode cX7_init 113 = .ok (.iastore, 1) := by decide +kernel
theorem dX7_init_114 : decode cX7_init 114 = .ok (.iinc 1 1, 3) := by decide +kernel
theorem dX7_init_117 : decode cX7_init 117 = .ok (.goto (-15), 3) := by decide +kernel
theorem dX7_init_120 : decode cX7_init 120 = .ok (.aload_n 0, 1) := by decide +kernel
theorem dX7_init_121 : decode cX7_init 121 = .ok (.iconst 2, 1) := by decide +kernel
theorem dX7_init_122 : decode cX7_init 122 = .ok (.invokevirtual 51, 3) := by decide +kernel
theorem dX7_init_125 : decode cX7_init 125 = .ok (.return_, 1) := by decide +kernel
theorem dX7_begin_0 : decode cX7_begin 0 = .ok (.aload_n 0, 1) := by decide +kernel
theorem dX7_begin_1 : decode cX7_begin 1 = .ok (.iload_n 1, 1) := by decide +kernel
theorem dX7_begin_2 : decode cX7_begin 2 = .ok (.putfield 7, 3) := by decide +kernel
theorem dX7_begin_5 : decode cX7_begin 5 = .ok (.iconst 0, 1) := by decide +kernel
theorem dX7_begin_6 : decode cX7_begin 6 = .ok (.istore_n 2, 1) := by decide +kernel
theorem dX7_begin_7 : decode cX7_begin 7 = .ok (.iload_n 2, 1) := by decide +kernel
theorem dX7_begin_8 : decode cX7_begin 8 = .ok (.aload_n 0, 1) := by decide +kernel
theorem dX7_begin_9 : decode cX7_begin 9 = .ok (.getfield 7, 3) := by decide +kernel
theorem dX7_begin_12 : decode cX7_begin 12 = .ok (.if_icmp .gt 45, 3) := by decide +kernel
theorem dX7_begin_15 : decode cX7_begin 15 = .ok (.aload_n 0, 1) := by decide +kernel
theorem dX7_begin_16 : decode cX7_begin 16 = .ok (.getfield 13, 3) := by decide +kernel
theorem dX7_begin_19 : decode cX7_begin 19 = .ok (.iload_n 2, 1) := by decide +kernel
theorem dX7_begin_20 : decode cX7_begin 20 = .ok (.bipush 20, 2) := by decide +kernel
theorem dX7_begin_22 : decode cX7_begin 22 = .ok (.iload_n 2, 1) := by decide +kernel
theorem dX7_begin_23 : decode cX7_begin 23 = .ok (.imul, 1) := by decide +kernel
theorem dX7_begin_24 : decode cX7_begin 24 = .ok (.aload_n 0, 1) := by decide +kernel
theorem dX7_begin_25 : decode cX7_begin 25 = .ok (.getfield 7, 3) := by decide +kernel
theorem dX7_begin_28 : decode cX7_begin 28 = .ok (.idiv, 1) := by decide +kernel
theorem dX7_begin_29 : decode cX7_begin 29 = .ok (.iastore, 1) := by decide +kernel
theorem dX7_begin_30 : decode cX7_begin 30 = .ok (.aload_n 0, 1) := by decide +kernel
theorem dX7_begin_31 : decode cX7_begin 31 = .ok (.getfield 17, 3) := by decide +kernel
theorem dX7_begin_34 : decode cX7_begin 34 = .ok (.iload_n 2, 1) := by decide +kernel
theorem dX7_begin_35 : decode cX7_begin 35 = .ok (.iconst 0, 1) := by decide +kernel
theorem dX7_begin_36 : decode cX7_begin 36 = .ok (.iastore, 1) := by decide +kernel
theorem dX7_begin_37 : decode cX7_begin 37 = .ok (.aload_n 0, 1) := by decide +kernel
theorem dX7_begin_38 : decode cX7_begin 38 = .ok (.getfield 20, 3) := by decide +kernel
theorem dX7_begin_41 : decode cX7_begin 41 = .ok (.iload_n 2, 1) := by decide +kernel
theorem dX7_begin_42 : decode cX7_begin 42 = .ok (.iconst 1, 1) := by decide +kernel
theorem dX7_begin_43 : decode cX7_begin 43 = .ok (.iastore, 1) := by decide +kernel
theorem dX7_begin_44 : decode cX7_begin 44 = .ok (.aload_n 0, 1) := by decide +kernel
theorem dX7_begin_45 : decode cX7_begin 45 = .ok (.getfield 23, 3) := by decide +kernel
theorem dX7_begin_48 : decode cX7_begin 48 = .ok (.iload_n 2, 1) := by decide +kernel
theorem dX7_begin_49 : decode cX7_begin 49 = .ok (.iconst 0, 1) := by decide +kernel
theorem dX7_begin_50 : decode cX7_begin 50 = .ok (.iastore, 1) := by decide +kernel
theorem dX7_begin_51 : decode cX7_begin 51 = .ok (.iinc 2 1, 3) := by decide +kernel
theorem dX7_begin_54 : decode cX7_begin 54 = .ok (.goto (-47), 3) := by decide +kernel
theorem dX7_begin_57 : decode cX7_begin 57 = .ok (.return_, 1) := by decide +kernel
theorem dX7_joints_0 : decode cX7_joints 0 = .ok (.iload_n 1, 1) := by decide +kernel
theorem dX7_joints_1 : decode cX7_joints 1 = .ok (.i2l, 1) := by decide +kernel
theorem dX7_joints_2 : decode cX7_joints 2 = .ok (.ldc2_w 55, 3) := by decide +kernel
theorem dX7_joints_5 : decode cX7_joints 5 = .ok (.ldc2_w 57, 3) := by decide +kernel
theorem dX7_joints_8 : decode cX7_joints 8 = .ok (.invokestatic 59, 3) := by decide +kernel
theorem dX7_joints_11 : decode cX7_joints 11 = .ok (.ifCond .ne 5, 3) := by decide +kernel
theorem dX7_joints_14 : decode cX7_joints 14 = .ok (.iconst (-1), 1) := by decide +kernel
theorem dX7_joints_15 : decode cX7_joints 15 = .ok (.ireturn, 1) := by decide +kernel
theorem dX7_joints_16 : decode cX7_joints 16 = .ok (.aload_n 0, 1) := by decide +kernel
theorem dX7_joints_17 : decode cX7_joints 17 = .ok (.iload_n 1, 1) := by decide +kernel
theorem dX7_joints_18 : decode cX7_joints 18 = .ok (.invokevirtual 51, 3) := by decide +kernel
theorem dX7_joints_21 : decode cX7_joints 21 = .ok (.iconst 1, 1) := by decide +kernel
theorem dX7_joints_22 : decode cX7_joints 22 = .ok (.ireturn, 1) := by decide +kernel
theorem dX7_at_0 : decode cX7_at 0 = .ok (.iload_n 1, 1) := by decide +kernel
theorem dX7_at_1 : decode cX7_at 1 = .ok (.i2l, 1) := by decide +kernel
theorem dX7_at_2 : decode cX7_at 2 = .ok (.lconst 1, 1) := by decide +kernel
theorem dX7_at_3 : decode cX7_at 3 = .ok (.aload_n 0, 1) := by decide +kernel
theorem dX7_at_4 : decode cX7_at 4 = .ok (.getfield 7, 3) := by decide +kernel
theorem dX7_at_7 : decode cX7_at 7 = .ok (.i2l, 1) := by decide +kernel
theorem dX7_at_8 : decode cX7_at 8 = .ok (.invokestatic 59, 3) := by decide +kernel
theorem dX7_at_11 : decode cX7_at 11 = .ok (.ifCond .eq 15, 3) := by decide +kernel
theorem dX7_at_14 : decode cX7_at 14 = .ok (.iload_n 2, 1) := by decide +kernel
theorem dX7_at_15 : decode cX7_at 15 = .ok (.i2l, 1) := by decide +kernel
theorem dX7_at_16 : decode cX7_at 16 = .ok (.lconst 0, 1) := by decide +kernel
theorem dX7_at_17 : decode cX7_at 17 = .ok (.ldc2_w 63, 3) := by decide +kernel
theorem dX7_at_20 : decode cX7_at 20 = .ok (.invokestatic 59, 3) := by decide +kernel
theorem dX7_at_23 : decode cX7_at 23 = .ok (.ifCond .ne 5, 3) := by decide +kernel
theorem dX7_at_26 : decode cX7_at 26 = .ok (.iconst (-1), 1) := by decide +kernel
theorem dX7_at_27 : decode cX7_at 27 = .ok (.ireturn, 1) := by decide +kernel
theorem dX7_at_28 : decode cX7_at 28 = .ok (.iload_n 2, 1) := by decide +kernel
theorem dX7_at_29 : decode cX7_at 29 = .ok (.aload_n 0, 1) := by decide +kernel
theorem dX7_at_30 : decode cX7_at 30 = .ok (.getfield 13, 3) := by decide +kernel
theorem dX7_at_33 : decode cX7_at 33 = .ok (.iload_n 1, 1) := by decide +kernel
theorem dX7_at_34 : decode cX7_at 34 = .ok (.iconst 1, 1) := by decide +kernel
theorem dX7_at_35 : decode cX7_at 35 = .ok (.isub, 1) := by decide +kernel
theorem dX7_at_36 : decode cX7_at 36 = .ok (.iaload, 1) := by decide +kernel
theorem dX7_at_37 : decode cX7_at 37 = .ok (.if_icmp .le 23, 3) := by decide +kernel
theorem dX7_at_40 : decode cX7_at 40 = .ok (.iload_n 1, 1) := by decide +kernel
theorem dX7_at_41 : decode cX7_at 41 = .ok (.aload_n 0, 1) := by decide +kernel
theorem dX7_at_42 : decode cX7_at 42 = .ok (.getfield 7, 3) := by decide +kernel
theorem dX7_at_45 : decode cX7_at 45 = .ok (.if_icmp .ge 18, 3) := by decide +kernel
theorem dX7_at_48 : decode cX7_at 48 = .ok (.iload_n 2, 1) := by decide +kernel
theorem dX7_at_49 : decode cX7_at 49 = .ok (.aload_n 0, 1) := by decide +kernel
theorem dX7_at_50 : decode cX7_at 50 = .ok (.getfield 13, 3) := by decide +kernel
theorem dX7_at_53 : decode cX7_at 53 = .ok (.iload_n 1, 1) := by decide +kernel
theorem dX7_at_54 : decode cX7_at 54 = .ok (.iconst 1, 1) := by decide +kernel
theorem dX7_at_55 : decode cX7_at 55 = .ok (.iadd, 1) := by decide +kernel
theorem dX7_at_56 : decode cX7_at 56 = .ok (.iaload, 1) := by decide +kernel
theorem dX7_at_57 : decode cX7_at 57 = .ok (.if_icmp .lt 6, 3) := by decide +kernel
theorem dX7_at_60 : decode cX7_at 60 = .ok (.bipush (-2), 2) := by decide +kernel
theorem dX7_at_62 : decode cX7_at 62 = .ok (.ireturn, 1) := by decide +kernel
theorem dX7_at_63 : decode cX7_at 63 = .ok (.aload_n 0, 1) := by decide +kernel
theorem dX7_at_64 : decode cX7_at 64 = .ok (.getfield 13, 3) := by decide +kernel
theorem dX7_at_67 : decode cX7_at 67 = .ok (.iload_n 1, 1) := by decide +kernel
theorem dX7_at_68 : decode cX7_at 68 = .ok (.iaload, 1) := by decide +kernel
theorem dX7_at_69 : decode cX7_at 69 = .ok (.istore_n 3, 1) := by decide +kernel
theorem dX7_at_70 : decode cX7_at 70 = .ok (.aload_n 0, 1) := by decide +kernel
theorem dX7_at_71 : decode cX7_at 71 = .ok (.getfield 13, 3) := by decide +kernel
theorem dX7_at_74 : decode cX7_at 74 = .ok (.iload_n 1, 1) := by decide +kernel
theorem dX7_at_75 : decode cX7_at 75 = .ok (.iload_n 2, 1) := by decide +kernel
theorem dX7_at_76 : decode cX7_at 76 = .ok (.iastore, 1) := by decide +kernel
theorem dX7_at_77 : decode cX7_at 77 = .ok (.iload_n 3, 1) := by decide +kernel
theorem dX7_at_78 : decode cX7_at 78 = .ok (.ireturn, 1) := by decide +kernel
theorem dX7_edges_0 : decode cX7_edges 0 = .ok (.iload_n 1, 1) := by decide +kernel
theorem dX7_edges_1 : decode cX7_edges 1 = .ok (.i2l, 1) := by decide +kernel
theorem dX7_edges_2 : decode cX7_edges 2 = .ok (.lconst 0, 1) := by decide +kernel
theorem dX7_edges_3 : decode cX7_edges 3 = .ok (.aload_n 0, 1) := by decide +kernel
theorem dX7_edges_4 : decode cX7_edges 4 = .ok (.getfield 7, 3) := by decide +kernel
theorem dX7_edges_7 : decode cX7_edges 7 = .ok (.i2l, 1) := by decide +kernel
theorem dX7_edges_8 : decode cX7_edges 8 = .ok (.invokestatic 59, 3) := by decide +kernel
theorem dX7_edges_11 : decode cX7_edges 11 = .ok (.ifCond .eq 30, 3) := by decide +kernel
theorem dX7_edges_14 : decode cX7_edges 14 = .ok (.iload_n 2, 1) := by decide +kernel
theorem dX7_edges_15 : decode cX7_edges 15 = .ok (.i2l, 1) := by decide +kernel
theorem dX7_edges_16 : decode cX7_edges 16 = .ok (.ldc2_w 65, 3) := by decide +kernel
theorem dX7_edges_19 : decode cX7_edges 19 = .ok (.iload_n 3, 1) := by decide +kernel
theorem dX7_edges_20 : decode cX7_edges 20 = .ok (.i2l, 1) := by decide +kernel
theorem dX7_edges_21 : decode cX7_edges 21 = .ok (.invokestatic 59, 3) := by decide +kernel
theorem dX7_edges_24 : decode cX7_edges 24 = .ok (.ifCond .eq 17, 3) := by decide +kernel
theorem dX7_edges_27 : decode cX7_edges 27 = .ok (.iload_n 3, 1) := by decide +kernel
theorem dX7_edges_28 : decode cX7_edges 28 = .ok (.i2l, 1) := by decide +kernel
theorem dX7_edges_29 : decode cX7_edges 29 = .ok (.ldc2_w 65, 3) := by decide +kernel
theorem dX7_edges_32 : decode cX7_edges 32 = .ok (.ldc2_w 63, 3) := by decide +kernel
theorem dX7_edges_35 : decode cX7_edges 35 = .ok (.invokestatic 59, 3) := by decide +kernel
theorem dX7_edges_38 : decode cX7_edges 38 = .ok (.ifCond .ne 5, 3) := by decide +kernel
theorem dX7_edges_41 : decode cX7_edges 41 = .ok (.iconst (-1), 1) := by decide +kernel
theorem dX7_edges_42 : decode cX7_edges 42 = .ok (.ireturn, 1) := by decide +kernel
theorem dX7_edges_43 : decode cX7_edges 43 = .ok (.aload_n 0, 1) := by decide +kernel
theorem dX7_edges_44 : decode cX7_edges 44 = .ok (.getfield 17, 3) := by decide +kernel
theorem dX7_edges_47 : decode cX7_edges 47 = .ok (.iload_n 1, 1) := by decide +kernel
theorem dX7_edges_48 : decode cX7_edges 48 = .ok (.iload_n 2, 1) := by decide +kernel
theorem dX7_edges_49 : decode cX7_edges 49 = .ok (.iastore, 1) := by decide +kernel
theorem dX7_edges_50 : decode cX7_edges 50 = .ok (.aload_n 0, 1) := by decide +kernel
theorem dX7_edges_51 : decode cX7_edges 51 = .ok (.getfield 20, 3) := by decide +kernel
theorem dX7_edges_54 : decode cX7_edges 54 = .ok (.iload_n 1, 1) := by decide +kernel
theorem dX7_edges_55 : decode cX7_edges 55 = .ok (.iload_n 3, 1) := by decide +kernel
theorem dX7_edges_56 : decode cX7_edges 56 = .ok (.iastore, 1) := by decide +kernel
theorem dX7_edges_57 : decode cX7_edges 57 = .ok (.iconst 1, 1) := by decide +kernel
theorem dX7_edges_58 : decode cX7_edges 58 = .ok (.ireturn, 1) := by decide +kernel
theorem dX7_load_0 : decode cX7_load 0 = .ok (.iload_n 1, 1) := by decide +kernel
theorem dX7_load_1 : decode cX7_load 1 = .ok (.i2l, 1) := by decide +kernel
theorem dX7_load_2 : decode cX7_load 2 = .ok (.lconst 1, 1) := by decide +kernel
theorem dX7_load_3 : decode cX7_load 3 = .ok (.aload_n 0, 1) := by decide +kernel
theorem dX7_load_4 : decode cX7_load 4 = .ok (.getfield 7, 3) := by decide +kernel
theorem dX7_load_7 : decode cX7_load 7 = .ok (.iconst 1, 1) := by decide +kernel
theorem dX7_load_8 : decode cX7_load 8 = .ok (.isub, 1) := by decide +kernel
theorem dX7_load_9 : decode cX7_load 9 = .ok (.i2l, 1) := by decide +kernel
theorem dX7_load_10 : decode cX7_load 10 = .ok (.invokestatic 59, 3) := by decide +kernel
theorem dX7_load_13 : decode cX7_load 13 = .ok (.ifCond .eq 15, 3) := by decide +kernel
theorem dX7_load_16 : decode cX7_load 16 = .ok (.iload_n 2, 1) := by decide +kernel
theorem dX7_load_17 : decode cX7_load 17 = .ok (.i2l, 1) := by decide +kernel
theorem dX7_load_18 : decode cX7_load 18 = .ok (.lconst 0, 1) := by decide +kernel
theorem dX7_load_19 : decode cX7_load 19 = .ok (.ldc2_w 67, 3) := by decide +kernel
theorem dX7_load_22 : decode cX7_load 22 = .ok (.invokestatic 59, 3) := by decide +kernel
theorem dX7_load_25 : decode cX7_load 25 = .ok (.ifCond .ne 5, 3) := by decide +kernel
theorem dX7_load_28 : decode cX7_load 28 = .ok (.iconst (-1), 1) := by decide +kernel
theorem dX7_load_29 : decode cX7_load 29 = .ok (.ireturn, 1) := by decide +kernel
theorem dX7_load_30 : decode cX7_load 30 = .ok (.aload_n 0, 1) := by decide +kernel
theorem dX7_load_31 : decode cX7_load 31 = .ok (.getfield 23, 3) := by decide +kernel
theorem dX7_load_34 : decode cX7_load 34 = .ok (.iload_n 1, 1) := by decide +kernel
theorem dX7_load_35 : decode cX7_load 35 = .ok (.iaload, 1) := by decide +kernel
theorem dX7_load_36 : decode cX7_load 36 = .ok (.istore_n 3, 1) := by decide +kernel
theorem dX7_load_37 : decode cX7_load 37 = .ok (.aload_n 0, 1) := by decide +kernel
theorem dX7_load_38 : decode cX7_load 38 = .ok (.getfield 23, 3) := by decide +kernel
theorem dX7_load_41 : decode cX7_load 41 = .ok (.iload_n 1, 1) := by decide +kernel
theorem dX7_load_42 : decode cX7_load 42 = .ok (.iload_n 2, 1) := by decide +kernel
theorem dX7_load_43 : decode cX7_load 43 = .ok (.iastore, 1) := by decide +kernel
theorem dX7_load_44 : decode cX7_load 44 = .ok (.iload_n 3, 1) := by decide +kernel
theorem dX7_load_45 : decode cX7_load 45 = .ok (.ireturn, 1) := by decide +kernel
theorem dX7_isSheet_0 : decode cX7_isSheet 0 = .ok (.iload_n 0, 1) := by decide +kernel
theorem dX7_isSheet_1 : decode cX7_isSheet 1 = .ok (.i2l, 1) := by decide +kernel
theorem dX7_isSheet_2 : decode cX7_isSheet 2 = .ok (.lconst 0, 1) := by decide +kernel
theorem dX7_isSheet_3 : decode cX7_isSheet 3 = .ok (.ldc2_w 69, 3) := by decide +kernel
theorem dX7_isSheet_6 : decode cX7_isSheet 6 = .ok (.invokestatic 59, 3) := by decide +kernel
theorem dX7_isSheet_9 : decode cX7_isSheet 9 = .ok (.ifCond .eq 19, 3) := by decide +kernel
theorem dX7_isSheet_12 : decode cX7_isSheet 12 = .ok (.iload_n 1, 1) := by decide +kernel
theorem dX7_isSheet_13 : decode cX7_isSheet 13 = .ok (.i2l, 1) := by decide +kernel
theorem dX7_isSheet_14 : decode cX7_isSheet 14 = .ok (.lconst 0, 1) := by decide +kernel
theorem dX7_isSheet_15 : decode cX7_isSheet 15 = .ok (.ldc2_w 55, 3) := by decide +kernel
theorem dX7_isSheet_18 : decode cX7_isSheet 18 = .ok (.invokestatic 59, 3) := by decide +kernel
theorem dX7_isSheet_21 : decode cX7_isSheet 21 = .ok (.ifCond .eq 7, 3) := by decide +kernel
theorem dX7_isSheet_24 : decode cX7_isSheet 24 = .ok (.iconst 1, 1) := by decide +kernel
theorem dX7_isSheet_25 : decode cX7_isSheet 25 = .ok (.goto 4, 3) := by decide +kernel
theorem dX7_isSheet_28 : decode cX7_isSheet 28 = .ok (.iconst 0, 1) := by decide +kernel
theorem dX7_isSheet_29 : decode cX7_isSheet 29 = .ok (.ireturn, 1) := by decide +kernel
theorem dX7_sheet_0 : decode cX7_sheet 0 = .ok (.iload_n 1, 1) := by decide +kernel
theorem dX7_sheet_1 : decode cX7_sheet 1 = .ok (.iload_n 2, 1) := by decide +kernel
theorem dX7_sheet_2 : decode cX7_sheet 2 = .ok (.invokestatic 71, 3) := by decide +kernel
theorem dX7_sheet_5 : decode cX7_sheet 5 = .ok (.ifCond .eq 9, 3) := by decide +kernel
theorem dX7_sheet_8 : decode cX7_sheet 8 = .ok (.iload_n 3, 1) := by decide +kernel
theorem dX7_sheet_9 : decode cX7_sheet 9 = .ok (.bipush 28, 2) := by decide +kernel
theorem dX7_sheet_11 : decode cX7_sheet 11 = .ok (.if_icmp .le 5, 3) := by decide +kernel
theorem dX7_sheet_14 : decode cX7_sheet 14 = .ok (.iconst (-1), 1) := by decide +kernel
theorem dX7_sheet_15 : decode cX7_sheet 15 = .ok (.ireturn, 1) := by decide +kernel
theorem dX7_sheet_16 : decode cX7_sheet 16 = .ok (.iload_n 3, 1) := by decide +kernel
theorem dX7_sheet_17 : decode cX7_sheet 17 = .ok (.ifCond .ge 6, 3) := by decide +kernel
theorem dX7_sheet_20 : decode cX7_sheet 20 = .ok (.bipush (-14), 2) := by decide +kernel
theorem dX7_sheet_22 : decode cX7_sheet 22 = .ok (.ireturn, 1) := by decide +kernel
theorem dX7_sheet_23 : decode cX7_sheet 23 = .ok (.aload_n 0, 1) := by decide +kernel
theorem dX7_sheet_24 : decode cX7_sheet 24 = .ok (.getfield 26, 3) := by decide +kernel
theorem dX7_sheet_27 : decode cX7_sheet 27 = .ok (.iload_n 1, 1) := by decide +kernel
theorem dX7_sheet_28 : decode cX7_sheet 28 = .ok (.iload_n 2, 1) := by decide +kernel
theorem dX7_sheet_29 : decode cX7_sheet 29 = .ok (.iastore, 1) := by decide +kernel
theorem dX7_sheet_30 : decode cX7_sheet 30 = .ok (.aload_n 0, 1) := by decide +kernel
theorem dX7_sheet_31 : decode cX7_sheet 31 = .ok (.getfield 29, 3) := by decide +kernel
theorem dX7_sheet_34 : decode cX7_sheet 34 = .ok (.iload_n 1, 1) := by decide +kernel
theorem dX7_sheet_35 : decode cX7_sheet 35 = .ok (.iload_n 3, 1) := by decide +kernel
theorem dX7_sheet_36 : decode cX7_sheet 36 = .ok (.iastore, 1) := by decide +kernel
theorem dX7_sheet_37 : decode cX7_sheet 37 = .ok (.iconst 0, 1) := by decide +kernel
theorem dX7_sheet_38 : decode cX7_sheet 38 = .ok (.istore 4, 2) := by decide +kernel
theorem dX7_sheet_40 : decode cX7_sheet 40 = .ok (.iload 4, 2) := by decide +kernel
theorem dX7_sheet_42 : decode cX7_sheet 42 = .ok (.bipush 28, 2) := by decide +kernel
theorem dX7_sheet_44 : decode cX7_sheet 44 = .ok (.if_icmp .ge 22, 3) := by decide +kernel
theorem dX7_sheet_47 : decode cX7_sheet 47 = .ok (.aload_n 0, 1) := by decide +kernel
theorem dX7_sheet_48 : decode cX7_sheet 48 = .ok (.getfield 32, 3) := by decide +kernel
theorem dX7_sheet_51 : decode cX7_sheet 51 = .ok (.bipush 28, 2) := by decide +kernel
theorem dX7_sheet_53 : decode cX7_sheet 53 = .ok (.iload_n 1, 1) := by decide +kernel
theorem dX7_sheet_54 : decode cX7_sheet 54 = .ok (.imul, 1) := by decide +kernel
theorem dX7_sheet_55 : decode cX7_sheet 55 = .ok (.iload 4, 2) := by decide +kernel
theorem dX7_sheet_57 : decode cX7_sheet 57 = .ok (.iadd, 1) := by decide +kernel
theorem dX7_sheet_58 : decode cX7_sheet 58 = .ok (.iconst 0, 1) := by decide +kernel
theorem dX7_sheet_59 : decode cX7_sheet 59 = .ok (.iastore, 1) := by decide +kernel
theorem dX7_sheet_60 : decode cX7_sheet 60 = .ok (.iinc 4 1, 3) := by decide +kernel
theorem dX7_sheet_63 : decode cX7_sheet 63 = .ok (.goto (-23), 3) := by decide +kernel
theorem dX7_sheet_66 : decode cX7_sheet 66 = .ok (.iload_n 3, 1) := by decide +kernel
theorem dX7_sheet_67 : decode cX7_sheet 67 = .ok (.ireturn, 1) := by decide +kernel
theorem dX7_drop_0 : decode cX7_drop 0 = .ok (.iload_n 1, 1) := by decide +kernel
theorem dX7_drop_1 : decode cX7_drop 1 = .ok (.i2l, 1) := by decide +kernel
theorem dX7_drop_2 : decode cX7_drop 2 = .ok (.lconst 0, 1) := by decide +kernel
theorem dX7_drop_3 : decode cX7_drop 3 = .ok (.ldc2_w 69, 3) := by decide +kernel
theorem dX7_drop_6 : decode cX7_drop 6 = .ok (.invokestatic 59, 3) := by decide +kernel
theorem dX7_drop_9 : decode cX7_drop 9 = .ok (.ifCond .ne 5, 3) := by decide +kernel
theorem dX7_drop_12 : decode cX7_drop 12 = .ok (.iconst (-1), 1) := by decide +kernel
theorem dX7_drop_13 : decode cX7_drop 13 = .ok (.ireturn, 1) := by decide +kernel
theorem dX7_drop_14 : decode cX7_drop 14 = .ok (.aload_n 0, 1) := by decide +kernel
theorem dX7_drop_15 : decode cX7_drop 15 = .ok (.getfield 26, 3) := by decide +kernel
theorem dX7_drop_18 : decode cX7_drop 18 = .ok (.iload_n 1, 1) := by decide +kernel
theorem dX7_drop_19 : decode cX7_drop 19 = .ok (.iaload, 1) := by decide +kernel
theorem dX7_drop_20 : decode cX7_drop 20 = .ok (.ifCond .ge 6, 3) := by decide +kernel
theorem dX7_drop_23 : decode cX7_drop 23 = .ok (.bipush (-11), 2) := by decide +kernel
theorem dX7_drop_25 : decode cX7_drop 25 = .ok (.ireturn, 1) := by decide +kernel
theorem dX7_drop_26 : decode cX7_drop 26 = .ok (.aload_n 0, 1) := by decide +kernel
theorem dX7_drop_27 : decode cX7_drop 27 = .ok (.getfield 26, 3) := by decide +kernel
theorem dX7_drop_30 : decode cX7_drop 30 = .ok (.iload_n 1, 1) := by decide +kernel
theorem dX7_drop_31 : decode cX7_drop 31 = .ok (.iconst (-1), 1) := by decide +kernel
theorem dX7_drop_32 : decode cX7_drop 32 = .ok (.iastore, 1) := by decide +kernel
theorem dX7_drop_33 : decode cX7_drop 33 = .ok (.aload_n 0, 1) := by decide +kernel
theorem dX7_drop_34 : decode cX7_drop 34 = .ok (.getfield 29, 3) := by decide +kernel
theorem dX7_drop_37 : decode cX7_drop 37 = .ok (.iload_n 1, 1) := by decide +kernel
theorem dX7_drop_38 : decode cX7_drop 38 = .ok (.iaload, 1) := by decide +kernel
theorem dX7_drop_39 : decode cX7_drop 39 = .ok (.ireturn, 1) := by decide +kernel
theorem dX7_item_0 : decode cX7_item 0 = .ok (.iload_n 1, 1) := by decide +kernel
theorem dX7_item_1 : decode cX7_item 1 = .ok (.iload_n 2, 1) := by decide +kernel
theorem dX7_item_2 : decode cX7_item 2 = .ok (.invokestatic 71, 3) := by decide +kernel
theorem dX7_item_5 : decode cX7_item 5 = .ok (.ifCond .ne 5, 3) := by decide +kernel
theorem dX7_item_8 : decode cX7_item 8 = .ok (.iconst (-1), 1) := by decide +kernel
theorem dX7_item_9 : decode cX7_item 9 = .ok (.ireturn, 1) := by decide +kernel
theorem dX7_item_10 : decode cX7_item 10 = .ok (.aload_n 0, 1) := by decide +kernel
theorem dX7_item_11 : decode cX7_item 11 = .ok (.getfield 26, 3) := by decide +kernel
theorem dX7_item_14 : decode cX7_item 14 = .ok (.iload_n 1, 1) := by decide +kernel
theorem dX7_item_15 : decode cX7_item 15 = .ok (.iaload, 1) := by decide +kernel
theorem dX7_item_16 : decode cX7_item 16 = .ok (.iload_n 2, 1) := by decide +kernel
theorem dX7_item_17 : decode cX7_item 17 = .ok (.if_icmp .eq 20, 3) := by decide +kernel
theorem dX7_item_20 : decode cX7_item 20 = .ok (.aload_n 0, 1) := by decide +kernel
theorem dX7_item_21 : decode cX7_item 21 = .ok (.getfield 26, 3) := by decide +kernel
theorem dX7_item_24 : decode cX7_item 24 = .ok (.iload_n 1, 1) := by decide +kernel
theorem dX7_item_25 : decode cX7_item 25 = .ok (.iaload, 1) := by decide +kernel
theorem dX7_item_26 : decode cX7_item 26 = .ok (.ifCond .ge 8, 3) := by decide +kernel
theorem dX7_item_29 : decode cX7_item 29 = .ok (.bipush (-11), 2) := by decide +kernel
theorem dX7_item_31 : decode cX7_item 31 = .ok (.goto 5, 3) := by decide +kernel
theorem dX7_item_34 : decode cX7_item 34 = .ok (.bipush (-12), 2) := by decide +kernel
theorem dX7_item_36 : decode cX7_item 36 = .ok (.ireturn, 1) := by decide +kernel
theorem dX7_item_37 : decode cX7_item 37 = .ok (.iload_n 3, 1) := by decide +kernel
theorem dX7_item_38 : decode cX7_item 38 = .ok (.i2l, 1) := by decide +kernel
theorem dX7_item_39 : decode cX7_item 39 = .ok (.lconst 0, 1) := by decide +kernel
theorem dX7_item_40 : decode cX7_item 40 = .ok (.aload_n 0, 1) := by decide +kernel
theorem dX7_item_41 : decode cX7_item 41 = .ok (.getfield 29, 3) := by decide +kernel
theorem dX7_item_44 : decode cX7_item 44 = .ok (.iload_n 1, 1) := by decide +kernel
theorem dX7_item_45 : decode cX7_item 45 = .ok (.iaload, 1) := by decide +kernel
theorem dX7_item_46 : decode cX7_item 46 = .ok (.iconst 1, 1) := by decide +kernel
theorem dX7_item_47 : decode cX7_item 47 = .ok (.isub, 1) := by decide +kernel
theorem dX7_item_48 : decode cX7_item 48 = .ok (.i2l, 1) := by decide +kernel
theorem dX7_item_49 : decode cX7_item 49 = .ok (.invokestatic 59, 3) := by decide +kernel
theorem dX7_item_52 : decode cX7_item 52 = .ok (.ifCond .ne 6, 3) := by decide +kernel
theorem dX7_item_55 : decode cX7_item 55 = .ok (.bipush (-13), 2) := by decide +kernel
theorem dX7_item_57 : decode cX7_item 57 = .ok (.ireturn, 1) := by decide +kernel
theorem dX7_item_58 : decode cX7_item 58 = .ok (.aload_n 0, 1) := by decide +kernel
theorem dX7_item_59 : decode cX7_item 59 = .ok (.getfield 32, 3) := by decide +kernel
theorem dX7_item_62 : decode cX7_item 62 = .ok (.bipush 28, 2) := by decide +kernel
theorem dX7_item_64 : decode cX7_item 64 = .ok (.iload_n 1, 1) := by decide +kernel
theorem dX7_item_65 : decode cX7_item 65 = .ok (.imul, 1) := by decide +kernel
theorem dX7_item_66 : decode cX7_item 66 = .ok (.iload_n 3, 1) := by decide +kernel
theorem dX7_item_67 : decode cX7_item 67 = .ok (.iadd, 1) := by decide +kernel
theorem dX7_item_68 : decode cX7_item 68 = .ok (.iload_n 2, 1) := by decide +kernel
theorem dX7_item_69 : decode cX7_item 69 = .ok (.ifCond .ne 14, 3) := by decide +kernel
theorem dX7_item_72 : decode cX7_item 72 = .ok (.iload 4, 2) := by decide +kernel
theorem dX7_item_74 : decode cX7_item 74 = .ok (.bipush 24, 2) := by decide +kernel
theorem dX7_item_76 : decode cX7_item 76 = .ok (.ishl, 1) := by decide +kernel
theorem dX7_item_77 : decode cX7_item 77 = .ok (.bipush 24, 2) := by decide +kernel
theorem dX7_item_79 : decode cX7_item 79 = .ok (.ishr, 1) := by decide +kernel
theorem dX7_item_80 : decode cX7_item 80 = .ok (.goto 5, 3) := by decide +kernel
theorem dX7_item_83 : decode cX7_item 83 = .ok (.iload 4, 2) := by decide +kernel
theorem dX7_item_85 : decode cX7_item 85 = .ok (.iastore, 1) := by decide +kernel
theorem dX7_item_86 : decode cX7_item 86 = .ok (.iconst 1, 1) := by decide +kernel
theorem dX7_item_87 : decode cX7_item 87 = .ok (.ireturn, 1) := by decide +kernel
theorem dX7_read_0 : decode cX7_read 0 = .ok (.iload_n 1, 1) := by decide +kernel
theorem dX7_read_1 : decode cX7_read 1 = .ok (.iload_n 2, 1) := by decide +kernel
theorem dX7_read_2 : decode cX7_read 2 = .ok (.invokestatic 71, 3) := by decide +kernel
theorem dX7_read_5 : decode cX7_read 5 = .ok (.ifCond .ne 5, 3) := by decide +kernel
theorem dX7_read_8 : decode cX7_read 8 = .ok (.iconst (-1), 1) := by decide +kernel
theorem dX7_read_9 : decode cX7_read 9 = .ok (.ireturn, 1) := by decide +kernel
theorem dX7_read_10 : decode cX7_read 10 = .ok (.aload_n 0, 1) := by decide +kernel
theorem dX7_read_11 : decode cX7_read 11 = .ok (.getfield 26, 3) := by decide +kernel
theorem dX7_read_14 : decode cX7_read 14 = .ok (.iload_n 1, 1) := by decide +kernel
theorem dX7_read_15 : decode cX7_read 15 = .ok (.iaload, 1) := by decide +kernel
theorem dX7_read_16 : decode cX7_read 16 = .ok (.iload_n 2, 1) := by decide +kernel
theorem dX7_read_17 : decode cX7_read 17 = .ok (.if_icmp .eq 20, 3) := by decide +kernel
theorem dX7_read_20 : decode cX7_read 20 = .ok (.aload_n 0, 1) := by decide +kernel
theorem dX7_read_21 : decode cX7_read 21 = .ok (.getfield 26, 3) := by decide +kernel
theorem dX7_read_24 : decode cX7_read 24 = .ok (.iload_n 1, 1) := by decide +kernel
theorem dX7_read_25 : decode cX7_read 25 = .ok (.iaload, 1) := by decide +kernel
theorem dX7_read_26 : decode cX7_read 26 = .ok (.ifCond .ge 8, 3) := by decide +kernel
theorem dX7_read_29 : decode cX7_read 29 = .ok (.bipush (-11), 2) := by decide +kernel
theorem dX7_read_31 : decode cX7_read 31 = .ok (.goto 5, 3) := by decide +kernel
theorem dX7_read_34 : decode cX7_read 34 = .ok (.bipush (-12), 2) := by decide +kernel
theorem dX7_read_36 : decode cX7_read 36 = .ok (.ireturn, 1) := by decide +kernel
theorem dX7_read_37 : decode cX7_read 37 = .ok (.iload_n 3, 1) := by decide +kernel
theorem dX7_read_38 : decode cX7_read 38 = .ok (.i2l, 1) := by decide +kernel
theorem dX7_read_39 : decode cX7_read 39 = .ok (.lconst 0, 1) := by decide +kernel
theorem dX7_read_40 : decode cX7_read 40 = .ok (.aload_n 0, 1) := by decide +kernel
theorem dX7_read_41 : decode cX7_read 41 = .ok (.getfield 29, 3) := by decide +kernel
theorem dX7_read_44 : decode cX7_read 44 = .ok (.iload_n 1, 1) := by decide +kernel
theorem dX7_read_45 : decode cX7_read 45 = .ok (.iaload, 1) := by decide +kernel
theorem dX7_read_46 : decode cX7_read 46 = .ok (.iconst 4, 1) := by decide +kernel
theorem dX7_read_47 : decode cX7_read 47 = .ok (.aload_n 0, 1) := by decide +kernel
theorem dX7_read_48 : decode cX7_read 48 = .ok (.getfield 7, 3) := by decide +kernel
theorem dX7_read_51 : decode cX7_read 51 = .ok (.imul, 1) := by decide +kernel
theorem dX7_read_52 : decode cX7_read 52 = .ok (.isub, 1) := by decide +kernel
theorem dX7_read_53 : decode cX7_read 53 = .ok (.iconst 4, 1) := by decide +kernel
theorem dX7_read_54 : decode cX7_read 54 = .ok (.isub, 1) := by decide +kernel
theorem dX7_read_55 : decode cX7_read 55 = .ok (.i2l, 1) := by decide +kernel
theorem dX7_read_56 : decode cX7_read 56 = .ok (.invokestatic 59, 3) := by decide +kernel
theorem dX7_read_59 : decode cX7_read 59 = .ok (.ifCond .ne 6, 3) := by decide +kernel
theorem dX7_read_62 : decode cX7_read 62 = .ok (.bipush (-13), 2) := by decide +kernel
theorem dX7_read_64 : decode cX7_read 64 = .ok (.ireturn, 1) := by decide +kernel
theorem dX7_read_65 : decode cX7_read 65 = .ok (.bipush 28, 2) := by decide +kernel
theorem dX7_read_67 : decode cX7_read 67 = .ok (.iload_n 1, 1) := by decide +kernel
theorem dX7_read_68 : decode cX7_read 68 = .ok (.imul, 1) := by decide +kernel
theorem dX7_read_69 : decode cX7_read 69 = .ok (.iload_n 3, 1) := by decide +kernel
theorem dX7_read_70 : decode cX7_read 70 = .ok (.iadd, 1) := by decide +kernel
theorem dX7_read_71 : decode cX7_read 71 = .ok (.istore 4, 2) := by decide +kernel
theorem dX7_read_73 : decode cX7_read 73 = .ok (.iconst 0, 1) := by decide +kernel
theorem dX7_read_74 : decode cX7_read 74 = .ok (.istore 5, 2) := by decide +kernel
theorem dX7_read_76 : decode cX7_read 76 = .ok (.iload 5, 2) := by decide +kernel
theorem dX7_read_78 : decode cX7_read 78 = .ok (.aload_n 0, 1) := by decide +kernel
theorem dX7_read_79 : decode cX7_read 79 = .ok (.getfield 7, 3) := by decide +kernel
theorem dX7_read_82 : decode cX7_read 82 = .ok (.if_icmp .gt 150, 3) := by decide +kernel
theorem dX7_read_85 : decode cX7_read 85 = .ok (.aload_n 0, 1) := by decide +kernel
theorem dX7_read_86 : decode cX7_read 86 = .ok (.getfield 32, 3) := by decide +kernel
theorem dX7_read_89 : decode cX7_read 89 = .ok (.iload 4, 2) := by decide +kernel
theorem dX7_read_91 : decode cX7_read 91 = .ok (.iconst 4, 1) := by decide +kernel
theorem dX7_read_92 : decode cX7_read 92 = .ok (.iload 5, 2) := by decide +kernel
theorem dX7_read_94 : decode cX7_read 94 = .ok (.imul, 1) := by decide +kernel
theorem dX7_read_95 : decode cX7_read 95 = .ok (.iadd, 1) := by decide +kernel
theorem dX7_read_96 : decode cX7_read 96 = .ok (.iaload, 1) := by decide +kernel
theorem dX7_read_97 : decode cX7_read 97 = .ok (.istore 6, 2) := by decide +kernel
theorem dX7_read_99 : decode cX7_read 99 = .ok (.iload 5, 2) := by decide +kernel
theorem dX7_read_101 : decode cX7_read 101 = .ok (.ifCond .ne 7, 3) := by decide +kernel
theorem dX7_read_104 : decode cX7_read 104 = .ok (.iconst (-1), 1) := by decide +kernel
theorem dX7_read_105 : decode cX7_read 105 = .ok (.goto 17, 3) := by decide +kernel
theorem dX7_read_108 : decode cX7_read 108 = .ok (.aload_n 0, 1) := by decide +kernel
theorem dX7_read_109 : decode cX7_read 109 = .ok (.getfield 32, 3) := by decide +kernel
theorem dX7_read_112 : decode cX7_read 112 = .ok (.iload 4, 2) := by decide +kernel
theorem dX7_read_114 : decode cX7_read 114 = .ok (.iconst 4, 1) := by decide +kernel
theorem dX7_read_115 : decode cX7_read 115 = .ok (.iload 5, 2) := by decide +kernel
theorem dX7_read_117 : decode cX7_read 117 = .ok (.imul, 1) := by decide +kernel
theorem dX7_read_118 : decode cX7_read 118 = .ok (.iadd, 1) := by decide +kernel
theorem dX7_read_119 : decode cX7_read 119 = .ok (.iconst 4, 1) := by decide +kernel
theorem dX7_read_120 : decode cX7_read 120 = .ok (.isub, 1) := by decide +kernel
theorem dX7_read_121 : decode cX7_read 121 = .ok (.iaload, 1) := by decide +kernel
theorem dX7_read_122 : decode cX7_read 122 = .ok (.istore 7, 2) := by decide +kernel
theorem dX7_read_124 : decode cX7_read 124 = .ok (.aload_n 0, 1) := by decide +kernel
theorem dX7_read_125 : decode cX7_read 125 = .ok (.getfield 32, 3) := by decide +kernel
theorem dX7_read_128 : decode cX7_read 128 = .ok (.iload 4, 2) := by decide +kernel
theorem dX7_read_130 : decode cX7_read 130 = .ok (.iconst 4, 1) := by decide +kernel
theorem dX7_read_131 : decode cX7_read 131 = .ok (.iload 5, 2) := by decide +kernel
theorem dX7_read_133 : decode cX7_read 133 = .ok (.imul, 1) := by decide +kernel
theorem dX7_read_134 : decode cX7_read 134 = .ok (.iadd, 1) := by decide +kernel
theorem dX7_read_135 : decode cX7_read 135 = .ok (.iconst 2, 1) := by decide +kernel
theorem dX7_read_136 : decode cX7_read 136 = .ok (.iadd, 1) := by decide +kernel
theorem dX7_read_137 : decode cX7_read 137 = .ok (.iaload, 1) := by decide +kernel
theorem dX7_read_138 : decode cX7_read 138 = .ok (.istore 8, 2) := by decide +kernel
theorem dX7_read_140 : decode cX7_read 140 = .ok (.iload 5, 2) := by decide +kernel
theorem dX7_read_142 : decode cX7_read 142 = .ok (.ifCond .ne 8, 3) := by decide +kernel
theorem dX7_read_145 : decode cX7_read 145 = .ok (.iload 6, 2) := by decide +kernel
theorem dX7_read_147 : decode cX7_read 147 = .ok (.ifCond .ne 76, 3) := by decide +kernel
theorem dX7_read_150 : decode cX7_read 150 = .ok (.iload 6, 2) := by decide +kernel
