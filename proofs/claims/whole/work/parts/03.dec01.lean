theorem dX2_commonDivisor_21 : decode cX2_commonDivisor 21 = .ok (.lload_n 2, 1) := by decide +kernel
theorem dX2_commonDivisor_22 : decode cX2_commonDivisor 22 = .ok (.lstore_n 0, 1) := by decide +kernel
theorem dX2_commonDivisor_23 : decode cX2_commonDivisor 23 = .ok (.lload 5, 2) := by decide +kernel
theorem dX2_commonDivisor_25 : decode cX2_commonDivisor 25 = .ok (.lstore_n 2, 1) := by decide +kernel
theorem dX2_commonDivisor_26 : decode cX2_commonDivisor 26 = .ok (.iinc 4 1, 3) := by decide +kernel
theorem dX2_commonDivisor_29 : decode cX2_commonDivisor 29 = .ok (.goto (-26), 3) := by decide +kernel
theorem dX2_commonDivisor_32 : decode cX2_commonDivisor 32 = .ok (.lload_n 0, 1) := by decide +kernel
theorem dX2_commonDivisor_33 : decode cX2_commonDivisor 33 = .ok (.lreturn, 1) := by decide +kernel
theorem dX3_init_0 : decode cX3_init 0 = .ok (.aload_n 0, 1) := by decide +kernel
theorem dX3_init_1 : decode cX3_init 1 = .ok (.invokespecial 1, 3) := by decide +kernel
theorem dX3_init_4 : decode cX3_init 4 = .ok (.aload_n 0, 1) := by decide +kernel
theorem dX3_init_5 : decode cX3_init 5 = .ok (.lconst 1, 1) := by decide +kernel
theorem dX3_init_6 : decode cX3_init 6 = .ok (.putfield 7, 3) := by decide +kernel
theorem dX3_init_9 : decode cX3_init 9 = .ok (.aload_n 0, 1) := by decide +kernel
theorem dX3_init_10 : decode cX3_init 10 = .ok (.lconst 1, 1) := by decide +kernel
theorem dX3_init_11 : decode cX3_init 11 = .ok (.putfield 13, 3) := by decide +kernel
theorem dX3_init_14 : decode cX3_init 14 = .ok (.aload_n 0, 1) := by decide +kernel
theorem dX3_init_15 : decode cX3_init 15 = .ok (.lconst 1, 1) := by decide +kernel
theorem dX3_init_16 : decode cX3_init 16 = .ok (.putfield 16, 3) := by decide +kernel
theorem dX3_init_19 : decode cX3_init 19 = .ok (.aload_n 0, 1) := by decide +kernel
theorem dX3_init_20 : decode cX3_init 20 = .ok (.aload_n 1, 1) := by decide +kernel
theorem dX3_init_21 : decode cX3_init 21 = .ok (.putfield 19, 3) := by decide +kernel
theorem dX3_init_24 : decode cX3_init 24 = .ok (.return_, 1) := by decide +kernel
theorem dX3_lay_0 : decode cX3_lay 0 = .ok (.aload_n 0, 1) := by decide +kernel
theorem dX3_lay_1 : decode cX3_lay 1 = .ok (.aload_n 1, 1) := by decide +kernel
theorem dX3_lay_2 : decode cX3_lay 2 = .ok (.getfield 23, 3) := by decide +kernel
theorem dX3_lay_5 : decode cX3_lay 5 = .ok (.putfield 28, 3) := by decide +kernel
theorem dX3_lay_8 : decode cX3_lay 8 = .ok (.aload_n 0, 1) := by decide +kernel
theorem dX3_lay_9 : decode cX3_lay 9 = .ok (.aload_n 1, 1) := by decide +kernel
theorem dX3_lay_10 : decode cX3_lay 10 = .ok (.getfield 31, 3) := by decide +kernel
theorem dX3_lay_13 : decode cX3_lay 13 = .ok (.putfield 7, 3) := by decide +kernel
theorem dX3_lay_16 : decode cX3_lay 16 = .ok (.aload_n 0, 1) := by decide +kernel
theorem dX3_lay_17 : decode cX3_lay 17 = .ok (.invokevirtual 34, 3) := by decide +kernel
theorem dX3_lay_20 : decode cX3_lay 20 = .ok (.aload_n 0, 1) := by decide +kernel
theorem dX3_lay_21 : decode cX3_lay 21 = .ok (.invokevirtual 37, 3) := by decide +kernel
theorem dX3_lay_24 : decode cX3_lay 24 = .ok (.return_, 1) := by decide +kernel
theorem dX3_findLeastStart_0 : decode cX3_findLeastStart 0 = .ok (.aload_n 0, 1) := by decide +kernel
theorem dX3_findLeastStart_1 : decode cX3_findLeastStart 1 = .ok (.aload_n 0, 1) := by decide +kernel
theorem dX3_findLeastStart_2 : decode cX3_findLeastStart 2 = .ok (.iconst 0, 1) := by decide +kernel
theorem dX3_findLeastStart_3 : decode cX3_findLeastStart 3 = .ok (.invokevirtual 40, 3) := by decide +kernel
theorem dX3_findLeastStart_6 : decode cX3_findLeastStart 6 = .ok (.putfield 44, 3) := by decide +kernel
theorem dX3_findLeastStart_9 : decode cX3_findLeastStart 9 = .ok (.aload_n 0, 1) := by decide +kernel
theorem dX3_findLeastStart_10 : decode cX3_findLeastStart 10 = .ok (.lconst 1, 1) := by decide +kernel
theorem dX3_findLeastStart_11 : decode cX3_findLeastStart 11 = .ok (.putfield 13, 3) := by decide +kernel
theorem dX3_findLeastStart_14 : decode cX3_findLeastStart 14 = .ok (.iconst 1, 1) := by decide +kernel
theorem dX3_findLeastStart_15 : decode cX3_findLeastStart 15 = .ok (.istore_n 1, 1) := by decide +kernel
theorem dX3_findLeastStart_16 : decode cX3_findLeastStart 16 = .ok (.iload_n 1, 1) := by decide +kernel
theorem dX3_findLeastStart_17 : decode cX3_findLeastStart 17 = .ok (.aload_n 0, 1) := by decide +kernel
theorem dX3_findLeastStart_18 : decode cX3_findLeastStart 18 = .ok (.getfield 19, 3) := by decide +kernel
theorem dX3_findLeastStart_21 : decode cX3_findLeastStart 21 = .ok (.getfield 47, 3) := by decide +kernel
theorem dX3_findLeastStart_24 : decode cX3_findLeastStart 24 = .ok (.if_icmp .ge 114, 3) := by decide +kernel
theorem dX3_findLeastStart_27 : decode cX3_findLeastStart 27 = .ok (.iload_n 1, 1) := by decide +kernel
theorem dX3_findLeastStart_28 : decode cX3_findLeastStart 28 = .ok (.iconst 1, 1) := by decide +kernel
theorem dX3_findLeastStart_29 : decode cX3_findLeastStart 29 = .ok (.iadd, 1) := by decide +kernel
theorem dX3_findLeastStart_30 : decode cX3_findLeastStart 30 = .ok (.istore_n 2, 1) := by decide +kernel
theorem dX3_findLeastStart_31 : decode cX3_findLeastStart 31 = .ok (.iload_n 2, 1) := by decide +kernel
theorem dX3_findLeastStart_32 : decode cX3_findLeastStart 32 = .ok (.aload_n 0, 1) := by decide +kernel
theorem dX3_findLeastStart_33 : decode cX3_findLeastStart 33 = .ok (.getfield 19, 3) := by decide +kernel
theorem dX3_findLeastStart_36 : decode cX3_findLeastStart 36 = .ok (.getfield 47, 3) := by decide +kernel
theorem dX3_findLeastStart_39 : decode cX3_findLeastStart 39 = .ok (.if_icmp .gt 93, 3) := by decide +kernel
theorem dX3_findLeastStart_42 : decode cX3_findLeastStart 42 = .ok (.aload_n 0, 1) := by decide +kernel
theorem dX3_findLeastStart_43 : decode cX3_findLeastStart 43 = .ok (.getfield 19, 3) := by decide +kernel
theorem dX3_findLeastStart_46 : decode cX3_findLeastStart 46 = .ok (.getfield 53, 3) := by decide +kernel
theorem dX3_findLeastStart_49 : decode cX3_findLeastStart 49 = .ok (.iload_n 2, 1) := by decide +kernel
theorem dX3_findLeastStart_50 : decode cX3_findLeastStart 50 = .ok (.iaload, 1) := by decide +kernel
theorem dX3_findLeastStart_51 : decode cX3_findLeastStart 51 = .ok (.i2l, 1) := by decide +kernel
theorem dX3_findLeastStart_52 : decode cX3_findLeastStart 52 = .ok (.aload_n 0, 1) := by decide +kernel
theorem dX3_findLeastStart_53 : decode cX3_findLeastStart 53 = .ok (.iload_n 1, 1) := by decide +kernel
theorem dX3_findLeastStart_54 : decode cX3_findLeastStart 54 = .ok (.invokevirtual 40, 3) := by decide +kernel
theorem dX3_findLeastStart_57 : decode cX3_findLeastStart 57 = .ok (.lmul, 1) := by decide +kernel
theorem dX3_findLeastStart_58 : decode cX3_findLeastStart 58 = .ok (.aload_n 0, 1) := by decide +kernel
theorem dX3_findLeastStart_59 : decode cX3_findLeastStart 59 = .ok (.getfield 19, 3) := by decide +kernel
theorem dX3_findLeastStart_62 : decode cX3_findLeastStart 62 = .ok (.getfield 53, 3) := by decide +kernel
theorem dX3_findLeastStart_65 : decode cX3_findLeastStart 65 = .ok (.iload_n 1, 1) := by decide +kernel
theorem dX3_findLeastStart_66 : decode cX3_findLeastStart 66 = .ok (.iaload, 1) := by decide +kernel
theorem dX3_findLeastStart_67 : decode cX3_findLeastStart 67 = .ok (.i2l, 1) := by decide +kernel
theorem dX3_findLeastStart_68 : decode cX3_findLeastStart 68 = .ok (.aload_n 0, 1) := by decide +kernel
theorem dX3_findLeastStart_69 : decode cX3_findLeastStart 69 = .ok (.iload_n 2, 1) := by decide +kernel
theorem dX3_findLeastStart_70 : decode cX3_findLeastStart 70 = .ok (.invokevirtual 57, 3) := by decide +kernel
theorem dX3_findLeastStart_73 : decode cX3_findLeastStart 73 = .ok (.lmul, 1) := by decide +kernel
theorem dX3_findLeastStart_74 : decode cX3_findLeastStart 74 = .ok (.lsub, 1) := by decide +kernel
theorem dX3_findLeastStart_75 : decode cX3_findLeastStart 75 = .ok (.lstore_n 3, 1) := by decide +kernel
theorem dX3_findLeastStart_76 : decode cX3_findLeastStart 76 = .ok (.aload_n 0, 1) := by decide +kernel
theorem dX3_findLeastStart_77 : decode cX3_findLeastStart 77 = .ok (.getfield 19, 3) := by decide +kernel
theorem dX3_findLeastStart_80 : decode cX3_findLeastStart 80 = .ok (.getfield 53, 3) := by decide +kernel
theorem dX3_findLeastStart_83 : decode cX3_findLeastStart 83 = .ok (.iload_n 2, 1) := by decide +kernel
theorem dX3_findLeastStart_84 : decode cX3_findLeastStart 84 = .ok (.iaload, 1) := by decide +kernel
theorem dX3_findLeastStart_85 : decode cX3_findLeastStart 85 = .ok (.aload_n 0, 1) := by decide +kernel
theorem dX3_findLeastStart_86 : decode cX3_findLeastStart 86 = .ok (.getfield 19, 3) := by decide +kernel
theorem dX3_findLeastStart_89 : decode cX3_findLeastStart 89 = .ok (.getfield 53, 3) := by decide +kernel
theorem dX3_findLeastStart_92 : decode cX3_findLeastStart 92 = .ok (.iload_n 1, 1) := by decide +kernel
theorem dX3_findLeastStart_93 : decode cX3_findLeastStart 93 = .ok (.iaload, 1) := by decide +kernel
theorem dX3_findLeastStart_94 : decode cX3_findLeastStart 94 = .ok (.isub, 1) := by decide +kernel
theorem dX3_findLeastStart_95 : decode cX3_findLeastStart 95 = .ok (.i2l, 1) := by decide +kernel
theorem dX3_findLeastStart_96 : decode cX3_findLeastStart 96 = .ok (.lstore 5, 2) := by decide +kernel
theorem dX3_findLeastStart_98 : decode cX3_findLeastStart 98 = .ok (.lload_n 3, 1) := by decide +kernel
theorem dX3_findLeastStart_99 : decode cX3_findLeastStart 99 = .ok (.aload_n 0, 1) := by decide +kernel
theorem dX3_findLeastStart_100 : decode cX3_findLeastStart 100 = .ok (.getfield 13, 3) := by decide +kernel
theorem dX3_findLeastStart_103 : decode cX3_findLeastStart 103 = .ok (.lmul, 1) := by decide +kernel
theorem dX3_findLeastStart_104 : decode cX3_findLeastStart 104 = .ok (.aload_n 0, 1) := by decide +kernel
theorem dX3_findLeastStart_105 : decode cX3_findLeastStart 105 = .ok (.getfield 44, 3) := by decide +kernel
theorem dX3_findLeastStart_108 : decode cX3_findLeastStart 108 = .ok (.lload 5, 2) := by decide +kernel
theorem dX3_findLeastStart_110 : decode cX3_findLeastStart 110 = .ok (.lmul, 1) := by decide +kernel
theorem dX3_findLeastStart_111 : decode cX3_findLeastStart 111 = .ok (.lcmp, 1) := by decide +kernel
theorem dX3_findLeastStart_112 : decode cX3_findLeastStart 112 = .ok (.ifCond .le 14, 3) := by decide +kernel
theorem dX3_findLeastStart_115 : decode cX3_findLeastStart 115 = .ok (.aload_n 0, 1) := by decide +kernel
theorem dX3_findLeastStart_116 : decode cX3_findLeastStart 116 = .ok (.lload_n 3, 1) := by decide +kernel
theorem dX3_findLeastStart_117 : decode cX3_findLeastStart 117 = .ok (.putfield 44, 3) := by decide +kernel
theorem dX3_findLeastStart_120 : decode cX3_findLeastStart 120 = .ok (.aload_n 0, 1) := by decide +kernel
theorem dX3_findLeastStart_121 : decode cX3_findLeastStart 121 = .ok (.lload 5, 2) := by decide +kernel
theorem dX3_findLeastStart_123 : decode cX3_findLeastStart 123 = .ok (.putfield 13, 3) := by decide +kernel
theorem dX3_findLeastStart_126 : decode cX3_findLeastStart 126 = .ok (.iinc 2 1, 3) := by decide +kernel
theorem dX3_findLeastStart_129 : decode cX3_findLeastStart 129 = .ok (.goto (-98), 3) := by decide +kernel
theorem dX3_findLeastStart_132 : decode cX3_findLeastStart 132 = .ok (.iinc 1 1, 3) := by decide +kernel
theorem dX3_findLeastStart_135 : decode cX3_findLeastStart 135 = .ok (.goto (-119), 3) := by decide +kernel
theorem dX3_findLeastStart_138 : decode cX3_findLeastStart 138 = .ok (.return_, 1) := by decide +kernel
theorem dX3_findLeastSlope_0 : decode cX3_findLeastSlope 0 = .ok (.aload_n 0, 1) := by decide +kernel
theorem dX3_findLeastSlope_1 : decode cX3_findLeastSlope 1 = .ok (.aload_n 0, 1) := by decide +kernel
theorem dX3_findLeastSlope_2 : decode cX3_findLeastSlope 2 = .ok (.aload_n 0, 1) := by decide +kernel
theorem dX3_findLeastSlope_3 : decode cX3_findLeastSlope 3 = .ok (.getfield 19, 3) := by decide +kernel
theorem dX3_findLeastSlope_6 : decode cX3_findLeastSlope 6 = .ok (.getfield 47, 3) := by decide +kernel
theorem dX3_findLeastSlope_9 : decode cX3_findLeastSlope 9 = .ok (.invokevirtual 40, 3) := by decide +kernel
theorem dX3_findLeastSlope_12 : decode cX3_findLeastSlope 12 = .ok (.aload_n 0, 1) := by decide +kernel
theorem dX3_findLeastSlope_13 : decode cX3_findLeastSlope 13 = .ok (.getfield 13, 3) := by decide +kernel
theorem dX3_findLeastSlope_16 : decode cX3_findLeastSlope 16 = .ok (.lmul, 1) := by decide +kernel
theorem dX3_findLeastSlope_17 : decode cX3_findLeastSlope 17 = .ok (.aload_n 0, 1) := by decide +kernel
theorem dX3_findLeastSlope_18 : decode cX3_findLeastSlope 18 = .ok (.getfield 44, 3) := by decide +kernel
theorem dX3_findLeastSlope_21 : decode cX3_findLeastSlope 21 = .ok (.lsub, 1) := by decide +kernel
theorem dX3_findLeastSlope_22 : decode cX3_findLeastSlope 22 = .ok (.putfield 60, 3) := by decide +kernel
theorem dX3_findLeastSlope_25 : decode cX3_findLeastSlope 25 = .ok (.aload_n 0, 1) := by decide +kernel
theorem dX3_findLeastSlope_26 : decode cX3_findLeastSlope 26 = .ok (.aload_n 0, 1) := by decide +kernel
theorem dX3_findLeastSlope_27 : decode cX3_findLeastSlope 27 = .ok (.getfield 19, 3) := by decide +kernel
theorem dX3_findLeastSlope_30 : decode cX3_findLeastSlope 30 = .ok (.invokevirtual 63, 3) := by decide +kernel
theorem dX3_findLeastSlope_33 : decode cX3_findLeastSlope 33 = .ok (.i2l, 1) := by decide +kernel
theorem dX3_findLeastSlope_34 : decode cX3_findLeastSlope 34 = .ok (.putfield 16, 3) := by decide +kernel
theorem dX3_findLeastSlope_37 : decode cX3_findLeastSlope 37 = .ok (.iconst 1, 1) := by decide +kernel
theorem dX3_findLeastSlope_38 : decode cX3_findLeastSlope 38 = .ok (.istore_n 1, 1) := by decide +kernel
theorem dX3_findLeastSlope_39 : decode cX3_findLeastSlope 39 = .ok (.iload_n 1, 1) := by decide +kernel
theorem dX3_findLeastSlope_40 : decode cX3_findLeastSlope 40 = .ok (.aload_n 0, 1) := by decide +kernel
theorem dX3_findLeastSlope_41 : decode cX3_findLeastSlope 41 = .ok (.getfield 19, 3) := by decide +kernel
theorem dX3_findLeastSlope_44 : decode cX3_findLeastSlope 44 = .ok (.getfield 47, 3) := by decide +kernel
theorem dX3_findLeastSlope_47 : decode cX3_findLeastSlope 47 = .ok (.if_icmp .ge 65, 3) := by decide +kernel
theorem dX3_findLeastSlope_50 : decode cX3_findLeastSlope 50 = .ok (.aload_n 0, 1) := by decide +kernel
theorem dX3_findLeastSlope_51 : decode cX3_findLeastSlope 51 = .ok (.iload_n 1, 1) := by decide +kernel
theorem dX3_findLeastSlope_52 : decode cX3_findLeastSlope 52 = .ok (.invokevirtual 40, 3) := by decide +kernel
theorem dX3_findLeastSlope_55 : decode cX3_findLeastSlope 55 = .ok (.aload_n 0, 1) := by decide +kernel
theorem dX3_findLeastSlope_56 : decode cX3_findLeastSlope 56 = .ok (.getfield 13, 3) := by decide +kernel
theorem dX3_findLeastSlope_59 : decode cX3_findLeastSlope 59 = .ok (.lmul, 1) := by decide +kernel
theorem dX3_findLeastSlope_60 : decode cX3_findLeastSlope 60 = .ok (.aload_n 0, 1) := by decide +kernel
theorem dX3_findLeastSlope_61 : decode cX3_findLeastSlope 61 = .ok (.getfield 44, 3) := by decide +kernel
theorem dX3_findLeastSlope_64 : decode cX3_findLeastSlope 64 = .ok (.lsub, 1) := by decide +kernel
theorem dX3_findLeastSlope_65 : decode cX3_findLeastSlope 65 = .ok (.lstore_n 2, 1) := by decide +kernel
theorem dX3_findLeastSlope_66 : decode cX3_findLeastSlope 66 = .ok (.aload_n 0, 1) := by decide +kernel
theorem dX3_findLeastSlope_67 : decode cX3_findLeastSlope 67 = .ok (.getfield 19, 3) := by decide +kernel
theorem dX3_findLeastSlope_70 : decode cX3_findLeastSlope 70 = .ok (.getfield 53, 3) := by decide +kernel
theorem dX3_findLeastSlope_73 : decode cX3_findLeastSlope 73 = .ok (.iload_n 1, 1) := by decide +kernel
theorem dX3_findLeastSlope_74 : decode cX3_findLeastSlope 74 = .ok (.iaload, 1) := by decide +kernel
theorem dX3_findLeastSlope_75 : decode cX3_findLeastSlope 75 = .ok (.i2l, 1) := by decide +kernel
theorem dX3_findLeastSlope_76 : decode cX3_findLeastSlope 76 = .ok (.lstore 4, 2) := by decide +kernel
theorem dX3_findLeastSlope_78 : decode cX3_findLeastSlope 78 = .ok (.lload_n 2, 1) := by decide +kernel
theorem dX3_findLeastSlope_79 : decode cX3_findLeastSlope 79 = .ok (.aload_n 0, 1) := by decide +kernel
theorem dX3_findLeastSlope_80 : decode cX3_findLeastSlope 80 = .ok (.getfield 16, 3) := by decide +kernel
theorem dX3_findLeastSlope_83 : decode cX3_findLeastSlope 83 = .ok (.lmul, 1) := by decide +kernel
theorem dX3_findLeastSlope_84 : decode cX3_findLeastSlope 84 = .ok (.aload_n 0, 1) := by decide +kernel
theorem dX3_findLeastSlope_85 : decode cX3_findLeastSlope 85 = .ok (.getfield 60, 3) := by decide +kernel
theorem dX3_findLeastSlope_88 : decode cX3_findLeastSlope 88 = .ok (.lload 4, 2) := by decide +kernel
theorem dX3_findLeastSlope_90 : decode cX3_findLeastSlope 90 = .ok (.lmul, 1) := by decide +kernel
theorem dX3_findLeastSlope_91 : decode cX3_findLeastSlope 91 = .ok (.lcmp, 1) := by decide +kernel
theorem dX3_findLeastSlope_92 : decode cX3_findLeastSlope 92 = .ok (.ifCond .le 14, 3) := by decide +kernel
theorem dX3_findLeastSlope_95 : decode cX3_findLeastSlope 95 = .ok (.aload_n 0, 1) := by decide +kernel
theorem dX3_findLeastSlope_96 : decode cX3_findLeastSlope 96 = .ok (.lload_n 2, 1) := by decide +kernel
theorem dX3_findLeastSlope_97 : decode cX3_findLeastSlope 97 = .ok (.putfield 60, 3) := by decide +kernel
theorem dX3_findLeastSlope_100 : decode cX3_findLeastSlope 100 = .ok (.aload_n 0, 1) := by decide +kernel
theorem dX3_findLeastSlope_101 : decode cX3_findLeastSlope 101 = .ok (.lload 4, 2) := by decide +kernel
theorem dX3_findLeastSlope_103 : decode cX3_findLeastSlope 103 = .ok (.putfield 16, 3) := by decide +kernel
theorem dX3_findLeastSlope_106 : decode cX3_findLeastSlope 106 = .ok (.iinc 1 1, 3) := by decide +kernel
theorem dX3_findLeastSlope_109 : decode cX3_findLeastSlope 109 = .ok (.goto (-70), 3) := by decide +kernel
theorem dX3_findLeastSlope_112 : decode cX3_findLeastSlope 112 = .ok (.return_, 1) := by decide +kernel
theorem dX3_heightInto_0 : decode cX3_heightInto 0 = .ok (.aload_n 0, 1) := by decide +kernel
theorem dX3_heightInto_1 : decode cX3_heightInto 1 = .ok (.getfield 44, 3) := by decide +kernel
theorem dX3_heightInto_4 : decode cX3_heightInto 4 = .ok (.aload_n 0, 1) := by decide +kernel
theorem dX3_heightInto_5 : decode cX3_heightInto 5 = .ok (.getfield 16, 3) := by decide +kernel
theorem dX3_heightInto_8 : decode cX3_heightInto 8 = .ok (.lmul, 1) := by decide +kernel
theorem dX3_heightInto_9 : decode cX3_heightInto 9 = .ok (.aload_n 0, 1) := by decide +kernel
theorem dX3_heightInto_10 : decode cX3_heightInto 10 = .ok (.getfield 60, 3) := by decide +kernel
theorem dX3_heightInto_13 : decode cX3_heightInto 13 = .ok (.aload_n 0, 1) := by decide +kernel
theorem dX3_heightInto_14 : decode cX3_heightInto 14 = .ok (.getfield 19, 3) := by decide +kernel
theorem dX3_heightInto_17 : decode cX3_heightInto 17 = .ok (.getfield 53, 3) := by decide +kernel
theorem dX3_heightInto_20 : decode cX3_heightInto 20 = .ok (.iload_n 2, 1) := by decide +kernel
theorem dX3_heightInto_21 : decode cX3_heightInto 21 = .ok (.iaload, 1) := by decide +kernel
theorem dX3_heightInto_22 : decode cX3_heightInto 22 = .ok (.i2l, 1) := by decide +kernel
theorem dX3_heightInto_23 : decode cX3_heightInto 23 = .ok (.lmul, 1) := by decide +kernel
theorem dX3_heightInto_24 : decode cX3_heightInto 24 = .ok (.ladd, 1) := by decide +kernel
theorem dX3_heightInto_25 : decode cX3_heightInto 25 = .ok (.lstore_n 3, 1) := by decide +kernel
theorem dX3_heightInto_26 : decode cX3_heightInto 26 = .ok (.aload_n 0, 1) := by decide +kernel
theorem dX3_heightInto_27 : decode cX3_heightInto 27 = .ok (.getfield 19, 3) := by decide +kernel
theorem dX3_heightInto_30 : decode cX3_heightInto 30 = .ok (.getfield 67, 3) := by decide +kernel
theorem dX3_heightInto_33 : decode cX3_heightInto 33 = .ok (.iload_n 2, 1) := by decide +kernel
theorem dX3_heightInto_34 : decode cX3_heightInto 34 = .ok (.iaload, 1) := by decide +kernel
theorem dX3_heightInto_35 : decode cX3_heightInto 35 = .ok (.i2l, 1) := by decide +kernel
theorem dX3_heightInto_36 : decode cX3_heightInto 36 = .ok (.aload_n 0, 1) := by decide +kernel
theorem dX3_heightInto_37 : decode cX3_heightInto 37 = .ok (.getfield 28, 3) := by decide +kernel
theorem dX3_heightInto_40 : decode cX3_heightInto 40 = .ok (.lmul, 1) := by decide +kernel
theorem dX3_heightInto_41 : decode cX3_heightInto 41 = .ok (.aload_n 0, 1) := by decide +kernel
theorem dX3_heightInto_42 : decode cX3_heightInto 42 = .ok (.getfield 13, 3) := by decide +kernel
theorem dX3_heightInto_45 : decode cX3_heightInto 45 = .ok (.lmul, 1) := by decide +kernel
theorem dX3_heightInto_46 : decode cX3_heightInto 46 = .ok (.aload_n 0, 1) := by decide +kernel
theorem dX3_heightInto_47 : decode cX3_heightInto 47 = .ok (.getfield 16, 3) := by decide +kernel
theorem dX3_heightInto_50 : decode cX3_heightInto 50 = .ok (.lmul, 1) := by decide +kernel
theorem dX3_heightInto_51 : decode cX3_heightInto 51 = .ok (.lstore 5, 2) := by decide +kernel
theorem dX3_heightInto_53 : decode cX3_heightInto 53 = .ok (.aload_n 1, 1) := by decide +kernel
theorem dX3_heightInto_54 : decode cX3_heightInto 54 = .ok (.lload_n 3, 1) := by decide +kernel
theorem dX3_heightInto_55 : decode cX3_heightInto 55 = .ok (.lload 5, 2) := by decide +kernel
theorem dX3_heightInto_57 : decode cX3_heightInto 57 = .ok (.ladd, 1) := by decide +kernel
theorem dX3_heightInto_58 : decode cX3_heightInto 58 = .ok (.aload_n 0, 1) := by decide +kernel
theorem dX3_heightInto_59 : decode cX3_heightInto 59 = .ok (.getfield 7, 3) := by decide +kernel
theorem dX3_heightInto_62 : decode cX3_heightInto 62 = .ok (.aload_n 0, 1) := by decide +kernel
theorem dX3_heightInto_63 : decode cX3_heightInto 63 = .ok (.getfield 13, 3) := by decide +kernel
theorem dX3_heightInto_66 : decode cX3_heightInto 66 = .ok (.lmul, 1) := by decide +kernel
theorem dX3_heightInto_67 : decode cX3_heightInto 67 = .ok (.aload_n 0, 1) := by decide +kernel
theorem dX3_heightInto_68 : decode cX3_heightInto 68 = .ok (.getfield 16, 3) := by decide +kernel
theorem dX3_heightInto_71 : decode cX3_heightInto 71 = .ok (.lmul, 1) := by decide +kernel
theorem dX3_heightInto_72 : decode cX3_heightInto 72 = .ok (.invokevirtual 70, 3) := by decide +kernel
theorem dX3_heightInto_75 : decode cX3_heightInto 75 = .ok (.return_, 1) := by decide +kernel
theorem dX3_straightLow_0 : decode cX3_straightLow 0 = .ok (.aload_n 0, 1) := by decide +kernel
theorem dX3_straightLow_1 : decode cX3_straightLow 1 = .ok (.getfield 19, 3) := by decide +kernel
theorem dX3_straightLow_4 : decode cX3_straightLow 4 = .ok (.getfield 74, 3) := by decide +kernel
theorem dX3_straightLow_7 : decode cX3_straightLow 7 = .ok (.iload_n 1, 1) := by decide +kernel
theorem dX3_straightLow_8 : decode cX3_straightLow 8 = .ok (.iaload, 1) := by decide +kernel
theorem dX3_straightLow_9 : decode cX3_straightLow 9 = .ok (.i2l, 1) := by decide +kernel
theorem dX3_straightLow_10 : decode cX3_straightLow 10 = .ok (.aload_n 0, 1) := by decide +kernel
theorem dX3_straightLow_11 : decode cX3_straightLow 11 = .ok (.getfield 7, 3) := by decide +kernel
theorem dX3_straightLow_14 : decode cX3_straightLow 14 = .ok (.lmul, 1) := by decide +kernel
theorem dX3_straightLow_15 : decode cX3_straightLow 15 = .ok (.aload_n 0, 1) := by decide +kernel
theorem dX3_straightLow_16 : decode cX3_straightLow 16 = .ok (.getfield 19, 3) := by decide +kernel
theorem dX3_straightLow_19 : decode cX3_straightLow 19 = .ok (.getfield 67, 3) := by decide +kernel
theorem dX3_straightLow_22 : decode cX3_straightLow 22 = .ok (.iload_n 1, 1) := by decide +kernel
theorem dX3_straightLow_23 : decode cX3_straightLow 23 = .ok (.iaload, 1) := by decide +kernel
theorem dX3_straightLow_24 : decode cX3_straightLow 24 = .ok (.i2l, 1) := by decide +kernel
theorem dX3_straightLow_25 : decode cX3_straightLow 25 = .ok (.aload_n 0, 1) := by decide +kernel
theorem dX3_straightLow_26 : decode cX3_straightLow 26 = .ok (.getfield 28, 3) := by decide +kernel
theorem dX3_straightLow_29 : decode cX3_straightLow 29 = .ok (.lmul, 1) := by decide +kernel
theorem dX3_straightLow_30 : decode cX3_straightLow 30 = .ok (.lsub, 1) := by decide +kernel
theorem dX3_straightLow_31 : decode cX3_straightLow 31 = .ok (.lreturn, 1) := by decide +kernel
theorem dX3_straightHigh_0 : decode cX3_straightHigh 0 = .ok (.aload_n 0, 1) := by decide +kernel
theorem dX3_straightHigh_1 : decode cX3_straightHigh 1 = .ok (.getfield 19, 3) := by decide +kernel
theorem dX3_straightHigh_4 : decode cX3_straightHigh 4 = .ok (.getfield 77, 3) := by decide +kernel
theorem dX3_straightHigh_7 : decode cX3_straightHigh 7 = .ok (.iload_n 1, 1) := by decide +kernel
theorem dX3_straightHigh_8 : decode cX3_straightHigh 8 = .ok (.iaload, 1) := by decide +kernel
theorem dX3_straightHigh_9 : decode cX3_straightHigh 9 = .ok (.i2l, 1) := by decide +kernel
theorem dX3_straightHigh_10 : decode cX3_straightHigh 10 = .ok (.aload_n 0, 1) := by decide +kernel
theorem dX3_straightHigh_11 : decode cX3_straightHigh 11 = .ok (.getfield 7, 3) := by decide +kernel
theorem dX3_straightHigh_14 : decode cX3_straightHigh 14 = .ok (.lmul, 1) := by decide +kernel
theorem dX3_straightHigh_15 : decode cX3_straightHigh 15 = .ok (.aload_n 0, 1) := by decide +kernel
theorem dX3_straightHigh_16 : decode cX3_straightHigh 16 = .ok (.getfield 19, 3) := by decide +kernel
theorem dX3_straightHigh_19 : decode cX3_straightHigh 19 = .ok (.getfield 67, 3) := by decide +kernel
theorem dX3_straightHigh_22 : decode cX3_straightHigh 22 = .ok (.iload_n 1, 1) := by decide +kernel
theorem dX3_straightHigh_23 : decode cX3_straightHigh 23 = .ok (.iaload, 1) := by decide +kernel
theorem dX3_straightHigh_24 : decode cX3_straightHigh 24 = .ok (.i2l, 1) := by decide +kernel
theorem dX3_straightHigh_25 : decode cX3_straightHigh 25 = .ok (.aload_n 0, 1) := by decide +kernel
theorem dX3_straightHigh_26 : decode cX3_straightHigh 26 = .ok (.getfield 28, 3) := by decide +kernel
theorem dX3_straightHigh_29 : decode cX3_straightHigh 29 = .ok (.lmul, 1) := by decide +kernel
theorem dX3_straightHigh_30 : decode cX3_straightHigh 30 = .ok (.lsub, 1) := by decide +kernel
theorem dX3_straightHigh_31 : decode cX3_straightHigh 31 = .ok (.lreturn, 1) := by decide +kernel
theorem dX4_init_0 : decode cX4_init 0 = .ok (.aload_n 0, 1) := by decide +kernel
theorem dX4_init_1 : decode cX4_init 1 = .ok (.invokespecial 3, 3) := by decide +kernel
theorem dX4_init_4 : decode cX4_init 4 = .ok (.aload_n 0, 1) := by decide +kernel
theorem dX4_init_5 : decode cX4_init 5 = .ok (.bipush 28, 2) := by decide +kernel
theorem dX4_init_7 : decode cX4_init 7 = .ok (.newarray .int, 2) := by decide +kernel
theorem dX4_init_9 : decode cX4_init 9 = .ok (.putfield 9, 3) := by decide +kernel
theorem dX4_init_12 : decode cX4_init 12 = .ok (.return_, 1) := by decide +kernel
theorem dX4_hold_0 : decode cX4_hold 0 = .ok (.aload_n 0, 1) := by decide +kernel
theorem dX4_hold_1 : decode cX4_hold 1 = .ok (.iconst 1, 1) := by decide +kernel
theorem dX4_hold_2 : decode cX4_hold 2 = .ok (.putfield 15, 3) := by decide +kernel
theorem dX4_hold_5 : decode cX4_hold 5 = .ok (.aload_n 0, 1) := by decide +kernel
theorem dX4_hold_6 : decode cX4_hold 6 = .ok (.iload_n 1, 1) := by decide +kernel
theorem dX4_hold_7 : decode cX4_hold 7 = .ok (.putfield 19, 3) := by decide +kernel
theorem dX4_hold_10 : decode cX4_hold 10 = .ok (.aload_n 0, 1) := by decide +kernel
theorem dX4_hold_11 : decode cX4_hold 11 = .ok (.iload_n 2, 1) := by decide +kernel
theorem dX4_hold_12 : decode cX4_hold 12 = .ok (.putfield 23, 3) := by decide +kernel
theorem dX4_hold_15 : decode cX4_hold 15 = .ok (.aload_n 0, 1) := by decide +kernel
theorem dX4_hold_16 : decode cX4_hold 16 = .ok (.getfield 9, 3) := by decide +kernel
theorem dX4_hold_19 : decode cX4_hold 19 = .ok (.iconst 0, 1) := by decide +kernel
theorem dX4_hold_20 : decode cX4_hold 20 = .ok (.invokestatic 26, 3) := by decide +kernel
theorem dX4_hold_23 : decode cX4_hold 23 = .ok (.return_, 1) := by decide +kernel
theorem dX5_init_0 : decode cX5_init 0 = .ok (.aload_n 0, 1) := by decide +kernel
theorem dX5_init_1 : decode cX5_init 1 = .ok (.invokespecial 1, 3) := by decide +kernel
theorem dX5_init_4 : decode cX5_init 4 = .ok (.aload_n 0, 1) := by decide +kernel
theorem dX5_init_5 : decode cX5_init 5 = .ok (.bipush 36, 2) := by decide +kernel
theorem dX5_init_7 : decode cX5_init 7 = .ok (.newarray .long, 2) := by decide +kernel
theorem dX5_init_9 : decode cX5_init 9 = .ok (.putfield 9, 3) := by decide +kernel
theorem dX5_init_12 : decode cX5_init 12 = .ok (.aload_n 0, 1) := by decide +kernel
theorem dX5_init_13 : decode cX5_init 13 = .ok (.bipush 36, 2) := by decide +kernel
theorem dX5_init_15 : decode cX5_init 15 = .ok (.newarray .long, 2) := by decide +kernel
theorem dX5_init_17 : decode cX5_init 17 = .ok (.putfield 13, 3) := by decide +kernel
theorem dX5_init_20 : decode cX5_init 20 = .ok (.aload_n 0, 1) := by decide +kernel
theorem dX5_init_21 : decode cX5_init 21 = .ok (.bipush 36, 2) := by decide +kernel
theorem dX5_init_23 : decode cX5_init 23 = .ok (.newarray .long, 2) := by decide +kernel
theorem dX5_init_25 : decode cX5_init 25 = .ok (.putfield 16, 3) := by decide +kernel
theorem dX5_init_28 : decode cX5_init 28 = .ok (.aload_n 0, 1) := by decide +kernel
theorem dX5_init_29 : decode cX5_init 29 = .ok (.aload_n 1, 1) := by decide +kernel
theorem dX5_init_30 : decode cX5_init 30 = .ok (.putfield 19, 3) := by decide +kernel
theorem dX5_init_33 : decode cX5_init 33 = .ok (.aload_n 0, 1) := by decide +kernel
theorem dX5_init_34 : decode cX5_init 34 = .ok (.getfield 16, 3) := by decide +kernel
theorem dX5_init_37 : decode cX5_init 37 = .ok (.iconst 0, 1) := by decide +kernel
theorem dX5_init_38 : decode cX5_init 38 = .ok (.lconst 1, 1) := by decide +kernel
theorem dX5_init_39 : decode cX5_init 39 = .ok (.lastore, 1) := by decide +kernel
theorem dX5_init_40 : decode cX5_init 40 = .ok (.return_, 1) := by decide +kernel
theorem dX5_gather_0 : decode cX5_gather 0 = .ok (.aload_n 0, 1) := by decide +kernel
theorem dX5_gather_1 : decode cX5_gather 1 = .ok (.getfield 19, 3) := by decide +kernel
theorem dX5_gather_4 : decode cX5_gather 4 = .ok (.aload_n 1, 1) := by decide +kernel
theorem dX5_gather_5 : decode cX5_gather 5 = .ok (.invokevirtual 23, 3) := by decide +kernel
theorem dX5_gather_8 : decode cX5_gather 8 = .ok (.aload_n 0, 1) := by decide +kernel
theorem dX5_gather_9 : decode cX5_gather 9 = .ok (.iconst 0, 1) := by decide +kernel
theorem dX5_gather_10 : decode cX5_gather 10 = .ok (.putfield 29, 3) := by decide +kernel
theorem dX5_gather_13 : decode cX5_gather 13 = .ok (.iconst 0, 1) := by decide +kernel
theorem dX5_gather_14 : decode cX5_gather 14 = .ok (.istore_n 2, 1) := by decide +kernel
theorem dX5_gather_15 : decode cX5_gather 15 = .ok (.iload_n 2, 1) := by decide +kernel
theorem dX5_gather_16 : decode cX5_gather 16 = .ok (.aload_n 0, 1) := by decide +kernel
theorem dX5_gather_17 : decode cX5_gather 17 = .ok (.getfield 19, 3) := by decide +kernel
theorem dX5_gather_20 : decode cX5_gather 20 = .ok (.getfield 33, 3) := by decide +kernel
theorem dX5_gather_23 : decode cX5_gather 23 = .ok (.iconst 2, 1) := by decide +kernel
theorem dX5_gather_24 : decode cX5_gather 24 = .ok (.isub, 1) := by decide +kernel
theorem dX5_gather_25 : decode cX5_gather 25 = .ok (.if_icmp .gt 174, 3) := by decide +kernel
theorem dX5_gather_28 : decode cX5_gather 28 = .ok (.iload_n 2, 1) := by decide +kernel
theorem dX5_gather_29 : decode cX5_gather 29 = .ok (.iconst 1, 1) := by decide +kernel
theorem dX5_gather_30 : decode cX5_gather 30 = .ok (.iadd, 1) := by decide +kernel
theorem dX5_gather_31 : decode cX5_gather 31 = .ok (.istore_n 3, 1) := by decide +kernel
theorem dX5_gather_32 : decode cX5_gather 32 = .ok (.iload_n 3, 1) := by decide +kernel
theorem dX5_gather_33 : decode cX5_gather 33 = .ok (.aload_n 0, 1) := by decide +kernel
theorem dX5_gather_34 : decode cX5_gather 34 = .ok (.getfield 19, 3) := by decide +kernel
theorem dX5_gather_37 : decode cX5_gather 37 = .ok (.getfield 33, 3) := by decide +kernel
theorem dX5_gather_40 : decode cX5_gather 40 = .ok (.if_icmp .ge 153, 3) := by decide +kernel
theorem dX5_gather_43 : decode cX5_gather 43 = .ok (.iload_n 3, 1) := by decide +kernel
theorem dX5_gather_44 : decode cX5_gather 44 = .ok (.iconst 1, 1) := by decide +kernel
theorem dX5_gather_45 : decode cX5_gather 45 = .ok (.iadd, 1) := by decide +kernel
theorem dX5_gather_46 : decode cX5_gather 46 = .ok (.istore 4, 2) := by decide +kernel
theorem dX5_gather_48 : decode cX5_gather 48 = .ok (.iload 4, 2) := by decide +kernel
theorem dX5_gather_50 : decode cX5_gather 50 = .ok (.aload_n 0, 1) := by decide +kernel
theorem dX5_gather_51 : decode cX5_gather 51 = .ok (.getfield 19, 3) := by decide +kernel
theorem dX5_gather_54 : decode cX5_gather 54 = .ok (.getfield 33, 3) := by decide +kernel
theorem dX5_gather_57 : decode cX5_gather 57 = .ok (.if_icmp .gt 130, 3) := by decide +kernel
theorem dX5_gather_60 : decode cX5_gather 60 = .ok (.aload_n 0, 1) := by decide +kernel
theorem dX5_gather_61 : decode cX5_gather 61 = .ok (.getfield 29, 3) := by decide +kernel
theorem dX5_gather_64 : decode cX5_gather 64 = .ok (.bipush 35, 2) := by decide +kernel
theorem dX5_gather_66 : decode cX5_gather 66 = .ok (.if_icmp .ge 121, 3) := by decide +kernel
theorem dX5_gather_69 : decode cX5_gather 69 = .ok (.aload_n 0, 1) := by decide +kernel
theorem dX5_gather_70 : decode cX5_gather 70 = .ok (.dup, 1) := by decide +kernel
theorem dX5_gather_71 : decode cX5_gather 71 = .ok (.getfield 29, 3) := by decide +kernel
theorem dX5_gather_74 : decode cX5_gather 74 = .ok (.iconst 1, 1) := by decide +kernel
theorem dX5_gather_75 : decode cX5_gather 75 = .ok (.iadd, 1) := by decide +kernel
theorem dX5_gather_76 : decode cX5_gather 76 = .ok (.putfield 29, 3) := by decide +kernel
theorem dX5_gather_79 : decode cX5_gather 79 = .ok (.aload_n 0, 1) := by decide +kernel
theorem dX5_gather_80 : decode cX5_gather 80 = .ok (.getfield 19, 3) := by decide +kernel
theorem dX5_gather_83 : decode cX5_gather 83 = .ok (.aload_n 0, 1) := by decide +kernel
theorem dX5_gather_84 : decode cX5_gather 84 = .ok (.getfield 19, 3) := by decide +kernel
theorem dX5_gather_87 : decode cX5_gather 87 = .ok (.getfield 36, 3) := by decide +kernel
theorem dX5_gather_90 : decode cX5_gather 90 = .ok (.aload_n 0, 1) := by decide +kernel
theorem dX5_gather_91 : decode cX5_gather 91 = .ok (.getfield 19, 3) := by decide +kernel
theorem dX5_gather_94 : decode cX5_gather 94 = .ok (.getfield 40, 3) := by decide +kernel
theorem dX5_gather_97 : decode cX5_gather 97 = .ok (.iload_n 2, 1) := by decide +kernel
theorem dX5_gather_98 : decode cX5_gather 98 = .ok (.iload_n 3, 1) := by decide +kernel
theorem dX5_gather_99 : decode cX5_gather 99 = .ok (.iload 4, 2) := by decide +kernel
theorem dX5_gather_101 : decode cX5_gather 101 = .ok (.invokevirtual 43, 3) := by decide +kernel
theorem dX5_gather_104 : decode cX5_gather 104 = .ok (.lstore 5, 2) := by decide +kernel
theorem dX5_gather_106 : decode cX5_gather 106 = .ok (.aload_n 0, 1) := by decide +kernel
theorem dX5_gather_107 : decode cX5_gather 107 = .ok (.getfield 19, 3) := by decide +kernel
theorem dX5_gather_110 : decode cX5_gather 110 = .ok (.aload_n 0, 1) := by decide +kernel
theorem dX5_gather_111 : decode cX5_gather 111 = .ok (.getfield 19, 3) := by decide +kernel
theorem dX5_gather_114 : decode cX5_gather 114 = .ok (.getfield 40, 3) := by decide +kernel
theorem dX5_gather_117 : decode cX5_gather 117 = .ok (.aload_n 0, 1) := by decide +kernel
theorem dX5_gather_118 : decode cX5_gather 118 = .ok (.getfield 19, 3) := by decide +kernel
theorem dX5_gather_121 : decode cX5_gather 121 = .ok (.getfield 36, 3) := by decide +kernel
theorem dX5_gather_124 : decode cX5_gather 124 = .ok (.iload_n 2, 1) := by decide +kernel
theorem dX5_gather_125 : decode cX5_gather 125 = .ok (.iload_n 3, 1) := by decide +kernel
theorem dX5_gather_126 : decode cX5_gather 126 = .ok (.iload 4, 2) := by decide +kernel
theorem dX5_gather_128 : decode cX5_gather 128 = .ok (.invokevirtual 43, 3) := by decide +kernel
theorem dX5_gather_131 : decode cX5_gather 131 = .ok (.lstore 7, 2) := by decide +kernel
theorem dX5_gather_133 : decode cX5_gather 133 = .ok (.aload_n 0, 1) := by decide +kernel
theorem dX5_gather_134 : decode cX5_gather 134 = .ok (.getfield 9, 3) := by decide +kernel
theorem dX5_gather_137 : decode cX5_gather 137 = .ok (.aload_n 0, 1) := by decide +kernel
theorem dX5_gather_138 : decode cX5_gather 138 = .ok (.getfield 29, 3) := by decide +kernel
theorem dX5_gather_141 : decode cX5_gather 141 = .ok (.lload 5, 2) := by decide +kernel
theorem dX5_gather_143 : decode cX5_gather 143 = .ok (.lload 7, 2) := by decide +kernel
theorem dX5_gather_145 : decode cX5_gather 145 = .ok (.ladd, 1) := by decide +kernel
theorem dX5_gather_146 : decode cX5_gather 146 = .ok (.lastore, 1) := by decide +kernel
theorem dX5_gather_147 : decode cX5_gather 147 = .ok (.aload_n 0, 1) := by decide +kernel
theorem dX5_gather_148 : decode cX5_gather 148 = .ok (.getfield 13, 3) := by decide +kernel
theorem dX5_gather_151 : decode cX5_gather 151 = .ok (.aload_n 0, 1) := by decide +kernel
theorem dX5_gather_152 : decode cX5_gather 152 = .ok (.getfield 29, 3) := by decide +kernel
theorem dX5_gather_155 : decode cX5_gather 155 = .ok (.lload 7, 2) := by decide +kernel
theorem dX5_gather_157 : decode cX5_gather 157 = .ok (.lload 5, 2) := by decide +kernel
theorem dX5_gather_159 : decode cX5_gather 159 = .ok (.lsub, 1) := by decide +kernel
theorem dX5_gather_160 : decode cX5_gather 160 = .ok (.lastore, 1) := by decide +kernel
theorem dX5_gather_161 : decode cX5_gather 161 = .ok (.aload_n 0, 1) := by decide +kernel
theorem dX5_gather_162 : decode cX5_gather 162 = .ok (.getfield 16, 3) := by decide +kernel
theorem dX5_gather_165 : decode cX5_gather 165 = .ok (.aload_n 0, 1) := by decide +kernel
theorem dX5_gather_166 : decode cX5_gather 166 = .ok (.getfield 29, 3) := by decide +kernel
theorem dX5_gather_169 : decode cX5_gather 169 = .ok (.aload_n 0, 1) := by decide +kernel
theorem dX5_gather_170 : decode cX5_gather 170 = .ok (.getfield 19, 3) := by decide +kernel
theorem dX5_gather_173 : decode cX5_gather 173 = .ok (.iload_n 2, 1) := by decide +kernel
theorem dX5_gather_174 : decode cX5_gather 174 = .ok (.iload_n 3, 1) := by decide +kernel
theorem dX5_gather_175 : decode cX5_gather 175 = .ok (.iload 4, 2) := by decide +kernel
theorem dX5_gather_177 : decode cX5_gather 177 = .ok (.invokevirtual 47, 3) := by decide +kernel
theorem dX5_gather_180 : decode cX5_gather 180 = .ok (.lastore, 1) := by decide +kernel
theorem dX5_gather_181 : decode cX5_gather 181 = .ok (.iinc 4 1, 3) := by decide +kernel
theorem dX5_gather_184 : decode cX5_gather 184 = .ok (.goto (-136), 3) := by decide +kernel
theorem dX5_gather_187 : decode cX5_gather 187 = .ok (.iinc 3 1, 3) := by decide +kernel
theorem dX5_gather_190 : decode cX5_gather 190 = .ok (.goto (-158), 3) := by decide +kernel
theorem dX5_gather_193 : decode cX5_gather 193 = .ok (.iinc 2 1, 3) := by decide +kernel
theorem dX5_gather_196 : decode cX5_gather 196 = .ok (.goto (-181), 3) := by decide +kernel
theorem dX5_gather_199 : decode cX5_gather 199 = .ok (.return_, 1) := by decide +kernel
theorem dX5_hold_0 : decode cX5_hold 0 = .ok (.iconst 1, 1) := by decide +kernel
theorem dX5_hold_1 : decode cX5_hold 1 = .ok (.istore_n 1, 1) := by decide +kernel
theorem dX5_hold_2 : decode cX5_hold 2 = .ok (.iload_n 1, 1) := by decide +kernel
theorem dX5_hold_3 : decode cX5_hold 3 = .ok (.aload_n 0, 1) := by decide +kernel
theorem dX5_hold_4 : decode cX5_hold 4 = .ok (.getfield 29, 3) := by decide +kernel
theorem dX5_hold_7 : decode cX5_hold 7 = .ok (.if_icmp .gt 41, 3) := by decide +kernel
theorem dX5_hold_10 : decode cX5_hold 10 = .ok (.aload_n 0, 1) := by decide +kernel
theorem dX5_hold_11 : decode cX5_hold 11 = .ok (.getfield 16, 3) := by decide +kernel
theorem dX5_hold_14 : decode cX5_hold 14 = .ok (.iload_n 1, 1) := by decide +kernel
theorem dX5_hold_15 : decode cX5_hold 15 = .ok (.laload, 1) := by decide +kernel
theorem dX5_hold_16 : decode cX5_hold 16 = .ok (.lconst 0, 1) := by decide +kernel
theorem dX5_hold_17 : decode cX5_hold 17 = .ok (.lcmp, 1) := by decide +kernel
theorem dX5_hold_18 : decode cX5_hold 18 = .ok (.ifCond .ne 24, 3) := by decide +kernel
theorem dX5_hold_21 : decode cX5_hold 21 = .ok (.aload_n 0, 1) := by decide +kernel
theorem dX5_hold_22 : decode cX5_hold 22 = .ok (.getfield 9, 3) := by decide +kernel
theorem dX5_hold_25 : decode cX5_hold 25 = .ok (.iload_n 1, 1) := by decide +kernel
theorem dX5_hold_26 : decode cX5_hold 26 = .ok (.laload, 1) := by decide +kernel
theorem dX5_hold_27 : decode cX5_hold 27 = .ok (.invokestatic 50, 3) := by decide +kernel
theorem dX5_hold_30 : decode cX5_hold 30 = .ok (.aload_n 0, 1) := by decide +kernel
theorem dX5_hold_31 : decode cX5_hold 31 = .ok (.getfield 13, 3) := by decide +kernel
theorem dX5_hold_34 : decode cX5_hold 34 = .ok (.iload_n 1, 1) := by decide +kernel
theorem dX5_hold_35 : decode cX5_hold 35 = .ok (.laload, 1) := by decide +kernel
theorem dX5_hold_36 : decode cX5_hold 36 = .ok (.lcmp, 1) := by decide +kernel
theorem dX5_hold_37 : decode cX5_hold 37 = .ok (.ifCond .le 5, 3) := by decide +kernel
theorem dX5_hold_40 : decode cX5_hold 40 = .ok (.iconst 0, 1) := by decide +kernel
theorem dX5_hold_41 : decode cX5_hold 41 = .ok (.ireturn, 1) := by decide +kernel
theorem dX5_hold_42 : decode cX5_hold 42 = .ok (.iinc 1 1, 3) := by decide +kernel
theorem dX5_hold_45 : decode cX5_hold 45 = .ok (.goto (-43), 3) := by decide +kernel
theorem dX5_hold_48 : decode cX5_hold 48 = .ok (.aload_n 0, 1) := by decide +kernel
theorem dX5_hold_49 : decode cX5_hold 49 = .ok (.aload_n 0, 1) := by decide +kernel
theorem dX5_hold_50 : decode cX5_hold 50 = .ok (.lconst 1, 1) := by decide +kernel
theorem dX5_hold_51 : decode cX5_hold 51 = .ok (.lconst 1, 1) := by decide +kernel
theorem dX5_hold_52 : decode cX5_hold 52 = .ok (.invokevirtual 56, 3) := by decide +kernel
theorem dX5_hold_55 : decode cX5_hold 55 = .ok (.aload_n 0, 1) := by decide +kernel
theorem dX5_hold_56 : decode cX5_hold 56 = .ok (.lconst 1, 1) := by decide +kernel
theorem dX5_hold_57 : decode cX5_hold 57 = .ok (.lconst 1, 1) := by decide +kernel
theorem dX5_hold_58 : decode cX5_hold 58 = .ok (.invokevirtual 60, 3) := by decide +kernel
theorem dX5_hold_61 : decode cX5_hold 61 = .ok (.lconst 1, 1) := by decide +kernel
theorem dX5_hold_62 : decode cX5_hold 62 = .ok (.lconst 1, 1) := by decide +kernel
theorem dX5_hold_63 : decode cX5_hold 63 = .ok (.invokevirtual 63, 3) := by decide +kernel
theorem dX5_hold_66 : decode cX5_hold 66 = .ok (.ifCond .ne 7, 3) := by decide +kernel
theorem dX5_hold_69 : decode cX5_hold 69 = .ok (.iconst 1, 1) := by decide +kernel
theorem dX5_hold_70 : decode cX5_hold 70 = .ok (.goto 4, 3) := by decide +kernel
theorem dX5_hold_73 : decode cX5_hold 73 = .ok (.iconst 0, 1) := by decide +kernel
theorem dX5_hold_74 : decode cX5_hold 74 = .ok (.ireturn, 1) := by decide +kernel
theorem dX5_greatestPush_0 : decode cX5_greatestPush 0 = .ok (.aload_n 0, 1) := by decide +kernel
theorem dX5_greatestPush_1 : decode cX5_greatestPush 1 = .ok (.lconst 1, 1) := by decide +kernel
theorem dX5_greatestPush_2 : decode cX5_greatestPush 2 = .ok (.lconst 1, 1) := by decide +kernel
theorem dX5_greatestPush_3 : decode cX5_greatestPush 3 = .ok (.invokevirtual 60, 3) := by decide +kernel
theorem dX5_greatestPush_6 : decode cX5_greatestPush 6 = .ok (.istore_n 2, 1) := by decide +kernel
theorem dX5_greatestPush_7 : decode cX5_greatestPush 7 = .ok (.iload_n 2, 1) := by decide +kernel
theorem dX5_greatestPush_8 : decode cX5_greatestPush 8 = .ok (.ifCond .ne 5, 3) := by decide +kernel
theorem dX5_greatestPush_11 : decode cX5_greatestPush 11 = .ok (.iconst 0, 1) := by decide +kernel
theorem dX5_greatestPush_12 : decode cX5_greatestPush 12 = .ok (.ireturn, 1) := by decide +kernel
theorem dX5_greatestPush_13 : decode cX5_greatestPush 13 = .ok (.aload_n 1, 1) := by decide +kernel
theorem dX5_greatestPush_14 : decode cX5_greatestPush 14 = .ok (.aload_n 0, 1) := by decide +kernel
theorem dX5_greatestPush_15 : decode cX5_greatestPush 15 = .ok (.getfield 9, 3) := by decide +kernel
theorem dX5_greatestPush_18 : decode cX5_greatestPush 18 = .ok (.iload_n 2, 1) := by decide +kernel
theorem dX5_greatestPush_19 : decode cX5_greatestPush 19 = .ok (.laload, 1) := by decide +kernel
theorem dX5_greatestPush_20 : decode cX5_greatestPush 20 = .ok (.aload_n 0, 1) := by decide +kernel
theorem dX5_greatestPush_21 : decode cX5_greatestPush 21 = .ok (.getfield 13, 3) := by decide +kernel
theorem dX5_greatestPush_24 : decode cX5_greatestPush 24 = .ok (.iload_n 2, 1) := by decide +kernel
theorem dX5_greatestPush_25 : decode cX5_greatestPush 25 = .ok (.laload, 1) := by decide +kernel
theorem dX5_greatestPush_26 : decode cX5_greatestPush 26 = .ok (.ladd, 1) := by decide +kernel
theorem dX5_greatestPush_27 : decode cX5_greatestPush 27 = .ok (.ldc2_w 67, 3) := by decide +kernel
theorem dX5_greatestPush_30 : decode cX5_greatestPush 30 = .ok (.aload_n 0, 1) := by decide +kernel
theorem dX5_greatestPush_31 : decode cX5_greatestPush 31 = .ok (.getfield 16, 3) := by decide +kernel
theorem dX5_greatestPush_34 : decode cX5_greatestPush 34 = .ok (.iload_n 2, 1) := by decide +kernel
theorem dX5_greatestPush_35 : decode cX5_greatestPush 35 = .ok (.laload, 1) := by decide +kernel
theorem dX5_greatestPush_36 : decode cX5_greatestPush 36 = .ok (.lmul, 1) := by decide +kernel
theorem dX5_greatestPush_37 : decode cX5_greatestPush 37 = .ok (.invokevirtual 69, 3) := by decide +kernel
theorem dX5_greatestPush_40 : decode cX5_greatestPush 40 = .ok (.iconst 1, 1) := by decide +kernel
theorem dX5_greatestPush_41 : decode cX5_greatestPush 41 = .ok (.ireturn, 1) := by decide +kernel
theorem dX5_leastPush_0 : decode cX5_leastPush 0 = .ok (.aload_n 0, 1) := by decide +kernel
theorem dX5_leastPush_1 : decode cX5_leastPush 1 = .ok (.lconst 1, 1) := by decide +kernel
theorem dX5_leastPush_2 : decode cX5_leastPush 2 = .ok (.lconst 1, 1) := by decide +kernel
theorem dX5_leastPush_3 : decode cX5_leastPush 3 = .ok (.invokevirtual 56, 3) := by decide +kernel
theorem dX5_leastPush_6 : decode cX5_leastPush 6 = .ok (.istore_n 2, 1) := by decide +kernel
theorem dX5_leastPush_7 : decode cX5_leastPush 7 = .ok (.iload_n 2, 1) := by decide +kernel
theorem dX5_leastPush_8 : decode cX5_leastPush 8 = .ok (.ifCond .ne 5, 3) := by decide +kernel
theorem dX5_leastPush_11 : decode cX5_leastPush 11 = .ok (.iconst 0, 1) := by decide +kernel
theorem dX5_leastPush_12 : decode cX5_leastPush 12 = .ok (.ireturn, 1) := by decide +kernel
theorem dX5_leastPush_13 : decode cX5_leastPush 13 = .ok (.aload_n 1, 1) := by decide +kernel
theorem dX5_leastPush_14 : decode cX5_leastPush 14 = .ok (.aload_n 0, 1) := by decide +kernel
theorem dX5_leastPush_15 : decode cX5_leastPush 15 = .ok (.getfield 9, 3) := by decide +kernel
theorem dX5_leastPush_18 : decode cX5_leastPush 18 = .ok (.iload_n 2, 1) := by decide +kernel
theorem dX5_leastPush_19 : decode cX5_leastPush 19 = .ok (.laload, 1) := by decide +kernel
theorem dX5_leastPush_20 : decode cX5_leastPush 20 = .ok (.aload_n 0, 1) := by decide +kernel
theorem dX5_leastPush_21 : decode cX5_leastPush 21 = .ok (.getfield 13, 3) := by decide +kernel
theorem dX5_leastPush_24 : decode cX5_leastPush 24 = .ok (.iload_n 2, 1) := by decide +kernel
theorem dX5_leastPush_25 : decode cX5_leastPush 25 = .ok (.laload, 1) := by decide +kernel
theorem dX5_leastPush_26 : decode cX5_leastPush 26 = .ok (.lsub, 1) := by decide +kernel
theorem dX5_leastPush_27 : decode cX5_leastPush 27 = .ok (.ldc2_w 67, 3) := by decide +kernel
theorem dX5_leastPush_30 : decode cX5_leastPush 30 = .ok (.aload_n 0, 1) := by decide +kernel
theorem dX5_leastPush_31 : decode cX5_leastPush 31 = .ok (.getfield 16, 3) := by decide +kernel
theorem dX5_leastPush_34 : decode cX5_leastPush 34 = .ok (.iload_n 2, 1) := by decide +kernel
theorem dX5_leastPush_35 : decode cX5_leastPush 35 = .ok (.laload, 1) := by decide +kernel
theorem dX5_leastPush_36 : decode cX5_leastPush 36 = .ok (.lmul, 1) := by decide +kernel
theorem dX5_leastPush_37 : decode cX5_leastPush 37 = .ok (.invokevirtual 69, 3) := by decide +kernel
theorem dX5_leastPush_40 : decode cX5_leastPush 40 = .ok (.iconst 1, 1) := by decide +kernel
theorem dX5_leastPush_41 : decode cX5_leastPush 41 = .ok (.ireturn, 1) := by decide +kernel
theorem dX5_leastFactor_0 : decode cX5_leastFactor 0 = .ok (.aload_n 0, 1) := by decide +kernel
theorem dX5_leastFactor_1 : decode cX5_leastFactor 1 = .ok (.aload_n 1, 1) := by decide +kernel
theorem dX5_leastFactor_2 : decode cX5_leastFactor 2 = .ok (.invokevirtual 75, 3) := by decide +kernel
theorem dX5_leastFactor_5 : decode cX5_leastFactor 5 = .ok (.ifCond .ne 5, 3) := by decide +kernel
theorem dX5_leastFactor_8 : decode cX5_leastFactor 8 = .ok (.iconst 0, 1) := by decide +kernel
theorem dX5_leastFactor_9 : decode cX5_leastFactor 9 = .ok (.ireturn, 1) := by decide +kernel
theorem dX5_leastFactor_10 : decode cX5_leastFactor 10 = .ok (.iconst 0, 1) := by decide +kernel
theorem dX5_leastFactor_11 : decode cX5_leastFactor 11 = .ok (.istore_n 2, 1) := by decide +kernel
theorem dX5_leastFactor_12 : decode cX5_leastFactor 12 = .ok (.iload_n 2, 1) := by decide +kernel
theorem dX5_leastFactor_13 : decode cX5_leastFactor 13 = .ok (.sipush 1260, 3) := by decide +kernel
theorem dX5_leastFactor_16 : decode cX5_leastFactor 16 = .ok (.if_icmp .gt 131, 3) := by decide +kernel
theorem dX5_leastFactor_19 : decode cX5_leastFactor 19 = .ok (.aload_n 0, 1) := by decide +kernel
theorem dX5_leastFactor_20 : decode cX5_leastFactor 20 = .ok (.aload_n 1, 1) := by decide +kernel
theorem dX5_leastFactor_21 : decode cX5_leastFactor 21 = .ok (.getfield 79, 3) := by decide +kernel
theorem dX5_leastFactor_24 : decode cX5_leastFactor 24 = .ok (.aload_n 1, 1) := by decide +kernel
theorem dX5_leastFactor_25 : decode cX5_leastFactor 25 = .ok (.getfield 83, 3) := by decide +kernel
theorem dX5_leastFactor_28 : decode cX5_leastFactor 28 = .ok (.invokevirtual 56, 3) := by decide +kernel
theorem dX5_leastFactor_31 : decode cX5_leastFactor 31 = .ok (.istore_n 3, 1) := by decide +kernel
theorem dX5_leastFactor_32 : decode cX5_leastFactor 32 = .ok (.aload_n 0, 1) := by decide +kernel
theorem dX5_leastFactor_33 : decode cX5_leastFactor 33 = .ok (.aload_n 1, 1) := by decide +kernel
theorem dX5_leastFactor_34 : decode cX5_leastFactor 34 = .ok (.getfield 79, 3) := by decide +kernel
theorem dX5_leastFactor_37 : decode cX5_leastFactor 37 = .ok (.aload_n 1, 1) := by decide +kernel
theorem dX5_leastFactor_38 : decode cX5_leastFactor 38 = .ok (.getfield 83, 3) := by decide +kernel
theorem dX5_leastFactor_41 : decode cX5_leastFactor 41 = .ok (.invokevirtual 60, 3) := by decide +kernel
theorem dX5_leastFactor_44 : decode cX5_leastFactor 44 = .ok (.istore 4, 2) := by decide +kernel
theorem dX5_leastFactor_46 : decode cX5_leastFactor 46 = .ok (.aload_n 0, 1) := by decide +kernel
theorem dX5_leastFactor_47 : decode cX5_leastFactor 47 = .ok (.iload_n 3, 1) := by decide +kernel
theorem dX5_leastFactor_48 : decode cX5_leastFactor 48 = .ok (.iload 4, 2) := by decide +kernel
theorem dX5_leastFactor_50 : decode cX5_leastFactor 50 = .ok (.aload_n 1, 1) := by decide +kernel
theorem dX5_leastFactor_51 : decode cX5_leastFactor 51 = .ok (.getfield 79, 3) := by decide +kernel
theorem dX5_leastFactor_54 : decode cX5_leastFactor 54 = .ok (.aload_n 1, 1) := by decide +kernel
theorem dX5_leastFactor_55 : decode cX5_leastFactor 55 = .ok (.getfield 83, 3) := by decide +kernel
theorem dX5_leastFactor_58 : decode cX5_leastFactor 58 = .ok (.invokevirtual 63, 3) := by decide +kernel
theorem dX5_leastFactor_61 : decode cX5_leastFactor 61 = .ok (.ifCond .ne 5, 3) := by decide +kernel
theorem dX5_leastFactor_64 : decode cX5_leastFactor 64 = .ok (.iconst 1, 1) := by decide +kernel
theorem dX5_leastFactor_65 : decode cX5_leastFactor 65 = .ok (.ireturn, 1) := by decide +kernel
theorem dX5_leastFactor_66 : decode cX5_leastFactor 66 = .ok (.aload_n 0, 1) := by decide +kernel
theorem dX5_leastFactor_67 : decode cX5_leastFactor 67 = .ok (.getfield 13, 3) := by decide +kernel
theorem dX5_leastFactor_70 : decode cX5_leastFactor 70 = .ok (.iload 4, 2) := by decide +kernel
theorem dX5_leastFactor_72 : decode cX5_leastFactor 72 = .ok (.laload, 1) := by decide +kernel
theorem dX5_leastFactor_73 : decode cX5_leastFactor 73 = .ok (.aload_n 0, 1) := by decide +kernel
theorem dX5_leastFactor_74 : decode cX5_leastFactor 74 = .ok (.getfield 16, 3) := by decide +kernel
theorem dX5_leastFactor_77 : decode cX5_leastFactor 77 = .ok (.iload_n 3, 1) := by decide +kernel
theorem dX5_leastFactor_78 : decode cX5_leastFactor 78 = .ok (.laload, 1) := by decide +kernel
theorem dX5_leastFactor_79 : decode cX5_leastFactor 79 = .ok (.lmul, 1) := by decide +kernel
theorem dX5_leastFactor_80 : decode cX5_leastFactor 80 = .ok (.aload_n 0, 1) := by decide +kernel
theorem dX5_leastFactor_81 : decode cX5_leastFactor 81 = .ok (.getfield 13, 3) := by decide +kernel
theorem dX5_leastFactor_84 : decode cX5_leastFactor 84 = .ok (.iload_n 3, 1) := by decide +kernel
theorem dX5_leastFactor_85 : decode cX5_leastFactor 85 = .ok (.laload, 1) := by decide +kernel
theorem dX5_leastFactor_86 : decode cX5_leastFactor 86 = .ok (.aload_n 0, 1) := by decide +kernel
theorem dX5_leastFactor_87 : decode cX5_leastFactor 87 = .ok (.getfield 16, 3) := by decide +kernel
theorem dX5_leastFactor_90 : decode cX5_leastFactor 90 = .ok (.iload 4, 2) := by decide +kernel
theorem dX5_leastFactor_92 : decode cX5_leastFactor 92 = .ok (.laload, 1) := by decide +kernel
theorem dX5_leastFactor_93 : decode cX5_leastFactor 93 = .ok (.lmul, 1) := by decide +kernel
theorem dX5_leastFactor_94 : decode cX5_leastFactor 94 = .ok (.ladd, 1) := by decide +kernel
theorem dX5_leastFactor_95 : decode cX5_leastFactor 95 = .ok (.lstore 5, 2) := by decide +kernel
theorem dX5_leastFactor_97 : decode cX5_leastFactor 97 = .ok (.lload 5, 2) := by decide +kernel
theorem dX5_leastFactor_99 : decode cX5_leastFactor 99 = .ok (.lconst 0, 1) := by decide +kernel
theorem dX5_leastFactor_100 : decode cX5_leastFactor 100 = .ok (.lcmp, 1) := by decide +kernel
theorem dX5_leastFactor_101 : decode cX5_leastFactor 101 = .ok (.ifCond .ne 5, 3) := by decide +kernel
theorem dX5_leastFactor_104 : decode cX5_leastFactor 104 = .ok (.iconst 0, 1) := by decide +kernel
theorem dX5_leastFactor_105 : decode cX5_leastFactor 105 = .ok (.ireturn, 1) := by decide +kernel
theorem dX5_leastFactor_106 : decode cX5_leastFactor 106 = .ok (.aload_n 1, 1) := by decide +kernel
theorem dX5_leastFactor_107 : decode cX5_leastFactor 107 = .ok (.aload_n 0, 1) := by decide +kernel
theorem dX5_leastFactor_108 : decode cX5_leastFactor 108 = .ok (.getfield 9, 3) := by decide +kernel
theorem dX5_leastFactor_111 : decode cX5_leastFactor 111 = .ok (.iload_n 3, 1) := by decide +kernel
theorem dX5_leastFactor_112 : decode cX5_leastFactor 112 = .ok (.laload, 1) := by decide +kernel
theorem dX5_leastFactor_113 : decode cX5_leastFactor 113 = .ok (.aload_n 0, 1) := by decide +kernel
theorem dX5_leastFactor_114 : decode cX5_leastFactor 114 = .ok (.getfield 16, 3) := by decide +kernel
theorem dX5_leastFactor_117 : decode cX5_leastFactor 117 = .ok (.iload 4, 2) := by decide +kernel
theorem dX5_leastFactor_119 : decode cX5_leastFactor 119 = .ok (.laload, 1) := by decide +kernel
theorem dX5_leastFactor_120 : decode cX5_leastFactor 120 = .ok (.lmul, 1) := by decide +kernel
theorem dX5_leastFactor_121 : decode cX5_leastFactor 121 = .ok (.aload_n 0, 1) := by decide +kernel
theorem dX5_leastFactor_122 : decode cX5_leastFactor 122 = .ok (.getfield 9, 3) := by decide +kernel
theorem dX5_leastFactor_125 : decode cX5_leastFactor 125 = .ok (.iload 4, 2) := by decide +kernel
theorem dX5_leastFactor_127 : decode cX5_leastFactor 127 = .ok (.laload, 1) := by decide +kernel
theorem dX5_leastFactor_128 : decode cX5_leastFactor 128 = .ok (.aload_n 0, 1) := by decide +kernel
theorem dX5_leastFactor_129 : decode cX5_leastFactor 129 = .ok (.getfield 16, 3) := by decide +kernel
theorem dX5_leastFactor_132 : decode cX5_leastFactor 132 = .ok (.iload_n 3, 1) := by decide +kernel
theorem dX5_leastFactor_133 : decode cX5_leastFactor 133 = .ok (.laload, 1) := by decide +kernel
theorem dX5_leastFactor_134 : decode cX5_leastFactor 134 = .ok (.lmul, 1) := by decide +kernel
theorem dX5_leastFactor_135 : decode cX5_leastFactor 135 = .ok (.lsub, 1) := by decide +kernel
theorem dX5_leastFactor_136 : decode cX5_leastFactor 136 = .ok (.lload 5, 2) := by decide +kernel
theorem dX5_leastFactor_138 : decode cX5_leastFactor 138 = .ok (.invokevirtual 69, 3) := by decide +kernel
theorem dX5_leastFactor_141 : decode cX5_leastFactor 141 = .ok (.iinc 2 1, 3) := by decide +kernel
theorem dX5_leastFactor_144 : decode cX5_leastFactor 144 = .ok (.goto (-132), 3) := by decide +kernel
theorem dX5_leastFactor_147 : decode cX5_leastFactor 147 = .ok (.iconst 0, 1) := by decide +kernel
theorem dX5_leastFactor_148 : decode cX5_leastFactor 148 = .ok (.ireturn, 1) := by decide +kernel
theorem dX5_straightFactor_0 : decode cX5_straightFactor 0 = .ok (.aload_n 1, 1) := by decide +kernel
theorem dX5_straightFactor_1 : decode cX5_straightFactor 1 = .ok (.lconst 0, 1) := by decide +kernel
theorem dX5_straightFactor_2 : decode cX5_straightFactor 2 = .ok (.lconst 1, 1) := by decide +kernel
theorem dX5_straightFactor_3 : decode cX5_straightFactor 3 = .ok (.invokevirtual 69, 3) := by decide +kernel
theorem dX5_straightFactor_6 : decode cX5_straightFactor 6 = .ok (.iconst 1, 1) := by decide +kernel
theorem dX5_straightFactor_7 : decode cX5_straightFactor 7 = .ok (.istore_n 2, 1) := by decide +kernel
theorem dX5_straightFactor_8 : decode cX5_straightFactor 8 = .ok (.iload_n 2, 1) := by decide +kernel
theorem dX5_straightFactor_9 : decode cX5_straightFactor 9 = .ok (.aload_n 0, 1) := by decide +kernel
theorem dX5_straightFactor_10 : decode cX5_straightFactor 10 = .ok (.getfield 29, 3) := by decide +kernel
theorem dX5_straightFactor_13 : decode cX5_straightFactor 13 = .ok (.if_icmp .gt 81, 3) := by decide +kernel
theorem dX5_straightFactor_16 : decode cX5_straightFactor 16 = .ok (.aload_n 0, 1) := by decide +kernel
theorem dX5_straightFactor_17 : decode cX5_straightFactor 17 = .ok (.getfield 9, 3) := by decide +kernel
theorem dX5_straightFactor_20 : decode cX5_straightFactor 20 = .ok (.iload_n 2, 1) := by decide +kernel
theorem dX5_straightFactor_21 : decode cX5_straightFactor 21 = .ok (.laload, 1) := by decide +kernel
theorem dX5_straightFactor_22 : decode cX5_straightFactor 22 = .ok (.invokestatic 50, 3) := by decide +kernel
theorem dX5_straightFactor_25 : decode cX5_straightFactor 25 = .ok (.lstore_n 3, 1) := by decide +kernel
theorem dX5_straightFactor_26 : decode cX5_straightFactor 26 = .ok (.aload_n 0, 1) := by decide +kernel
theorem dX5_straightFactor_27 : decode cX5_straightFactor 27 = .ok (.getfield 16, 3) := by decide +kernel
theorem dX5_straightFactor_30 : decode cX5_straightFactor 30 = .ok (.iload_n 2, 1) := by decide +kernel
theorem dX5_straightFactor_31 : decode cX5_straightFactor 31 = .ok (.laload, 1) := by decide +kernel
theorem dX5_straightFactor_32 : decode cX5_straightFactor 32 = .ok (.lconst 0, 1) := by decide +kernel
theorem dX5_straightFactor_33 : decode cX5_straightFactor 33 = .ok (.lcmp, 1) := by decide +kernel
theorem dX5_straightFactor_34 : decode cX5_straightFactor 34 = .ok (.ifCond .ne 54, 3) := by decide +kernel
theorem dX5_straightFactor_37 : decode cX5_straightFactor 37 = .ok (.lload_n 3, 1) := by decide +kernel
theorem dX5_straightFactor_38 : decode cX5_straightFactor 38 = .ok (.lconst 0, 1) := by decide +kernel
theorem dX5_straightFactor_39 : decode cX5_straightFactor 39 = .ok (.lcmp, 1) := by decide +kernel
theorem dX5_straightFactor_40 : decode cX5_straightFactor 40 = .ok (.ifCond .le 48, 3) := by decide +kernel
theorem dX5_straightFactor_43 : decode cX5_straightFactor 43 = .ok (.aload_n 0, 1) := by decide +kernel
theorem dX5_straightFactor_44 : decode cX5_straightFactor 44 = .ok (.getfield 13, 3) := by decide +kernel
theorem dX5_straightFactor_47 : decode cX5_straightFactor 47 = .ok (.iload_n 2, 1) := by decide +kernel
theorem dX5_straightFactor_48 : decode cX5_straightFactor 48 = .ok (.laload, 1) := by decide +kernel
theorem dX5_straightFactor_49 : decode cX5_straightFactor 49 = .ok (.lconst 0, 1) := by decide +kernel
theorem dX5_straightFactor_50 : decode cX5_straightFactor 50 = .ok (.lcmp, 1) := by decide +kernel
theorem dX5_straightFactor_51 : decode cX5_straightFactor 51 = .ok (.ifCond .ne 5, 3) := by decide +kernel
theorem dX5_straightFactor_54 : decode cX5_straightFactor 54 = .ok (.iconst 0, 1) := by decide +kernel
theorem dX5_straightFactor_55 : decode cX5_straightFactor 55 = .ok (.ireturn, 1) := by decide +kernel
theorem dX5_straightFactor_56 : decode cX5_straightFactor 56 = .ok (.lload_n 3, 1) := by decide +kernel
theorem dX5_straightFactor_57 : decode cX5_straightFactor 57 = .ok (.aload_n 1, 1) := by decide +kernel
theorem dX5_straightFactor_58 : decode cX5_straightFactor 58 = .ok (.getfield 83, 3) := by decide +kernel
theorem dX5_straightFactor_61 : decode cX5_straightFactor 61 = .ok (.lmul, 1) := by decide +kernel
theorem dX5_straightFactor_62 : decode cX5_straightFactor 62 = .ok (.aload_n 0, 1) := by decide +kernel
theorem dX5_straightFactor_63 : decode cX5_straightFactor 63 = .ok (.getfield 13, 3) := by decide +kernel
theorem dX5_straightFactor_66 : decode cX5_straightFactor 66 = .ok (.iload_n 2, 1) := by decide +kernel
theorem dX5_straightFactor_67 : decode cX5_straightFactor 67 = .ok (.laload, 1) := by decide +kernel
theorem dX5_straightFactor_68 : decode cX5_straightFactor 68 = .ok (.aload_n 1, 1) := by decide +kernel
theorem dX5_straightFactor_69 : decode cX5_straightFactor 69 = .ok (.getfield 79, 3) := by decide +kernel
theorem dX5_straightFactor_72 : decode cX5_straightFactor 72 = .ok (.lmul, 1) := by decide +kernel
theorem dX5_straightFactor_73 : decode cX5_straightFactor 73 = .ok (.lcmp, 1) := by decide +kernel
theorem dX5_straightFactor_74 : decode cX5_straightFactor 74 = .ok (.ifCond .le 14, 3) := by decide +kernel
theorem dX5_straightFactor_77 : decode cX5_straightFactor 77 = .ok (.aload_n 1, 1) := by decide +kernel
theorem dX5_straightFactor_78 : decode cX5_straightFactor 78 = .ok (.lload_n 3, 1) := by decide +kernel
theorem dX5_straightFactor_79 : decode cX5_straightFactor 79 = .ok (.aload_n 0, 1) := by decide +kernel
theorem dX5_straightFactor_80 : decode cX5_straightFactor 80 = .ok (.getfield 13, 3) := by decide +kernel
theorem dX5_straightFactor_83 : decode cX5_straightFactor 83 = .ok (.iload_n 2, 1) := by decide +kernel
theorem dX5_straightFactor_84 : decode cX5_straightFactor 84 = .ok (.laload, 1) := by decide +kernel
theorem dX5_straightFactor_85 : decode cX5_straightFactor 85 = .ok (.invokevirtual 69, 3) := by decide +kernel
theorem dX5_straightFactor_88 : decode cX5_straightFactor 88 = .ok (.iinc 2 1, 3) := by decide +kernel
theorem dX5_straightFactor_91 : decode cX5_straightFactor 91 = .ok (.goto (-83), 3) := by decide +kernel
theorem dX5_straightFactor_94 : decode cX5_straightFactor 94 = .ok (.iconst 1, 1) := by decide +kernel
theorem dX5_straightFactor_95 : decode cX5_straightFactor 95 = .ok (.ireturn, 1) := by decide +kernel
theorem dX5_least_0 : decode cX5_least 0 = .ok (.aload_n 0, 1) := by decide +kernel
theorem dX5_least_1 : decode cX5_least 1 = .ok (.getfield 9, 3) := by decide +kernel
theorem dX5_least_4 : decode cX5_least 4 = .ok (.iload_n 1, 1) := by decide +kernel
theorem dX5_least_5 : decode cX5_least 5 = .ok (.laload, 1) := by decide +kernel
theorem dX5_least_6 : decode cX5_least 6 = .ok (.lload 4, 2) := by decide +kernel
theorem dX5_least_8 : decode cX5_least 8 = .ok (.lmul, 1) := by decide +kernel
theorem dX5_least_9 : decode cX5_least 9 = .ok (.aload_n 0, 1) := by decide +kernel
theorem dX5_least_10 : decode cX5_least 10 = .ok (.getfield 13, 3) := by decide +kernel
theorem dX5_least_13 : decode cX5_least 13 = .ok (.iload_n 1, 1) := by decide +kernel
theorem dX5_least_14 : decode cX5_least 14 = .ok (.laload, 1) := by decide +kernel
theorem dX5_least_15 : decode cX5_least 15 = .ok (.lload_n 2, 1) := by decide +kernel
theorem dX5_least_16 : decode cX5_least 16 = .ok (.lmul, 1) := by decide +kernel
theorem dX5_least_17 : decode cX5_least 17 = .ok (.lsub, 1) := by decide +kernel
theorem dX5_least_18 : decode cX5_least 18 = .ok (.lreturn, 1) := by decide +kernel
theorem dX5_most_0 : decode cX5_most 0 = .ok (.aload_n 0, 1) := by decide +kernel
theorem dX5_most_1 : decode cX5_most 1 = .ok (.getfield 9, 3) := by decide +kernel
theorem dX5_most_4 : decode cX5_most 4 = .ok (.iload_n 1, 1) := by decide +kernel
theorem dX5_most_5 : decode cX5_most 5 = .ok (.laload, 1) := by decide +kernel
theorem dX5_most_6 : decode cX5_most 6 = .ok (.lload 4, 2) := by decide +kernel
theorem dX5_most_8 : decode cX5_most 8 = .ok (.lmul, 1) := by decide +kernel
theorem dX5_most_9 : decode cX5_most 9 = .ok (.aload_n 0, 1) := by decide +kernel
theorem dX5_most_10 : decode cX5_most 10 = .ok (.getfield 13, 3) := by decide +kernel
theorem dX5_most_13 : decode cX5_most 13 = .ok (.iload_n 1, 1) := by decide +kernel
theorem dX5_most_14 : decode cX5_most 14 = .ok (.laload, 1) := by decide +kernel
theorem dX5_most_15 : decode cX5_most 15 = .ok (.lload_n 2, 1) := by decide +kernel
theorem dX5_most_16 : decode cX5_most 16 = .ok (.lmul, 1) := by decide +kernel
theorem dX5_most_17 : decode cX5_most 17 = .ok (.ladd, 1) := by decide +kernel
theorem dX5_most_18 : decode cX5_most 18 = .ok (.lreturn, 1) := by decide +kernel
theorem dX5_tightestLeast_0 : decode cX5_tightestLeast 0 = .ok (.iconst 0, 1) := by decide +kernel
theorem dX5_tightestLeast_1 : decode cX5_tightestLeast 1 = .ok (.istore 5, 2) := by decide +kernel
theorem dX5_tightestLeast_3 : decode cX5_tightestLeast 3 = .ok (.iconst 1, 1) := by decide +kernel
theorem dX5_tightestLeast_4 : decode cX5_tightestLeast 4 = .ok (.istore 6, 2) := by decide +kernel
theorem dX5_tightestLeast_6 : decode cX5_tightestLeast 6 = .ok (.iload 6, 2) := by decide +kernel
theorem dX5_tightestLeast_8 : decode cX5_tightestLeast 8 = .ok (.aload_n 0, 1) := by decide +kernel
theorem dX5_tightestLeast_9 : decode cX5_tightestLeast 9 = .ok (.getfield 29, 3) := by decide +kernel
theorem dX5_tightestLeast_12 : decode cX5_tightestLeast 12 = .ok (.if_icmp .gt 61, 3) := by decide +kernel
theorem dX5_tightestLeast_15 : decode cX5_tightestLeast 15 = .ok (.aload_n 0, 1) := by decide +kernel
theorem dX5_tightestLeast_16 : decode cX5_tightestLeast 16 = .ok (.getfield 16, 3) := by decide +kernel
theorem dX5_tightestLeast_19 : decode cX5_tightestLeast 19 = .ok (.iload 6, 2) := by decide +kernel
theorem dX5_tightestLeast_21 : decode cX5_tightestLeast 21 = .ok (.laload, 1) := by decide +kernel
theorem dX5_tightestLeast_22 : decode cX5_tightestLeast 22 = .ok (.lconst 0, 1) := by decide +kernel
theorem dX5_tightestLeast_23 : decode cX5_tightestLeast 23 = .ok (.lcmp, 1) := by decide +kernel
theorem dX5_tightestLeast_24 : decode cX5_tightestLeast 24 = .ok (.ifCond .le 43, 3) := by decide +kernel
theorem dX5_tightestLeast_27 : decode cX5_tightestLeast 27 = .ok (.aload_n 0, 1) := by decide +kernel
theorem dX5_tightestLeast_28 : decode cX5_tightestLeast 28 = .ok (.iload 6, 2) := by decide +kernel
theorem dX5_tightestLeast_30 : decode cX5_tightestLeast 30 = .ok (.lload_n 1, 1) := by decide +kernel
theorem dX5_tightestLeast_31 : decode cX5_tightestLeast 31 = .ok (.lload_n 3, 1) := by decide +kernel
theorem dX5_tightestLeast_32 : decode cX5_tightestLeast 32 = .ok (.invokevirtual 86, 3) := by decide +kernel
theorem dX5_tightestLeast_35 : decode cX5_tightestLeast 35 = .ok (.aload_n 0, 1) := by decide +kernel
theorem dX5_tightestLeast_36 : decode cX5_tightestLeast 36 = .ok (.getfield 16, 3) := by decide +kernel
theorem dX5_tightestLeast_39 : decode cX5_tightestLeast 39 = .ok (.iload 5, 2) := by decide +kernel
theorem dX5_tightestLeast_41 : decode cX5_tightestLeast 41 = .ok (.laload, 1) := by decide +kernel
theorem dX5_tightestLeast_42 : decode cX5_tightestLeast 42 = .ok (.lmul, 1) := by decide +kernel
theorem dX5_tightestLeast_43 : decode cX5_tightestLeast 43 = .ok (.aload_n 0, 1) := by decide +kernel
theorem dX5_tightestLeast_44 : decode cX5_tightestLeast 44 = .ok (.iload 5, 2) := by decide +kernel
theorem dX5_tightestLeast_46 : decode cX5_tightestLeast 46 = .ok (.lload_n 1, 1) := by decide +kernel
theorem dX5_tightestLeast_47 : decode cX5_tightestLeast 47 = .ok (.lload_n 3, 1) := by decide +kernel
theorem dX5_tightestLeast_48 : decode cX5_tightestLeast 48 = .ok (.invokevirtual 86, 3) := by decide +kernel
theorem dX5_tightestLeast_51 : decode cX5_tightestLeast 51 = .ok (.aload_n 0, 1) := by decide +kernel
theorem dX5_tightestLeast_52 : decode cX5_tightestLeast 52 = .ok (.getfield 16, 3) := by decide +kernel
theorem dX5_tightestLeast_55 : decode cX5_tightestLeast 55 = .ok (.iload 6, 2) := by decide +kernel
theorem dX5_tightestLeast_57 : decode cX5_tightestLeast 57 = .ok (.laload, 1) := by decide +kernel
theorem dX5_tightestLeast_58 : decode cX5_tightestLeast 58 = .ok (.lmul, 1) := by decide +kernel
theorem dX5_tightestLeast_59 : decode cX5_tightestLeast 59 = .ok (.lcmp, 1) := by decide +kernel
theorem dX5_tightestLeast_60 : decode cX5_tightestLeast 60 = .ok (.ifCond .le 7, 3) := by decide +kernel
theorem dX5_tightestLeast_63 : decode cX5_tightestLeast 63 = .ok (.iload 6, 2) := by decide +kernel
theorem dX5_tightestLeast_65 : decode cX5_tightestLeast 65 = .ok (.istore 5, 2) := by decide +kernel
theorem dX5_tightestLeast_67 : decode cX5_tightestLeast 67 = .ok (.iinc 6 1, 3) := by decide +kernel
theorem dX5_tightestLeast_70 : decode cX5_tightestLeast 70 = .ok (.goto (-64), 3) := by decide +kernel
theorem dX5_tightestLeast_73 : decode cX5_tightestLeast 73 = .ok (.iload 5, 2) := by decide +kernel
theorem dX5_tightestLeast_75 : decode cX5_tightestLeast 75 = .ok (.ireturn, 1) := by decide +kernel
theorem dX5_tightestMost_0 : decode cX5_tightestMost 0 = .ok (.iconst 0, 1) := by decide +kernel
theorem dX5_tightestMost_1 : decode cX5_tightestMost 1 = .ok (.istore 5, 2) := by decide +kernel
theorem dX5_tightestMost_3 : decode cX5_tightestMost 3 = .ok (.iconst 1, 1) := by decide +kernel
theorem dX5_tightestMost_4 : decode cX5_tightestMost 4 = .ok (.istore 6, 2) := by decide +kernel
theorem dX5_tightestMost_6 : decode cX5_tightestMost 6 = .ok (.iload 6, 2) := by decide +kernel
theorem dX5_tightestMost_8 : decode cX5_tightestMost 8 = .ok (.aload_n 0, 1) := by decide +kernel
theorem dX5_tightestMost_9 : decode cX5_tightestMost 9 = .ok (.getfield 29, 3) := by decide +kernel
theorem dX5_tightestMost_12 : decode cX5_tightestMost 12 = .ok (.if_icmp .gt 66, 3) := by decide +kernel
