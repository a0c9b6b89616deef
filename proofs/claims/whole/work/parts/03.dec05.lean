theorem dX7_meetThree_58 : decode cX7_meetThree 58 = .ok (.getfield 39, 3) := by decide +kernel
theorem dX7_meetThree_61 : decode cX7_meetThree 61 = .ok (.iconst 2, 1) := by decide +kernel
theorem dX7_meetThree_62 : decode cX7_meetThree 62 = .ok (.aload_n 0, 1) := by decide +kernel
theorem dX7_meetThree_63 : decode cX7_meetThree 63 = .ok (.iload_n 1, 1) := by decide +kernel
theorem dX7_meetThree_64 : decode cX7_meetThree 64 = .ok (.iload_n 2, 1) := by decide +kernel
theorem dX7_meetThree_65 : decode cX7_meetThree 65 = .ok (.iload_n 3, 1) := by decide +kernel
theorem dX7_meetThree_66 : decode cX7_meetThree 66 = .ok (.iconst 0, 1) := by decide +kernel
theorem dX7_meetThree_67 : decode cX7_meetThree 67 = .ok (.iconst 1, 1) := by decide +kernel
theorem dX7_meetThree_68 : decode cX7_meetThree 68 = .ok (.iconst 4, 1) := by decide +kernel
theorem dX7_meetThree_69 : decode cX7_meetThree 69 = .ok (.invokevirtual 95, 3) := by decide +kernel
theorem dX7_meetThree_72 : decode cX7_meetThree 72 = .ok (.lastore, 1) := by decide +kernel
theorem dX7_meetThree_73 : decode cX7_meetThree 73 = .ok (.aload_n 0, 1) := by decide +kernel
theorem dX7_meetThree_74 : decode cX7_meetThree 74 = .ok (.getfield 39, 3) := by decide +kernel
theorem dX7_meetThree_77 : decode cX7_meetThree 77 = .ok (.iconst 3, 1) := by decide +kernel
theorem dX7_meetThree_78 : decode cX7_meetThree 78 = .ok (.lconst 0, 1) := by decide +kernel
theorem dX7_meetThree_79 : decode cX7_meetThree 79 = .ok (.lastore, 1) := by decide +kernel
theorem dX7_meetThree_80 : decode cX7_meetThree 80 = .ok (.aload_n 0, 1) := by decide +kernel
theorem dX7_meetThree_81 : decode cX7_meetThree 81 = .ok (.invokevirtual 99, 3) := by decide +kernel
theorem dX7_meetThree_84 : decode cX7_meetThree 84 = .ok (.aload_n 0, 1) := by decide +kernel
theorem dX7_meetThree_85 : decode cX7_meetThree 85 = .ok (.invokevirtual 102, 3) := by decide +kernel
theorem dX7_meetThree_88 : decode cX7_meetThree 88 = .ok (.ireturn, 1) := by decide +kernel
theorem dX7_down_0 : decode cX7_down 0 = .ok (.lload_n 0, 1) := by decide +kernel
theorem dX7_down_1 : decode cX7_down 1 = .ok (.lload_n 2, 1) := by decide +kernel
theorem dX7_down_2 : decode cX7_down 2 = .ok (.ldiv, 1) := by decide +kernel
theorem dX7_down_3 : decode cX7_down 3 = .ok (.lstore 4, 2) := by decide +kernel
theorem dX7_down_5 : decode cX7_down 5 = .ok (.lload_n 0, 1) := by decide +kernel
theorem dX7_down_6 : decode cX7_down 6 = .ok (.lload_n 2, 1) := by decide +kernel
theorem dX7_down_7 : decode cX7_down 7 = .ok (.lrem, 1) := by decide +kernel
theorem dX7_down_8 : decode cX7_down 8 = .ok (.lconst 0, 1) := by decide +kernel
theorem dX7_down_9 : decode cX7_down 9 = .ok (.lcmp, 1) := by decide +kernel
theorem dX7_down_10 : decode cX7_down 10 = .ok (.ifCond .eq 16, 3) := by decide +kernel
theorem dX7_down_13 : decode cX7_down 13 = .ok (.lload_n 0, 1) := by decide +kernel
theorem dX7_down_14 : decode cX7_down 14 = .ok (.lconst 0, 1) := by decide +kernel
theorem dX7_down_15 : decode cX7_down 15 = .ok (.lcmp, 1) := by decide +kernel
theorem dX7_down_16 : decode cX7_down 16 = .ok (.ifCond .ge 10, 3) := by decide +kernel
theorem dX7_down_19 : decode cX7_down 19 = .ok (.lload 4, 2) := by decide +kernel
theorem dX7_down_21 : decode cX7_down 21 = .ok (.lconst 1, 1) := by decide +kernel
theorem dX7_down_22 : decode cX7_down 22 = .ok (.lsub, 1) := by decide +kernel
theorem dX7_down_23 : decode cX7_down 23 = .ok (.goto 5, 3) := by decide +kernel
theorem dX7_down_26 : decode cX7_down 26 = .ok (.lload 4, 2) := by decide +kernel
theorem dX7_down_28 : decode cX7_down 28 = .ok (.lreturn, 1) := by decide +kernel
theorem dX7_compare_0 : decode cX7_compare 0 = .ok (.lload_n 0, 1) := by decide +kernel
theorem dX7_compare_1 : decode cX7_compare 1 = .ok (.lstore 8, 2) := by decide +kernel
theorem dX7_compare_3 : decode cX7_compare 3 = .ok (.lload_n 2, 1) := by decide +kernel
theorem dX7_compare_4 : decode cX7_compare 4 = .ok (.lstore 10, 2) := by decide +kernel
theorem dX7_compare_6 : decode cX7_compare 6 = .ok (.lload 4, 2) := by decide +kernel
theorem dX7_compare_8 : decode cX7_compare 8 = .ok (.lstore 12, 2) := by decide +kernel
theorem dX7_compare_10 : decode cX7_compare 10 = .ok (.lload 6, 2) := by decide +kernel
theorem dX7_compare_12 : decode cX7_compare 12 = .ok (.lstore 14, 2) := by decide +kernel
theorem dX7_compare_14 : decode cX7_compare 14 = .ok (.iconst 1, 1) := by decide +kernel
theorem dX7_compare_15 : decode cX7_compare 15 = .ok (.istore 16, 2) := by decide +kernel
theorem dX7_compare_17 : decode cX7_compare 17 = .ok (.lload 8, 2) := by decide +kernel
theorem dX7_compare_19 : decode cX7_compare 19 = .ok (.lload 10, 2) := by decide +kernel
theorem dX7_compare_21 : decode cX7_compare 21 = .ok (.invokestatic 106, 3) := by decide +kernel
theorem dX7_compare_24 : decode cX7_compare 24 = .ok (.lstore 17, 2) := by decide +kernel
theorem dX7_compare_26 : decode cX7_compare 26 = .ok (.lload 12, 2) := by decide +kernel
theorem dX7_compare_28 : decode cX7_compare 28 = .ok (.lload 14, 2) := by decide +kernel
theorem dX7_compare_30 : decode cX7_compare 30 = .ok (.invokestatic 106, 3) := by decide +kernel
theorem dX7_compare_33 : decode cX7_compare 33 = .ok (.lstore 19, 2) := by decide +kernel
theorem dX7_compare_35 : decode cX7_compare 35 = .ok (.lload 17, 2) := by decide +kernel
theorem dX7_compare_37 : decode cX7_compare 37 = .ok (.lload 19, 2) := by decide +kernel
theorem dX7_compare_39 : decode cX7_compare 39 = .ok (.lcmp, 1) := by decide +kernel
theorem dX7_compare_40 : decode cX7_compare 40 = .ok (.ifCond .eq 20, 3) := by decide +kernel
theorem dX7_compare_43 : decode cX7_compare 43 = .ok (.lload 17, 2) := by decide +kernel
theorem dX7_compare_45 : decode cX7_compare 45 = .ok (.lload 19, 2) := by decide +kernel
theorem dX7_compare_47 : decode cX7_compare 47 = .ok (.lcmp, 1) := by decide +kernel
theorem dX7_compare_48 : decode cX7_compare 48 = .ok (.ifCond .ge 9, 3) := by decide +kernel
theorem dX7_compare_51 : decode cX7_compare 51 = .ok (.iload 16, 2) := by decide +kernel
theorem dX7_compare_53 : decode cX7_compare 53 = .ok (.ineg, 1) := by decide +kernel
theorem dX7_compare_54 : decode cX7_compare 54 = .ok (.goto 5, 3) := by decide +kernel
theorem dX7_compare_57 : decode cX7_compare 57 = .ok (.iload 16, 2) := by decide +kernel
theorem dX7_compare_59 : decode cX7_compare 59 = .ok (.ireturn, 1) := by decide +kernel
theorem dX7_compare_60 : decode cX7_compare 60 = .ok (.lload 8, 2) := by decide +kernel
theorem dX7_compare_62 : decode cX7_compare 62 = .ok (.lload 17, 2) := by decide +kernel
theorem dX7_compare_64 : decode cX7_compare 64 = .ok (.lload 10, 2) := by decide +kernel
theorem dX7_compare_66 : decode cX7_compare 66 = .ok (.lmul, 1) := by decide +kernel
theorem dX7_compare_67 : decode cX7_compare 67 = .ok (.lsub, 1) := by decide +kernel
theorem dX7_compare_68 : decode cX7_compare 68 = .ok (.lstore 21, 2) := by decide +kernel
theorem dX7_compare_70 : decode cX7_compare 70 = .ok (.lload 12, 2) := by decide +kernel
theorem dX7_compare_72 : decode cX7_compare 72 = .ok (.lload 19, 2) := by decide +kernel
theorem dX7_compare_74 : decode cX7_compare 74 = .ok (.lload 14, 2) := by decide +kernel
theorem dX7_compare_76 : decode cX7_compare 76 = .ok (.lmul, 1) := by decide +kernel
theorem dX7_compare_77 : decode cX7_compare 77 = .ok (.lsub, 1) := by decide +kernel
theorem dX7_compare_78 : decode cX7_compare 78 = .ok (.lstore 23, 2) := by decide +kernel
theorem dX7_compare_80 : decode cX7_compare 80 = .ok (.lload 21, 2) := by decide +kernel
theorem dX7_compare_82 : decode cX7_compare 82 = .ok (.lconst 0, 1) := by decide +kernel
theorem dX7_compare_83 : decode cX7_compare 83 = .ok (.lcmp, 1) := by decide +kernel
theorem dX7_compare_84 : decode cX7_compare 84 = .ok (.ifCond .eq 10, 3) := by decide +kernel
theorem dX7_compare_87 : decode cX7_compare 87 = .ok (.lload 23, 2) := by decide +kernel
theorem dX7_compare_89 : decode cX7_compare 89 = .ok (.lconst 0, 1) := by decide +kernel
theorem dX7_compare_90 : decode cX7_compare 90 = .ok (.lcmp, 1) := by decide +kernel
theorem dX7_compare_91 : decode cX7_compare 91 = .ok (.ifCond .ne 31, 3) := by decide +kernel
theorem dX7_compare_94 : decode cX7_compare 94 = .ok (.lload 21, 2) := by decide +kernel
theorem dX7_compare_96 : decode cX7_compare 96 = .ok (.lload 23, 2) := by decide +kernel
theorem dX7_compare_98 : decode cX7_compare 98 = .ok (.lcmp, 1) := by decide +kernel
theorem dX7_compare_99 : decode cX7_compare 99 = .ok (.ifCond .ne 7, 3) := by decide +kernel
theorem dX7_compare_102 : decode cX7_compare 102 = .ok (.iconst 0, 1) := by decide +kernel
theorem dX7_compare_103 : decode cX7_compare 103 = .ok (.goto 18, 3) := by decide +kernel
theorem dX7_compare_106 : decode cX7_compare 106 = .ok (.lload 21, 2) := by decide +kernel
theorem dX7_compare_108 : decode cX7_compare 108 = .ok (.lconst 0, 1) := by decide +kernel
theorem dX7_compare_109 : decode cX7_compare 109 = .ok (.lcmp, 1) := by decide +kernel
theorem dX7_compare_110 : decode cX7_compare 110 = .ok (.ifCond .ne 9, 3) := by decide +kernel
theorem dX7_compare_113 : decode cX7_compare 113 = .ok (.iload 16, 2) := by decide +kernel
theorem dX7_compare_115 : decode cX7_compare 115 = .ok (.ineg, 1) := by decide +kernel
theorem dX7_compare_116 : decode cX7_compare 116 = .ok (.goto 5, 3) := by decide +kernel
theorem dX7_compare_119 : decode cX7_compare 119 = .ok (.iload 16, 2) := by decide +kernel
theorem dX7_compare_121 : decode cX7_compare 121 = .ok (.ireturn, 1) := by decide +kernel
theorem dX7_compare_122 : decode cX7_compare 122 = .ok (.lload 10, 2) := by decide +kernel
theorem dX7_compare_124 : decode cX7_compare 124 = .ok (.lstore 8, 2) := by decide +kernel
theorem dX7_compare_126 : decode cX7_compare 126 = .ok (.lload 21, 2) := by decide +kernel
theorem dX7_compare_128 : decode cX7_compare 128 = .ok (.lstore 10, 2) := by decide +kernel
theorem dX7_compare_130 : decode cX7_compare 130 = .ok (.lload 14, 2) := by decide +kernel
theorem dX7_compare_132 : decode cX7_compare 132 = .ok (.lstore 12, 2) := by decide +kernel
theorem dX7_compare_134 : decode cX7_compare 134 = .ok (.lload 23, 2) := by decide +kernel
theorem dX7_compare_136 : decode cX7_compare 136 = .ok (.lstore 14, 2) := by decide +kernel
theorem dX7_compare_138 : decode cX7_compare 138 = .ok (.iload 16, 2) := by decide +kernel
theorem dX7_compare_140 : decode cX7_compare 140 = .ok (.ineg, 1) := by decide +kernel
theorem dX7_compare_141 : decode cX7_compare 141 = .ok (.istore 16, 2) := by decide +kernel
theorem dX7_compare_143 : decode cX7_compare 143 = .ok (.goto (-126), 3) := by decide +kernel
theorem dX7_findLines_0 : decode cX7_findLines 0 = .ok (.aload_n 0, 1) := by decide +kernel
theorem dX7_findLines_1 : decode cX7_findLines 1 = .ok (.iconst 0, 1) := by decide +kernel
theorem dX7_findLines_2 : decode cX7_findLines 2 = .ok (.invokevirtual 110, 3) := by decide +kernel
theorem dX7_findLines_5 : decode cX7_findLines 5 = .ok (.aload_n 0, 1) := by decide +kernel
theorem dX7_findLines_6 : decode cX7_findLines 6 = .ok (.iconst 0, 1) := by decide +kernel
theorem dX7_findLines_7 : decode cX7_findLines 7 = .ok (.putfield 114, 3) := by decide +kernel
theorem dX7_findLines_10 : decode cX7_findLines 10 = .ok (.iconst 0, 1) := by decide +kernel
theorem dX7_findLines_11 : decode cX7_findLines 11 = .ok (.istore_n 1, 1) := by decide +kernel
theorem dX7_findLines_12 : decode cX7_findLines 12 = .ok (.iload_n 1, 1) := by decide +kernel
theorem dX7_findLines_13 : decode cX7_findLines 13 = .ok (.aload_n 0, 1) := by decide +kernel
theorem dX7_findLines_14 : decode cX7_findLines 14 = .ok (.getfield 88, 3) := by decide +kernel
theorem dX7_findLines_17 : decode cX7_findLines 17 = .ok (.if_icmp .ge 59, 3) := by decide +kernel
theorem dX7_findLines_20 : decode cX7_findLines 20 = .ok (.iload_n 1, 1) := by decide +kernel
theorem dX7_findLines_21 : decode cX7_findLines 21 = .ok (.iconst 1, 1) := by decide +kernel
theorem dX7_findLines_22 : decode cX7_findLines 22 = .ok (.iadd, 1) := by decide +kernel
theorem dX7_findLines_23 : decode cX7_findLines 23 = .ok (.istore_n 2, 1) := by decide +kernel
theorem dX7_findLines_24 : decode cX7_findLines 24 = .ok (.iload_n 2, 1) := by decide +kernel
theorem dX7_findLines_25 : decode cX7_findLines 25 = .ok (.aload_n 0, 1) := by decide +kernel
theorem dX7_findLines_26 : decode cX7_findLines 26 = .ok (.getfield 88, 3) := by decide +kernel
theorem dX7_findLines_29 : decode cX7_findLines 29 = .ok (.if_icmp .ge 41, 3) := by decide +kernel
theorem dX7_findLines_32 : decode cX7_findLines 32 = .ok (.iload_n 2, 1) := by decide +kernel
theorem dX7_findLines_33 : decode cX7_findLines 33 = .ok (.iconst 1, 1) := by decide +kernel
theorem dX7_findLines_34 : decode cX7_findLines 34 = .ok (.iadd, 1) := by decide +kernel
theorem dX7_findLines_35 : decode cX7_findLines 35 = .ok (.istore_n 3, 1) := by decide +kernel
theorem dX7_findLines_36 : decode cX7_findLines 36 = .ok (.iload_n 3, 1) := by decide +kernel
theorem dX7_findLines_37 : decode cX7_findLines 37 = .ok (.aload_n 0, 1) := by decide +kernel
theorem dX7_findLines_38 : decode cX7_findLines 38 = .ok (.getfield 88, 3) := by decide +kernel
theorem dX7_findLines_41 : decode cX7_findLines 41 = .ok (.if_icmp .ge 23, 3) := by decide +kernel
theorem dX7_findLines_44 : decode cX7_findLines 44 = .ok (.aload_n 0, 1) := by decide +kernel
theorem dX7_findLines_45 : decode cX7_findLines 45 = .ok (.iload_n 1, 1) := by decide +kernel
theorem dX7_findLines_46 : decode cX7_findLines 46 = .ok (.iload_n 2, 1) := by decide +kernel
theorem dX7_findLines_47 : decode cX7_findLines 47 = .ok (.iload_n 3, 1) := by decide +kernel
theorem dX7_findLines_48 : decode cX7_findLines 48 = .ok (.invokevirtual 118, 3) := by decide +kernel
theorem dX7_findLines_51 : decode cX7_findLines 51 = .ok (.ifCond .eq 7, 3) := by decide +kernel
theorem dX7_findLines_54 : decode cX7_findLines 54 = .ok (.aload_n 0, 1) := by decide +kernel
theorem dX7_findLines_55 : decode cX7_findLines 55 = .ok (.invokevirtual 122, 3) := by decide +kernel
theorem dX7_findLines_58 : decode cX7_findLines 58 = .ok (.iinc 3 1, 3) := by decide +kernel
theorem dX7_findLines_61 : decode cX7_findLines 61 = .ok (.goto (-25), 3) := by decide +kernel
theorem dX7_findLines_64 : decode cX7_findLines 64 = .ok (.iinc 2 1, 3) := by decide +kernel
theorem dX7_findLines_67 : decode cX7_findLines 67 = .ok (.goto (-43), 3) := by decide +kernel
theorem dX7_findLines_70 : decode cX7_findLines 70 = .ok (.iinc 1 1, 3) := by decide +kernel
theorem dX7_findLines_73 : decode cX7_findLines 73 = .ok (.goto (-61), 3) := by decide +kernel
theorem dX7_findLines_76 : decode cX7_findLines 76 = .ok (.return_, 1) := by decide +kernel
theorem dX7_takeSpot_0 : decode cX7_takeSpot 0 = .ok (.aload_n 0, 1) := by decide +kernel
theorem dX7_takeSpot_1 : decode cX7_takeSpot 1 = .ok (.getfield 39, 3) := by decide +kernel
theorem dX7_takeSpot_4 : decode cX7_takeSpot 4 = .ok (.iconst 0, 1) := by decide +kernel
theorem dX7_takeSpot_5 : decode cX7_takeSpot 5 = .ok (.laload, 1) := by decide +kernel
theorem dX7_takeSpot_6 : decode cX7_takeSpot 6 = .ok (.aload_n 0, 1) := by decide +kernel
theorem dX7_takeSpot_7 : decode cX7_takeSpot 7 = .ok (.getfield 39, 3) := by decide +kernel
theorem dX7_takeSpot_10 : decode cX7_takeSpot 10 = .ok (.iconst 1, 1) := by decide +kernel
theorem dX7_takeSpot_11 : decode cX7_takeSpot 11 = .ok (.laload, 1) := by decide +kernel
theorem dX7_takeSpot_12 : decode cX7_takeSpot 12 = .ok (.invokestatic 125, 3) := by decide +kernel
theorem dX7_takeSpot_15 : decode cX7_takeSpot 15 = .ok (.aload_n 0, 1) := by decide +kernel
theorem dX7_takeSpot_16 : decode cX7_takeSpot 16 = .ok (.getfield 39, 3) := by decide +kernel
theorem dX7_takeSpot_19 : decode cX7_takeSpot 19 = .ok (.iconst 2, 1) := by decide +kernel
theorem dX7_takeSpot_20 : decode cX7_takeSpot 20 = .ok (.laload, 1) := by decide +kernel
theorem dX7_takeSpot_21 : decode cX7_takeSpot 21 = .ok (.aload_n 0, 1) := by decide +kernel
theorem dX7_takeSpot_22 : decode cX7_takeSpot 22 = .ok (.getfield 91, 3) := by decide +kernel
theorem dX7_takeSpot_25 : decode cX7_takeSpot 25 = .ok (.invokestatic 125, 3) := by decide +kernel
theorem dX7_takeSpot_28 : decode cX7_takeSpot 28 = .ok (.invokestatic 125, 3) := by decide +kernel
theorem dX7_takeSpot_31 : decode cX7_takeSpot 31 = .ok (.lstore_n 1, 1) := by decide +kernel
theorem dX7_takeSpot_32 : decode cX7_takeSpot 32 = .ok (.aload_n 0, 1) := by decide +kernel
theorem dX7_takeSpot_33 : decode cX7_takeSpot 33 = .ok (.getfield 39, 3) := by decide +kernel
theorem dX7_takeSpot_36 : decode cX7_takeSpot 36 = .ok (.iconst 0, 1) := by decide +kernel
theorem dX7_takeSpot_37 : decode cX7_takeSpot 37 = .ok (.laload, 1) := by decide +kernel
theorem dX7_takeSpot_38 : decode cX7_takeSpot 38 = .ok (.lload_n 1, 1) := by decide +kernel
theorem dX7_takeSpot_39 : decode cX7_takeSpot 39 = .ok (.ldiv, 1) := by decide +kernel
theorem dX7_takeSpot_40 : decode cX7_takeSpot 40 = .ok (.lstore_n 3, 1) := by decide +kernel
theorem dX7_takeSpot_41 : decode cX7_takeSpot 41 = .ok (.aload_n 0, 1) := by decide +kernel
theorem dX7_takeSpot_42 : decode cX7_takeSpot 42 = .ok (.getfield 39, 3) := by decide +kernel
theorem dX7_takeSpot_45 : decode cX7_takeSpot 45 = .ok (.iconst 1, 1) := by decide +kernel
theorem dX7_takeSpot_46 : decode cX7_takeSpot 46 = .ok (.laload, 1) := by decide +kernel
theorem dX7_takeSpot_47 : decode cX7_takeSpot 47 = .ok (.lload_n 1, 1) := by decide +kernel
theorem dX7_takeSpot_48 : decode cX7_takeSpot 48 = .ok (.ldiv, 1) := by decide +kernel
theorem dX7_takeSpot_49 : decode cX7_takeSpot 49 = .ok (.lstore 5, 2) := by decide +kernel
theorem dX7_takeSpot_51 : decode cX7_takeSpot 51 = .ok (.aload_n 0, 1) := by decide +kernel
theorem dX7_takeSpot_52 : decode cX7_takeSpot 52 = .ok (.getfield 39, 3) := by decide +kernel
theorem dX7_takeSpot_55 : decode cX7_takeSpot 55 = .ok (.iconst 2, 1) := by decide +kernel
theorem dX7_takeSpot_56 : decode cX7_takeSpot 56 = .ok (.laload, 1) := by decide +kernel
theorem dX7_takeSpot_57 : decode cX7_takeSpot 57 = .ok (.lload_n 1, 1) := by decide +kernel
theorem dX7_takeSpot_58 : decode cX7_takeSpot 58 = .ok (.ldiv, 1) := by decide +kernel
theorem dX7_takeSpot_59 : decode cX7_takeSpot 59 = .ok (.lstore 7, 2) := by decide +kernel
theorem dX7_takeSpot_61 : decode cX7_takeSpot 61 = .ok (.aload_n 0, 1) := by decide +kernel
theorem dX7_takeSpot_62 : decode cX7_takeSpot 62 = .ok (.getfield 91, 3) := by decide +kernel
theorem dX7_takeSpot_65 : decode cX7_takeSpot 65 = .ok (.lload_n 1, 1) := by decide +kernel
theorem dX7_takeSpot_66 : decode cX7_takeSpot 66 = .ok (.ldiv, 1) := by decide +kernel
theorem dX7_takeSpot_67 : decode cX7_takeSpot 67 = .ok (.lstore 9, 2) := by decide +kernel
theorem dX7_takeSpot_69 : decode cX7_takeSpot 69 = .ok (.aload_n 0, 1) := by decide +kernel
theorem dX7_takeSpot_70 : decode cX7_takeSpot 70 = .ok (.getfield 114, 3) := by decide +kernel
theorem dX7_takeSpot_73 : decode cX7_takeSpot 73 = .ok (.ifCond .ne 7, 3) := by decide +kernel
theorem dX7_takeSpot_76 : decode cX7_takeSpot 76 = .ok (.iconst 1, 1) := by decide +kernel
theorem dX7_takeSpot_77 : decode cX7_takeSpot 77 = .ok (.goto 20, 3) := by decide +kernel
theorem dX7_takeSpot_80 : decode cX7_takeSpot 80 = .ok (.lload 7, 2) := by decide +kernel
theorem dX7_takeSpot_82 : decode cX7_takeSpot 82 = .ok (.lload 9, 2) := by decide +kernel
theorem dX7_takeSpot_84 : decode cX7_takeSpot 84 = .ok (.aload_n 0, 1) := by decide +kernel
theorem dX7_takeSpot_85 : decode cX7_takeSpot 85 = .ok (.getfield 42, 3) := by decide +kernel
theorem dX7_takeSpot_88 : decode cX7_takeSpot 88 = .ok (.iconst 2, 1) := by decide +kernel
theorem dX7_takeSpot_89 : decode cX7_takeSpot 89 = .ok (.laload, 1) := by decide +kernel
theorem dX7_takeSpot_90 : decode cX7_takeSpot 90 = .ok (.aload_n 0, 1) := by decide +kernel
theorem dX7_takeSpot_91 : decode cX7_takeSpot 91 = .ok (.getfield 128, 3) := by decide +kernel
theorem dX7_takeSpot_94 : decode cX7_takeSpot 94 = .ok (.invokestatic 131, 3) := by decide +kernel
theorem dX7_takeSpot_97 : decode cX7_takeSpot 97 = .ok (.istore 11, 2) := by decide +kernel
theorem dX7_takeSpot_99 : decode cX7_takeSpot 99 = .ok (.iload 11, 2) := by decide +kernel
theorem dX7_takeSpot_101 : decode cX7_takeSpot 101 = .ok (.ifCond .ne 23, 3) := by decide +kernel
theorem dX7_takeSpot_104 : decode cX7_takeSpot 104 = .ok (.lload_n 3, 1) := by decide +kernel
theorem dX7_takeSpot_105 : decode cX7_takeSpot 105 = .ok (.lload 9, 2) := by decide +kernel
theorem dX7_takeSpot_107 : decode cX7_takeSpot 107 = .ok (.aload_n 0, 1) := by decide +kernel
theorem dX7_takeSpot_108 : decode cX7_takeSpot 108 = .ok (.getfield 42, 3) := by decide +kernel
theorem dX7_takeSpot_111 : decode cX7_takeSpot 111 = .ok (.iconst 0, 1) := by decide +kernel
theorem dX7_takeSpot_112 : decode cX7_takeSpot 112 = .ok (.laload, 1) := by decide +kernel
theorem dX7_takeSpot_113 : decode cX7_takeSpot 113 = .ok (.aload_n 0, 1) := by decide +kernel
theorem dX7_takeSpot_114 : decode cX7_takeSpot 114 = .ok (.getfield 128, 3) := by decide +kernel
theorem dX7_takeSpot_117 : decode cX7_takeSpot 117 = .ok (.invokestatic 131, 3) := by decide +kernel
theorem dX7_takeSpot_120 : decode cX7_takeSpot 120 = .ok (.ineg, 1) := by decide +kernel
theorem dX7_takeSpot_121 : decode cX7_takeSpot 121 = .ok (.goto 5, 3) := by decide +kernel
theorem dX7_takeSpot_124 : decode cX7_takeSpot 124 = .ok (.iload 11, 2) := by decide +kernel
theorem dX7_takeSpot_126 : decode cX7_takeSpot 126 = .ok (.istore 11, 2) := by decide +kernel
theorem dX7_takeSpot_128 : decode cX7_takeSpot 128 = .ok (.iload 11, 2) := by decide +kernel
theorem dX7_takeSpot_130 : decode cX7_takeSpot 130 = .ok (.ifCond .ne 24, 3) := by decide +kernel
theorem dX7_takeSpot_133 : decode cX7_takeSpot 133 = .ok (.lload 5, 2) := by decide +kernel
theorem dX7_takeSpot_135 : decode cX7_takeSpot 135 = .ok (.lload 9, 2) := by decide +kernel
theorem dX7_takeSpot_137 : decode cX7_takeSpot 137 = .ok (.aload_n 0, 1) := by decide +kernel
theorem dX7_takeSpot_138 : decode cX7_takeSpot 138 = .ok (.getfield 42, 3) := by decide +kernel
theorem dX7_takeSpot_141 : decode cX7_takeSpot 141 = .ok (.iconst 1, 1) := by decide +kernel
theorem dX7_takeSpot_142 : decode cX7_takeSpot 142 = .ok (.laload, 1) := by decide +kernel
theorem dX7_takeSpot_143 : decode cX7_takeSpot 143 = .ok (.aload_n 0, 1) := by decide +kernel
theorem dX7_takeSpot_144 : decode cX7_takeSpot 144 = .ok (.getfield 128, 3) := by decide +kernel
theorem dX7_takeSpot_147 : decode cX7_takeSpot 147 = .ok (.invokestatic 131, 3) := by decide +kernel
theorem dX7_takeSpot_150 : decode cX7_takeSpot 150 = .ok (.ineg, 1) := by decide +kernel
theorem dX7_takeSpot_151 : decode cX7_takeSpot 151 = .ok (.goto 5, 3) := by decide +kernel
theorem dX7_takeSpot_154 : decode cX7_takeSpot 154 = .ok (.iload 11, 2) := by decide +kernel
theorem dX7_takeSpot_156 : decode cX7_takeSpot 156 = .ok (.istore 11, 2) := by decide +kernel
theorem dX7_takeSpot_158 : decode cX7_takeSpot 158 = .ok (.iload 11, 2) := by decide +kernel
theorem dX7_takeSpot_160 : decode cX7_takeSpot 160 = .ok (.ifCond .le 32, 3) := by decide +kernel
theorem dX7_takeSpot_163 : decode cX7_takeSpot 163 = .ok (.aload_n 0, 1) := by decide +kernel
theorem dX7_takeSpot_164 : decode cX7_takeSpot 164 = .ok (.getfield 42, 3) := by decide +kernel
theorem dX7_takeSpot_167 : decode cX7_takeSpot 167 = .ok (.iconst 0, 1) := by decide +kernel
theorem dX7_takeSpot_168 : decode cX7_takeSpot 168 = .ok (.lload_n 3, 1) := by decide +kernel
theorem dX7_takeSpot_169 : decode cX7_takeSpot 169 = .ok (.lastore, 1) := by decide +kernel
theorem dX7_takeSpot_170 : decode cX7_takeSpot 170 = .ok (.aload_n 0, 1) := by decide +kernel
theorem dX7_takeSpot_171 : decode cX7_takeSpot 171 = .ok (.getfield 42, 3) := by decide +kernel
theorem dX7_takeSpot_174 : decode cX7_takeSpot 174 = .ok (.iconst 1, 1) := by decide +kernel
theorem dX7_takeSpot_175 : decode cX7_takeSpot 175 = .ok (.lload 5, 2) := by decide +kernel
theorem dX7_takeSpot_177 : decode cX7_takeSpot 177 = .ok (.lastore, 1) := by decide +kernel
theorem dX7_takeSpot_178 : decode cX7_takeSpot 178 = .ok (.aload_n 0, 1) := by decide +kernel
theorem dX7_takeSpot_179 : decode cX7_takeSpot 179 = .ok (.getfield 42, 3) := by decide +kernel
theorem dX7_takeSpot_182 : decode cX7_takeSpot 182 = .ok (.iconst 2, 1) := by decide +kernel
theorem dX7_takeSpot_183 : decode cX7_takeSpot 183 = .ok (.lload 7, 2) := by decide +kernel
theorem dX7_takeSpot_185 : decode cX7_takeSpot 185 = .ok (.lastore, 1) := by decide +kernel
theorem dX7_takeSpot_186 : decode cX7_takeSpot 186 = .ok (.aload_n 0, 1) := by decide +kernel
theorem dX7_takeSpot_187 : decode cX7_takeSpot 187 = .ok (.lload 9, 2) := by decide +kernel
theorem dX7_takeSpot_189 : decode cX7_takeSpot 189 = .ok (.putfield 128, 3) := by decide +kernel
theorem dX7_takeSpot_192 : decode cX7_takeSpot 192 = .ok (.aload_n 0, 1) := by decide +kernel
theorem dX7_takeSpot_193 : decode cX7_takeSpot 193 = .ok (.getfield 114, 3) := by decide +kernel
theorem dX7_takeSpot_196 : decode cX7_takeSpot 196 = .ok (.ifCond .eq 21, 3) := by decide +kernel
theorem dX7_takeSpot_199 : decode cX7_takeSpot 199 = .ok (.lload 7, 2) := by decide +kernel
theorem dX7_takeSpot_201 : decode cX7_takeSpot 201 = .ok (.lload 9, 2) := by decide +kernel
theorem dX7_takeSpot_203 : decode cX7_takeSpot 203 = .ok (.aload_n 0, 1) := by decide +kernel
theorem dX7_takeSpot_204 : decode cX7_takeSpot 204 = .ok (.getfield 135, 3) := by decide +kernel
theorem dX7_takeSpot_207 : decode cX7_takeSpot 207 = .ok (.aload_n 0, 1) := by decide +kernel
theorem dX7_takeSpot_208 : decode cX7_takeSpot 208 = .ok (.getfield 138, 3) := by decide +kernel
theorem dX7_takeSpot_211 : decode cX7_takeSpot 211 = .ok (.invokestatic 131, 3) := by decide +kernel
theorem dX7_takeSpot_214 : decode cX7_takeSpot 214 = .ok (.ifCond .ge 15, 3) := by decide +kernel
theorem dX7_takeSpot_217 : decode cX7_takeSpot 217 = .ok (.aload_n 0, 1) := by decide +kernel
theorem dX7_takeSpot_218 : decode cX7_takeSpot 218 = .ok (.lload 7, 2) := by decide +kernel
theorem dX7_takeSpot_220 : decode cX7_takeSpot 220 = .ok (.putfield 135, 3) := by decide +kernel
theorem dX7_takeSpot_223 : decode cX7_takeSpot 223 = .ok (.aload_n 0, 1) := by decide +kernel
theorem dX7_takeSpot_224 : decode cX7_takeSpot 224 = .ok (.lload 9, 2) := by decide +kernel
theorem dX7_takeSpot_226 : decode cX7_takeSpot 226 = .ok (.putfield 138, 3) := by decide +kernel
theorem dX7_takeSpot_229 : decode cX7_takeSpot 229 = .ok (.aload_n 0, 1) := by decide +kernel
theorem dX7_takeSpot_230 : decode cX7_takeSpot 230 = .ok (.iconst 1, 1) := by decide +kernel
theorem dX7_takeSpot_231 : decode cX7_takeSpot 231 = .ok (.putfield 114, 3) := by decide +kernel
theorem dX7_takeSpot_234 : decode cX7_takeSpot 234 = .ok (.return_, 1) := by decide +kernel
theorem dX7_isLoose_0 : decode cX7_isLoose 0 = .ok (.iconst 1, 1) := by decide +kernel
theorem dX7_isLoose_1 : decode cX7_isLoose 1 = .ok (.istore_n 1, 1) := by decide +kernel
theorem dX7_isLoose_2 : decode cX7_isLoose 2 = .ok (.iconst 0, 1) := by decide +kernel
theorem dX7_isLoose_3 : decode cX7_isLoose 3 = .ok (.istore_n 2, 1) := by decide +kernel
theorem dX7_isLoose_4 : decode cX7_isLoose 4 = .ok (.iload_n 2, 1) := by decide +kernel
theorem dX7_isLoose_5 : decode cX7_isLoose 5 = .ok (.aload_n 0, 1) := by decide +kernel
theorem dX7_isLoose_6 : decode cX7_isLoose 6 = .ok (.getfield 7, 3) := by decide +kernel
theorem dX7_isLoose_9 : decode cX7_isLoose 9 = .ok (.if_icmp .gt 27, 3) := by decide +kernel
theorem dX7_isLoose_12 : decode cX7_isLoose 12 = .ok (.iload_n 1, 1) := by decide +kernel
theorem dX7_isLoose_13 : decode cX7_isLoose 13 = .ok (.ifCond .eq 15, 3) := by decide +kernel
theorem dX7_isLoose_16 : decode cX7_isLoose 16 = .ok (.aload_n 0, 1) := by decide +kernel
theorem dX7_isLoose_17 : decode cX7_isLoose 17 = .ok (.iload_n 2, 1) := by decide +kernel
theorem dX7_isLoose_18 : decode cX7_isLoose 18 = .ok (.invokevirtual 78, 3) := by decide +kernel
theorem dX7_isLoose_21 : decode cX7_isLoose 21 = .ok (.ifCond .ne 7, 3) := by decide +kernel
theorem dX7_isLoose_24 : decode cX7_isLoose 24 = .ok (.iconst 1, 1) := by decide +kernel
theorem dX7_isLoose_25 : decode cX7_isLoose 25 = .ok (.goto 4, 3) := by decide +kernel
theorem dX7_isLoose_28 : decode cX7_isLoose 28 = .ok (.iconst 0, 1) := by decide +kernel
theorem dX7_isLoose_29 : decode cX7_isLoose 29 = .ok (.istore_n 1, 1) := by decide +kernel
theorem dX7_isLoose_30 : decode cX7_isLoose 30 = .ok (.iinc 2 1, 3) := by decide +kernel
theorem dX7_isLoose_33 : decode cX7_isLoose 33 = .ok (.goto (-29), 3) := by decide +kernel
theorem dX7_isLoose_36 : decode cX7_isLoose 36 = .ok (.iload_n 1, 1) := by decide +kernel
theorem dX7_isLoose_37 : decode cX7_isLoose 37 = .ok (.ireturn, 1) := by decide +kernel
theorem dX7_stands_0 : decode cX7_stands 0 = .ok (.aload_n 0, 1) := by decide +kernel
theorem dX7_stands_1 : decode cX7_stands 1 = .ok (.invokevirtual 141, 3) := by decide +kernel
theorem dX7_stands_4 : decode cX7_stands 4 = .ok (.aload_n 0, 1) := by decide +kernel
theorem dX7_stands_5 : decode cX7_stands 5 = .ok (.getfield 114, 3) := by decide +kernel
theorem dX7_stands_8 : decode cX7_stands 8 = .ok (.ifCond .eq 7, 3) := by decide +kernel
theorem dX7_stands_11 : decode cX7_stands 11 = .ok (.iconst 1, 1) := by decide +kernel
theorem dX7_stands_12 : decode cX7_stands 12 = .ok (.goto 4, 3) := by decide +kernel
theorem dX7_stands_15 : decode cX7_stands 15 = .ok (.iconst 0, 1) := by decide +kernel
theorem dX7_stands_16 : decode cX7_stands 16 = .ok (.ireturn, 1) := by decide +kernel
theorem dX7_thrust_0 : decode cX7_thrust 0 = .ok (.iload_n 1, 1) := by decide +kernel
theorem dX7_thrust_1 : decode cX7_thrust 1 = .ok (.i2l, 1) := by decide +kernel
theorem dX7_thrust_2 : decode cX7_thrust 2 = .ok (.lconst 0, 1) := by decide +kernel
theorem dX7_thrust_3 : decode cX7_thrust 3 = .ok (.lconst 1, 1) := by decide +kernel
theorem dX7_thrust_4 : decode cX7_thrust 4 = .ok (.invokestatic 59, 3) := by decide +kernel
theorem dX7_thrust_7 : decode cX7_thrust 7 = .ok (.ifCond .eq 13, 3) := by decide +kernel
theorem dX7_thrust_10 : decode cX7_thrust 10 = .ok (.iload_n 2, 1) := by decide +kernel
theorem dX7_thrust_11 : decode cX7_thrust 11 = .ok (.i2l, 1) := by decide +kernel
theorem dX7_thrust_12 : decode cX7_thrust 12 = .ok (.lconst 0, 1) := by decide +kernel
theorem dX7_thrust_13 : decode cX7_thrust 13 = .ok (.lconst 1, 1) := by decide +kernel
theorem dX7_thrust_14 : decode cX7_thrust 14 = .ok (.invokestatic 59, 3) := by decide +kernel
theorem dX7_thrust_17 : decode cX7_thrust 17 = .ok (.ifCond .ne 7, 3) := by decide +kernel
theorem dX7_thrust_20 : decode cX7_thrust 20 = .ok (.ldc2_w 144, 3) := by decide +kernel
theorem dX7_thrust_23 : decode cX7_thrust 23 = .ok (.lreturn, 1) := by decide +kernel
theorem dX7_thrust_24 : decode cX7_thrust 24 = .ok (.aload_n 0, 1) := by decide +kernel
theorem dX7_thrust_25 : decode cX7_thrust 25 = .ok (.invokevirtual 141, 3) := by decide +kernel
theorem dX7_thrust_28 : decode cX7_thrust 28 = .ok (.aload_n 0, 1) := by decide +kernel
theorem dX7_thrust_29 : decode cX7_thrust 29 = .ok (.getfield 114, 3) := by decide +kernel
theorem dX7_thrust_32 : decode cX7_thrust 32 = .ok (.ifCond .ne 7, 3) := by decide +kernel
theorem dX7_thrust_35 : decode cX7_thrust 35 = .ok (.ldc2_w 86, 3) := by decide +kernel
theorem dX7_thrust_38 : decode cX7_thrust 38 = .ok (.lreturn, 1) := by decide +kernel
theorem dX7_thrust_39 : decode cX7_thrust 39 = .ok (.iload_n 1, 1) := by decide +kernel
theorem dX7_thrust_40 : decode cX7_thrust 40 = .ok (.ifCond .ne 12, 3) := by decide +kernel
theorem dX7_thrust_43 : decode cX7_thrust 43 = .ok (.aload_n 0, 1) := by decide +kernel
theorem dX7_thrust_44 : decode cX7_thrust 44 = .ok (.getfield 42, 3) := by decide +kernel
theorem dX7_thrust_47 : decode cX7_thrust 47 = .ok (.iconst 2, 1) := by decide +kernel
theorem dX7_thrust_48 : decode cX7_thrust 48 = .ok (.laload, 1) := by decide +kernel
theorem dX7_thrust_49 : decode cX7_thrust 49 = .ok (.goto 7, 3) := by decide +kernel
theorem dX7_thrust_52 : decode cX7_thrust 52 = .ok (.aload_n 0, 1) := by decide +kernel
theorem dX7_thrust_53 : decode cX7_thrust 53 = .ok (.getfield 135, 3) := by decide +kernel
theorem dX7_thrust_56 : decode cX7_thrust 56 = .ok (.lstore_n 3, 1) := by decide +kernel
theorem dX7_thrust_57 : decode cX7_thrust 57 = .ok (.iload_n 1, 1) := by decide +kernel
theorem dX7_thrust_58 : decode cX7_thrust 58 = .ok (.ifCond .ne 10, 3) := by decide +kernel
theorem dX7_thrust_61 : decode cX7_thrust 61 = .ok (.aload_n 0, 1) := by decide +kernel
theorem dX7_thrust_62 : decode cX7_thrust 62 = .ok (.getfield 128, 3) := by decide +kernel
theorem dX7_thrust_65 : decode cX7_thrust 65 = .ok (.goto 7, 3) := by decide +kernel
theorem dX7_thrust_68 : decode cX7_thrust 68 = .ok (.aload_n 0, 1) := by decide +kernel
theorem dX7_thrust_69 : decode cX7_thrust 69 = .ok (.getfield 138, 3) := by decide +kernel
theorem dX7_thrust_72 : decode cX7_thrust 72 = .ok (.lstore 5, 2) := by decide +kernel
theorem dX7_thrust_74 : decode cX7_thrust 74 = .ok (.iload_n 1, 1) := by decide +kernel
theorem dX7_thrust_75 : decode cX7_thrust 75 = .ok (.ifCond .ne 10, 3) := by decide +kernel
theorem dX7_thrust_78 : decode cX7_thrust 78 = .ok (.aload_n 0, 1) := by decide +kernel
theorem dX7_thrust_79 : decode cX7_thrust 79 = .ok (.invokevirtual 146, 3) := by decide +kernel
theorem dX7_thrust_82 : decode cX7_thrust 82 = .ok (.ifCond .ne 9, 3) := by decide +kernel
theorem dX7_thrust_85 : decode cX7_thrust 85 = .ok (.lload_n 3, 1) := by decide +kernel
theorem dX7_thrust_86 : decode cX7_thrust 86 = .ok (.lconst 0, 1) := by decide +kernel
theorem dX7_thrust_87 : decode cX7_thrust 87 = .ok (.lcmp, 1) := by decide +kernel
theorem dX7_thrust_88 : decode cX7_thrust 88 = .ok (.ifCond .ne 7, 3) := by decide +kernel
theorem dX7_thrust_91 : decode cX7_thrust 91 = .ok (.ldc2_w 149, 3) := by decide +kernel
theorem dX7_thrust_94 : decode cX7_thrust 94 = .ok (.lreturn, 1) := by decide +kernel
theorem dX7_thrust_95 : decode cX7_thrust 95 = .ok (.lload_n 3, 1) := by decide +kernel
theorem dX7_thrust_96 : decode cX7_thrust 96 = .ok (.lload 5, 2) := by decide +kernel
theorem dX7_thrust_98 : decode cX7_thrust 98 = .ok (.invokestatic 125, 3) := by decide +kernel
theorem dX7_thrust_101 : decode cX7_thrust 101 = .ok (.lstore 7, 2) := by decide +kernel
theorem dX7_thrust_103 : decode cX7_thrust 103 = .ok (.iload_n 2, 1) := by decide +kernel
theorem dX7_thrust_104 : decode cX7_thrust 104 = .ok (.ifCond .ne 11, 3) := by decide +kernel
theorem dX7_thrust_107 : decode cX7_thrust 107 = .ok (.lload 5, 2) := by decide +kernel
theorem dX7_thrust_109 : decode cX7_thrust 109 = .ok (.lload 7, 2) := by decide +kernel
theorem dX7_thrust_111 : decode cX7_thrust 111 = .ok (.ldiv, 1) := by decide +kernel
theorem dX7_thrust_112 : decode cX7_thrust 112 = .ok (.goto 7, 3) := by decide +kernel
theorem dX7_thrust_115 : decode cX7_thrust 115 = .ok (.lload_n 3, 1) := by decide +kernel
theorem dX7_thrust_116 : decode cX7_thrust 116 = .ok (.lload 7, 2) := by decide +kernel
theorem dX7_thrust_118 : decode cX7_thrust 118 = .ok (.ldiv, 1) := by decide +kernel
theorem dX7_thrust_119 : decode cX7_thrust 119 = .ok (.lreturn, 1) := by decide +kernel
theorem dX7_height_0 : decode cX7_height 0 = .ok (.iload_n 1, 1) := by decide +kernel
theorem dX7_height_1 : decode cX7_height 1 = .ok (.i2l, 1) := by decide +kernel
theorem dX7_height_2 : decode cX7_height 2 = .ok (.lconst 0, 1) := by decide +kernel
theorem dX7_height_3 : decode cX7_height 3 = .ok (.aload_n 0, 1) := by decide +kernel
theorem dX7_height_4 : decode cX7_height 4 = .ok (.getfield 7, 3) := by decide +kernel
theorem dX7_height_7 : decode cX7_height 7 = .ok (.i2l, 1) := by decide +kernel
theorem dX7_height_8 : decode cX7_height 8 = .ok (.invokestatic 59, 3) := by decide +kernel
theorem dX7_height_11 : decode cX7_height 11 = .ok (.ifCond .eq 13, 3) := by decide +kernel
theorem dX7_height_14 : decode cX7_height 14 = .ok (.iload_n 2, 1) := by decide +kernel
theorem dX7_height_15 : decode cX7_height 15 = .ok (.i2l, 1) := by decide +kernel
theorem dX7_height_16 : decode cX7_height 16 = .ok (.lconst 0, 1) := by decide +kernel
theorem dX7_height_17 : decode cX7_height 17 = .ok (.lconst 1, 1) := by decide +kernel
theorem dX7_height_18 : decode cX7_height 18 = .ok (.invokestatic 59, 3) := by decide +kernel
theorem dX7_height_21 : decode cX7_height 21 = .ok (.ifCond .ne 7, 3) := by decide +kernel
theorem dX7_height_24 : decode cX7_height 24 = .ok (.ldc2_w 151, 3) := by decide +kernel
theorem dX7_height_27 : decode cX7_height 27 = .ok (.lreturn, 1) := by decide +kernel
theorem dX7_height_28 : decode cX7_height 28 = .ok (.aload_n 0, 1) := by decide +kernel
theorem dX7_height_29 : decode cX7_height 29 = .ok (.invokevirtual 141, 3) := by decide +kernel
theorem dX7_height_32 : decode cX7_height 32 = .ok (.aload_n 0, 1) := by decide +kernel
theorem dX7_height_33 : decode cX7_height 33 = .ok (.getfield 114, 3) := by decide +kernel
theorem dX7_height_36 : decode cX7_height 36 = .ok (.ifCond .ne 7, 3) := by decide +kernel
theorem dX7_height_39 : decode cX7_height 39 = .ok (.ldc2_w 153, 3) := by decide +kernel
theorem dX7_height_42 : decode cX7_height 42 = .ok (.lreturn, 1) := by decide +kernel
theorem dX7_height_43 : decode cX7_height 43 = .ok (.aload_n 0, 1) := by decide +kernel
theorem dX7_height_44 : decode cX7_height 44 = .ok (.invokevirtual 146, 3) := by decide +kernel
theorem dX7_height_47 : decode cX7_height 47 = .ok (.ifCond .eq 7, 3) := by decide +kernel
theorem dX7_height_50 : decode cX7_height 50 = .ok (.ldc2_w 155, 3) := by decide +kernel
theorem dX7_height_53 : decode cX7_height 53 = .ok (.lreturn, 1) := by decide +kernel
theorem dX7_height_54 : decode cX7_height 54 = .ok (.aload_n 0, 1) := by decide +kernel
theorem dX7_height_55 : decode cX7_height 55 = .ok (.getfield 42, 3) := by decide +kernel
theorem dX7_height_58 : decode cX7_height 58 = .ok (.iconst 0, 1) := by decide +kernel
theorem dX7_height_59 : decode cX7_height 59 = .ok (.laload, 1) := by decide +kernel
theorem dX7_height_60 : decode cX7_height 60 = .ok (.aload_n 0, 1) := by decide +kernel
theorem dX7_height_61 : decode cX7_height 61 = .ok (.getfield 13, 3) := by decide +kernel
theorem dX7_height_64 : decode cX7_height 64 = .ok (.aload_n 0, 1) := by decide +kernel
theorem dX7_height_65 : decode cX7_height 65 = .ok (.getfield 7, 3) := by decide +kernel
theorem dX7_height_68 : decode cX7_height 68 = .ok (.iaload, 1) := by decide +kernel
theorem dX7_height_69 : decode cX7_height 69 = .ok (.aload_n 0, 1) := by decide +kernel
theorem dX7_height_70 : decode cX7_height 70 = .ok (.getfield 13, 3) := by decide +kernel
theorem dX7_height_73 : decode cX7_height 73 = .ok (.iload_n 1, 1) := by decide +kernel
theorem dX7_height_74 : decode cX7_height 74 = .ok (.iaload, 1) := by decide +kernel
theorem dX7_height_75 : decode cX7_height 75 = .ok (.isub, 1) := by decide +kernel
theorem dX7_height_76 : decode cX7_height 76 = .ok (.i2l, 1) := by decide +kernel
theorem dX7_height_77 : decode cX7_height 77 = .ok (.lmul, 1) := by decide +kernel
theorem dX7_height_78 : decode cX7_height 78 = .ok (.aload_n 0, 1) := by decide +kernel
theorem dX7_height_79 : decode cX7_height 79 = .ok (.getfield 42, 3) := by decide +kernel
theorem dX7_height_82 : decode cX7_height 82 = .ok (.iconst 1, 1) := by decide +kernel
theorem dX7_height_83 : decode cX7_height 83 = .ok (.laload, 1) := by decide +kernel
theorem dX7_height_84 : decode cX7_height 84 = .ok (.aload_n 0, 1) := by decide +kernel
theorem dX7_height_85 : decode cX7_height 85 = .ok (.getfield 13, 3) := by decide +kernel
theorem dX7_height_88 : decode cX7_height 88 = .ok (.iload_n 1, 1) := by decide +kernel
theorem dX7_height_89 : decode cX7_height 89 = .ok (.iaload, 1) := by decide +kernel
theorem dX7_height_90 : decode cX7_height 90 = .ok (.i2l, 1) := by decide +kernel
theorem dX7_height_91 : decode cX7_height 91 = .ok (.lmul, 1) := by decide +kernel
theorem dX7_height_92 : decode cX7_height 92 = .ok (.ladd, 1) := by decide +kernel
theorem dX7_height_93 : decode cX7_height 93 = .ok (.aload_n 0, 1) := by decide +kernel
theorem dX7_height_94 : decode cX7_height 94 = .ok (.getfield 42, 3) := by decide +kernel
theorem dX7_height_97 : decode cX7_height 97 = .ok (.iconst 2, 1) := by decide +kernel
theorem dX7_height_98 : decode cX7_height 98 = .ok (.laload, 1) := by decide +kernel
theorem dX7_height_99 : decode cX7_height 99 = .ok (.aload_n 0, 1) := by decide +kernel
theorem dX7_height_100 : decode cX7_height 100 = .ok (.iload_n 1, 1) := by decide +kernel
theorem dX7_height_101 : decode cX7_height 101 = .ok (.invokevirtual 78, 3) := by decide +kernel
theorem dX7_height_104 : decode cX7_height 104 = .ok (.i2l, 1) := by decide +kernel
theorem dX7_height_105 : decode cX7_height 105 = .ok (.lmul, 1) := by decide +kernel
theorem dX7_height_106 : decode cX7_height 106 = .ok (.ladd, 1) := by decide +kernel
theorem dX7_height_107 : decode cX7_height 107 = .ok (.lstore_n 3, 1) := by decide +kernel
theorem dX7_height_108 : decode cX7_height 108 = .ok (.aload_n 0, 1) := by decide +kernel
theorem dX7_height_109 : decode cX7_height 109 = .ok (.getfield 128, 3) := by decide +kernel
theorem dX7_height_112 : decode cX7_height 112 = .ok (.aload_n 0, 1) := by decide +kernel
theorem dX7_height_113 : decode cX7_height 113 = .ok (.getfield 13, 3) := by decide +kernel
theorem dX7_height_116 : decode cX7_height 116 = .ok (.aload_n 0, 1) := by decide +kernel
theorem dX7_height_117 : decode cX7_height 117 = .ok (.getfield 7, 3) := by decide +kernel
theorem dX7_height_120 : decode cX7_height 120 = .ok (.iaload, 1) := by decide +kernel
theorem dX7_height_121 : decode cX7_height 121 = .ok (.i2l, 1) := by decide +kernel
theorem dX7_height_122 : decode cX7_height 122 = .ok (.lmul, 1) := by decide +kernel
theorem dX7_height_123 : decode cX7_height 123 = .ok (.lstore 5, 2) := by decide +kernel
theorem dX7_height_125 : decode cX7_height 125 = .ok (.lload_n 3, 1) := by decide +kernel
theorem dX7_height_126 : decode cX7_height 126 = .ok (.lload 5, 2) := by decide +kernel
theorem dX7_height_128 : decode cX7_height 128 = .ok (.invokestatic 125, 3) := by decide +kernel
theorem dX7_height_131 : decode cX7_height 131 = .ok (.lstore 7, 2) := by decide +kernel
theorem dX7_height_133 : decode cX7_height 133 = .ok (.iload_n 2, 1) := by decide +kernel
theorem dX7_height_134 : decode cX7_height 134 = .ok (.ifCond .ne 10, 3) := by decide +kernel
theorem dX7_height_137 : decode cX7_height 137 = .ok (.lload_n 3, 1) := by decide +kernel
theorem dX7_height_138 : decode cX7_height 138 = .ok (.lload 7, 2) := by decide +kernel
theorem dX7_height_140 : decode cX7_height 140 = .ok (.ldiv, 1) := by decide +kernel
theorem dX7_height_141 : decode cX7_height 141 = .ok (.goto 8, 3) := by decide +kernel
theorem dX7_height_144 : decode cX7_height 144 = .ok (.lload 5, 2) := by decide +kernel
theorem dX7_height_146 : decode cX7_height 146 = .ok (.lload 7, 2) := by decide +kernel
theorem dX7_height_148 : decode cX7_height 148 = .ok (.ldiv, 1) := by decide +kernel
theorem dX7_height_149 : decode cX7_height 149 = .ok (.lreturn, 1) := by decide +kernel
theorem dX7_fits_0 : decode cX7_fits 0 = .ok (.iload_n 1, 1) := by decide +kernel
theorem dX7_fits_1 : decode cX7_fits 1 = .ok (.i2l, 1) := by decide +kernel
theorem dX7_fits_2 : decode cX7_fits 2 = .ok (.ldc2_w 65, 3) := by decide +kernel
theorem dX7_fits_5 : decode cX7_fits 5 = .ok (.ldc2_w 63, 3) := by decide +kernel
theorem dX7_fits_8 : decode cX7_fits 8 = .ok (.invokestatic 59, 3) := by decide +kernel
theorem dX7_fits_11 : decode cX7_fits 11 = .ok (.ifCond .eq 42, 3) := by decide +kernel
theorem dX7_fits_14 : decode cX7_fits 14 = .ok (.iload_n 2, 1) := by decide +kernel
theorem dX7_fits_15 : decode cX7_fits 15 = .ok (.i2l, 1) := by decide +kernel
theorem dX7_fits_16 : decode cX7_fits 16 = .ok (.ldc2_w 65, 3) := by decide +kernel
theorem dX7_fits_19 : decode cX7_fits 19 = .ok (.ldc2_w 63, 3) := by decide +kernel
theorem dX7_fits_22 : decode cX7_fits 22 = .ok (.invokestatic 59, 3) := by decide +kernel
theorem dX7_fits_25 : decode cX7_fits 25 = .ok (.ifCond .eq 28, 3) := by decide +kernel
theorem dX7_fits_28 : decode cX7_fits 28 = .ok (.iload_n 3, 1) := by decide +kernel
theorem dX7_fits_29 : decode cX7_fits 29 = .ok (.i2l, 1) := by decide +kernel
theorem dX7_fits_30 : decode cX7_fits 30 = .ok (.lconst 0, 1) := by decide +kernel
theorem dX7_fits_31 : decode cX7_fits 31 = .ok (.ldc2_w 157, 3) := by decide +kernel
theorem dX7_fits_34 : decode cX7_fits 34 = .ok (.invokestatic 59, 3) := by decide +kernel
theorem dX7_fits_37 : decode cX7_fits 37 = .ok (.ifCond .eq 16, 3) := by decide +kernel
theorem dX7_fits_40 : decode cX7_fits 40 = .ok (.iload 4, 2) := by decide +kernel
theorem dX7_fits_42 : decode cX7_fits 42 = .ok (.i2l, 1) := by decide +kernel
theorem dX7_fits_43 : decode cX7_fits 43 = .ok (.lconst 1, 1) := by decide +kernel
theorem dX7_fits_44 : decode cX7_fits 44 = .ok (.ldc2_w 157, 3) := by decide +kernel
theorem dX7_fits_47 : decode cX7_fits 47 = .ok (.invokestatic 59, 3) := by decide +kernel
theorem dX7_fits_50 : decode cX7_fits 50 = .ok (.ifCond .ne 5, 3) := by decide +kernel
theorem dX7_fits_53 : decode cX7_fits 53 = .ok (.iconst (-1), 1) := by decide +kernel
theorem dX7_fits_54 : decode cX7_fits 54 = .ok (.ireturn, 1) := by decide +kernel
theorem dX7_fits_55 : decode cX7_fits 55 = .ok (.aload_n 0, 1) := by decide +kernel
theorem dX7_fits_56 : decode cX7_fits 56 = .ok (.iconst 0, 1) := by decide +kernel
theorem dX7_fits_57 : decode cX7_fits 57 = .ok (.invokevirtual 110, 3) := by decide +kernel
theorem dX7_fits_60 : decode cX7_fits 60 = .ok (.aload_n 0, 1) := by decide +kernel
theorem dX7_fits_61 : decode cX7_fits 61 = .ok (.getfield 39, 3) := by decide +kernel
theorem dX7_fits_64 : decode cX7_fits 64 = .ok (.iconst 0, 1) := by decide +kernel
theorem dX7_fits_65 : decode cX7_fits 65 = .ok (.iload_n 1, 1) := by decide +kernel
theorem dX7_fits_66 : decode cX7_fits 66 = .ok (.i2l, 1) := by decide +kernel
theorem dX7_fits_67 : decode cX7_fits 67 = .ok (.iload 4, 2) := by decide +kernel
theorem dX7_fits_69 : decode cX7_fits 69 = .ok (.i2l, 1) := by decide +kernel
theorem dX7_fits_70 : decode cX7_fits 70 = .ok (.lmul, 1) := by decide +kernel
theorem dX7_fits_71 : decode cX7_fits 71 = .ok (.lastore, 1) := by decide +kernel
theorem dX7_fits_72 : decode cX7_fits 72 = .ok (.aload_n 0, 1) := by decide +kernel
theorem dX7_fits_73 : decode cX7_fits 73 = .ok (.getfield 39, 3) := by decide +kernel
theorem dX7_fits_76 : decode cX7_fits 76 = .ok (.iconst 1, 1) := by decide +kernel
theorem dX7_fits_77 : decode cX7_fits 77 = .ok (.iload_n 2, 1) := by decide +kernel
theorem dX7_fits_78 : decode cX7_fits 78 = .ok (.i2l, 1) := by decide +kernel
theorem dX7_fits_79 : decode cX7_fits 79 = .ok (.iload 4, 2) := by decide +kernel
theorem dX7_fits_81 : decode cX7_fits 81 = .ok (.i2l, 1) := by decide +kernel
theorem dX7_fits_82 : decode cX7_fits 82 = .ok (.lmul, 1) := by decide +kernel
theorem dX7_fits_83 : decode cX7_fits 83 = .ok (.lastore, 1) := by decide +kernel
theorem dX7_fits_84 : decode cX7_fits 84 = .ok (.aload_n 0, 1) := by decide +kernel
theorem dX7_fits_85 : decode cX7_fits 85 = .ok (.getfield 39, 3) := by decide +kernel
theorem dX7_fits_88 : decode cX7_fits 88 = .ok (.iconst 2, 1) := by decide +kernel
theorem dX7_fits_89 : decode cX7_fits 89 = .ok (.iload_n 3, 1) := by decide +kernel
theorem dX7_fits_90 : decode cX7_fits 90 = .ok (.i2l, 1) := by decide +kernel
theorem dX7_fits_91 : decode cX7_fits 91 = .ok (.lastore, 1) := by decide +kernel
theorem dX7_fits_92 : decode cX7_fits 92 = .ok (.aload_n 0, 1) := by decide +kernel
theorem dX7_fits_93 : decode cX7_fits 93 = .ok (.getfield 39, 3) := by decide +kernel
theorem dX7_fits_96 : decode cX7_fits 96 = .ok (.iconst 3, 1) := by decide +kernel
theorem dX7_fits_97 : decode cX7_fits 97 = .ok (.lconst 0, 1) := by decide +kernel
theorem dX7_fits_98 : decode cX7_fits 98 = .ok (.lastore, 1) := by decide +kernel
theorem dX7_fits_99 : decode cX7_fits 99 = .ok (.aload_n 0, 1) := by decide +kernel
theorem dX7_fits_100 : decode cX7_fits 100 = .ok (.iload 4, 2) := by decide +kernel
theorem dX7_fits_102 : decode cX7_fits 102 = .ok (.i2l, 1) := by decide +kernel
theorem dX7_fits_103 : decode cX7_fits 103 = .ok (.putfield 91, 3) := by decide +kernel
theorem dX7_fits_106 : decode cX7_fits 106 = .ok (.aload_n 0, 1) := by decide +kernel
theorem dX7_fits_107 : decode cX7_fits 107 = .ok (.invokevirtual 102, 3) := by decide +kernel
theorem dX7_fits_110 : decode cX7_fits 110 = .ok (.ifCond .eq 7, 3) := by decide +kernel
theorem dX7_fits_113 : decode cX7_fits 113 = .ok (.iconst 1, 1) := by decide +kernel
theorem dX7_fits_114 : decode cX7_fits 114 = .ok (.goto 4, 3) := by decide +kernel
theorem dX7_fits_117 : decode cX7_fits 117 = .ok (.iconst 0, 1) := by decide +kernel
theorem dX7_fits_118 : decode cX7_fits 118 = .ok (.ireturn, 1) := by decide +kernel
theorem dX7_pair_0 : decode cX7_pair 0 = .ok (.aload_n 0, 1) := by decide +kernel
theorem dX7_pair_1 : decode cX7_pair 1 = .ok (.getfield 35, 3) := by decide +kernel
theorem dX7_pair_4 : decode cX7_pair 4 = .ok (.iconst 5, 1) := by decide +kernel
theorem dX7_pair_5 : decode cX7_pair 5 = .ok (.iload_n 1, 1) := by decide +kernel
theorem dX7_pair_6 : decode cX7_pair 6 = .ok (.imul, 1) := by decide +kernel
theorem dX7_pair_7 : decode cX7_pair 7 = .ok (.iload_n 3, 1) := by decide +kernel
theorem dX7_pair_8 : decode cX7_pair 8 = .ok (.iadd, 1) := by decide +kernel
theorem dX7_pair_9 : decode cX7_pair 9 = .ok (.laload, 1) := by decide +kernel
theorem dX7_pair_10 : decode cX7_pair 10 = .ok (.aload_n 0, 1) := by decide +kernel
theorem dX7_pair_11 : decode cX7_pair 11 = .ok (.getfield 35, 3) := by decide +kernel
theorem dX7_pair_14 : decode cX7_pair 14 = .ok (.iconst 5, 1) := by decide +kernel
theorem dX7_pair_15 : decode cX7_pair 15 = .ok (.iload_n 2, 1) := by decide +kernel
theorem dX7_pair_16 : decode cX7_pair 16 = .ok (.imul, 1) := by decide +kernel
theorem dX7_pair_17 : decode cX7_pair 17 = .ok (.iload 4, 2) := by decide +kernel
theorem dX7_pair_19 : decode cX7_pair 19 = .ok (.iadd, 1) := by decide +kernel
theorem dX7_pair_20 : decode cX7_pair 20 = .ok (.laload, 1) := by decide +kernel
theorem dX7_pair_21 : decode cX7_pair 21 = .ok (.lmul, 1) := by decide +kernel
theorem dX7_pair_22 : decode cX7_pair 22 = .ok (.aload_n 0, 1) := by decide +kernel
theorem dX7_pair_23 : decode cX7_pair 23 = .ok (.getfield 35, 3) := by decide +kernel
theorem dX7_pair_26 : decode cX7_pair 26 = .ok (.iconst 5, 1) := by decide +kernel
theorem dX7_pair_27 : decode cX7_pair 27 = .ok (.iload_n 1, 1) := by decide +kernel
theorem dX7_pair_28 : decode cX7_pair 28 = .ok (.imul, 1) := by decide +kernel
theorem dX7_pair_29 : decode cX7_pair 29 = .ok (.iload 4, 2) := by decide +kernel
theorem dX7_pair_31 : decode cX7_pair 31 = .ok (.iadd, 1) := by decide +kernel
theorem dX7_pair_32 : decode cX7_pair 32 = .ok (.laload, 1) := by decide +kernel
theorem dX7_pair_33 : decode cX7_pair 33 = .ok (.aload_n 0, 1) := by decide +kernel
theorem dX7_pair_34 : decode cX7_pair 34 = .ok (.getfield 35, 3) := by decide +kernel
theorem dX7_pair_37 : decode cX7_pair 37 = .ok (.iconst 5, 1) := by decide +kernel
theorem dX7_pair_38 : decode cX7_pair 38 = .ok (.iload_n 2, 1) := by decide +kernel
theorem dX7_pair_39 : decode cX7_pair 39 = .ok (.imul, 1) := by decide +kernel
theorem dX7_pair_40 : decode cX7_pair 40 = .ok (.iload_n 3, 1) := by decide +kernel
theorem dX7_pair_41 : decode cX7_pair 41 = .ok (.iadd, 1) := by decide +kernel
theorem dX7_pair_42 : decode cX7_pair 42 = .ok (.laload, 1) := by decide +kernel
theorem dX7_pair_43 : decode cX7_pair 43 = .ok (.lmul, 1) := by decide +kernel
theorem dX7_pair_44 : decode cX7_pair 44 = .ok (.lsub, 1) := by decide +kernel
theorem dX7_pair_45 : decode cX7_pair 45 = .ok (.lreturn, 1) := by decide +kernel
theorem dX7_isAgainst_0 : decode cX7_isAgainst 0 = .ok (.lload_n 2, 1) := by decide +kernel
theorem dX7_isAgainst_1 : decode cX7_isAgainst 1 = .ok (.lconst 0, 1) := by decide +kernel
theorem dX7_isAgainst_2 : decode cX7_isAgainst 2 = .ok (.lcmp, 1) := by decide +kernel
theorem dX7_isAgainst_3 : decode cX7_isAgainst 3 = .ok (.ifCond .le 7, 3) := by decide +kernel
theorem dX7_isAgainst_6 : decode cX7_isAgainst 6 = .ok (.lconst 1, 1) := by decide +kernel
theorem dX7_isAgainst_7 : decode cX7_isAgainst 7 = .ok (.goto 6, 3) := by decide +kernel
theorem dX7_isAgainst_10 : decode cX7_isAgainst 10 = .ok (.ldc2_w 144, 3) := by decide +kernel
theorem dX7_isAgainst_13 : decode cX7_isAgainst 13 = .ok (.lstore 10, 2) := by decide +kernel
theorem dX7_isAgainst_15 : decode cX7_isAgainst 15 = .ok (.lload_n 2, 1) := by decide +kernel
theorem dX7_isAgainst_16 : decode cX7_isAgainst 16 = .ok (.lload 10, 2) := by decide +kernel
theorem dX7_isAgainst_18 : decode cX7_isAgainst 18 = .ok (.lmul, 1) := by decide +kernel
theorem dX7_isAgainst_19 : decode cX7_isAgainst 19 = .ok (.lconst 0, 1) := by decide +kernel
theorem dX7_isAgainst_20 : decode cX7_isAgainst 20 = .ok (.lcmp, 1) := by decide +kernel
theorem dX7_isAgainst_21 : decode cX7_isAgainst 21 = .ok (.ifCond .le 47, 3) := by decide +kernel
theorem dX7_isAgainst_24 : decode cX7_isAgainst 24 = .ok (.lload 4, 2) := by decide +kernel
theorem dX7_isAgainst_26 : decode cX7_isAgainst 26 = .ok (.lload 10, 2) := by decide +kernel
theorem dX7_isAgainst_28 : decode cX7_isAgainst 28 = .ok (.lmul, 1) := by decide +kernel
theorem dX7_isAgainst_29 : decode cX7_isAgainst 29 = .ok (.lconst 0, 1) := by decide +kernel
theorem dX7_isAgainst_30 : decode cX7_isAgainst 30 = .ok (.lcmp, 1) := by decide +kernel
theorem dX7_isAgainst_31 : decode cX7_isAgainst 31 = .ok (.ifCond .le 37, 3) := by decide +kernel
theorem dX7_isAgainst_34 : decode cX7_isAgainst 34 = .ok (.iload_n 1, 1) := by decide +kernel
theorem dX7_isAgainst_35 : decode cX7_isAgainst 35 = .ok (.iconst 3, 1) := by decide +kernel
theorem dX7_isAgainst_36 : decode cX7_isAgainst 36 = .ok (.if_icmp .lt 13, 3) := by decide +kernel
theorem dX7_isAgainst_39 : decode cX7_isAgainst 39 = .ok (.lload 6, 2) := by decide +kernel
theorem dX7_isAgainst_41 : decode cX7_isAgainst 41 = .ok (.lload 10, 2) := by decide +kernel
theorem dX7_isAgainst_43 : decode cX7_isAgainst 43 = .ok (.lmul, 1) := by decide +kernel
theorem dX7_isAgainst_44 : decode cX7_isAgainst 44 = .ok (.lconst 0, 1) := by decide +kernel
theorem dX7_isAgainst_45 : decode cX7_isAgainst 45 = .ok (.lcmp, 1) := by decide +kernel
theorem dX7_isAgainst_46 : decode cX7_isAgainst 46 = .ok (.ifCond .le 22, 3) := by decide +kernel
theorem dX7_isAgainst_49 : decode cX7_isAgainst 49 = .ok (.iload_n 1, 1) := by decide +kernel
theorem dX7_isAgainst_50 : decode cX7_isAgainst 50 = .ok (.iconst 4, 1) := by decide +kernel
theorem dX7_isAgainst_51 : decode cX7_isAgainst 51 = .ok (.if_icmp .lt 13, 3) := by decide +kernel
theorem dX7_isAgainst_54 : decode cX7_isAgainst 54 = .ok (.lload 8, 2) := by decide +kernel
theorem dX7_isAgainst_56 : decode cX7_isAgainst 56 = .ok (.lload 10, 2) := by decide +kernel
theorem dX7_isAgainst_58 : decode cX7_isAgainst 58 = .ok (.lmul, 1) := by decide +kernel
theorem dX7_isAgainst_59 : decode cX7_isAgainst 59 = .ok (.lconst 0, 1) := by decide +kernel
theorem dX7_isAgainst_60 : decode cX7_isAgainst 60 = .ok (.lcmp, 1) := by decide +kernel
theorem dX7_isAgainst_61 : decode cX7_isAgainst 61 = .ok (.ifCond .le 7, 3) := by decide +kernel
theorem dX7_isAgainst_64 : decode cX7_isAgainst 64 = .ok (.iconst 1, 1) := by decide +kernel
theorem dX7_isAgainst_65 : decode cX7_isAgainst 65 = .ok (.goto 4, 3) := by decide +kernel
theorem dX7_isAgainst_68 : decode cX7_isAgainst 68 = .ok (.iconst 0, 1) := by decide +kernel
theorem dX7_isAgainst_69 : decode cX7_isAgainst 69 = .ok (.istore 12, 2) := by decide +kernel
theorem dX7_isAgainst_71 : decode cX7_isAgainst 71 = .ok (.iload 12, 2) := by decide +kernel
theorem dX7_isAgainst_73 : decode cX7_isAgainst 73 = .ok (.ifCond .ne 5, 3) := by decide +kernel
theorem dX7_isAgainst_76 : decode cX7_isAgainst 76 = .ok (.iconst 0, 1) := by decide +kernel
theorem dX7_isAgainst_77 : decode cX7_isAgainst 77 = .ok (.ireturn, 1) := by decide +kernel
theorem dX7_isAgainst_78 : decode cX7_isAgainst 78 = .ok (.iconst 0, 1) := by decide +kernel
theorem dX7_isAgainst_79 : decode cX7_isAgainst 79 = .ok (.istore 13, 2) := by decide +kernel
theorem dX7_isAgainst_81 : decode cX7_isAgainst 81 = .ok (.iload 13, 2) := by decide +kernel
theorem dX7_isAgainst_83 : decode cX7_isAgainst 83 = .ok (.iconst 3, 1) := by decide +kernel
theorem dX7_isAgainst_84 : decode cX7_isAgainst 84 = .ok (.if_icmp .ge 30, 3) := by decide +kernel
theorem dX7_isAgainst_87 : decode cX7_isAgainst 87 = .ok (.aload_n 0, 1) := by decide +kernel
theorem dX7_isAgainst_88 : decode cX7_isAgainst 88 = .ok (.iload_n 1, 1) := by decide +kernel
theorem dX7_isAgainst_89 : decode cX7_isAgainst 89 = .ok (.iload 13, 2) := by decide +kernel
theorem dX7_isAgainst_91 : decode cX7_isAgainst 91 = .ok (.lload_n 2, 1) := by decide +kernel
theorem dX7_isAgainst_92 : decode cX7_isAgainst 92 = .ok (.lload 4, 2) := by decide +kernel
theorem dX7_isAgainst_94 : decode cX7_isAgainst 94 = .ok (.lload 6, 2) := by decide +kernel
theorem dX7_isAgainst_96 : decode cX7_isAgainst 96 = .ok (.lload 8, 2) := by decide +kernel
theorem dX7_isAgainst_98 : decode cX7_isAgainst 98 = .ok (.invokevirtual 159, 3) := by decide +kernel
theorem dX7_isAgainst_101 : decode cX7_isAgainst 101 = .ok (.lconst 0, 1) := by decide +kernel
theorem dX7_isAgainst_102 : decode cX7_isAgainst 102 = .ok (.lcmp, 1) := by decide +kernel
theorem dX7_isAgainst_103 : decode cX7_isAgainst 103 = .ok (.ifCond .eq 5, 3) := by decide +kernel
theorem dX7_isAgainst_106 : decode cX7_isAgainst 106 = .ok (.iconst 0, 1) := by decide +kernel
theorem dX7_isAgainst_107 : decode cX7_isAgainst 107 = .ok (.ireturn, 1) := by decide +kernel
theorem dX7_isAgainst_108 : decode cX7_isAgainst 108 = .ok (.iinc 13 1, 3) := by decide +kernel
theorem dX7_isAgainst_111 : decode cX7_isAgainst 111 = .ok (.goto (-30), 3) := by decide +kernel
theorem dX7_isAgainst_114 : decode cX7_isAgainst 114 = .ok (.aload_n 0, 1) := by decide +kernel
theorem dX7_isAgainst_115 : decode cX7_isAgainst 115 = .ok (.iload_n 1, 1) := by decide +kernel
theorem dX7_isAgainst_116 : decode cX7_isAgainst 116 = .ok (.iconst 4, 1) := by decide +kernel
theorem dX7_isAgainst_117 : decode cX7_isAgainst 117 = .ok (.lload_n 2, 1) := by decide +kernel
theorem dX7_isAgainst_118 : decode cX7_isAgainst 118 = .ok (.lload 4, 2) := by decide +kernel
theorem dX7_isAgainst_120 : decode cX7_isAgainst 120 = .ok (.lload 6, 2) := by decide +kernel
theorem dX7_isAgainst_122 : decode cX7_isAgainst 122 = .ok (.lload 8, 2) := by decide +kernel
theorem dX7_isAgainst_124 : decode cX7_isAgainst 124 = .ok (.invokevirtual 159, 3) := by decide +kernel
theorem dX7_isAgainst_127 : decode cX7_isAgainst 127 = .ok (.lload 10, 2) := by decide +kernel
theorem dX7_isAgainst_129 : decode cX7_isAgainst 129 = .ok (.lmul, 1) := by decide +kernel
theorem dX7_isAgainst_130 : decode cX7_isAgainst 130 = .ok (.lconst 0, 1) := by decide +kernel
theorem dX7_isAgainst_131 : decode cX7_isAgainst 131 = .ok (.lcmp, 1) := by decide +kernel
theorem dX7_isAgainst_132 : decode cX7_isAgainst 132 = .ok (.ifCond .le 7, 3) := by decide +kernel
theorem dX7_isAgainst_135 : decode cX7_isAgainst 135 = .ok (.iconst 1, 1) := by decide +kernel
theorem dX7_isAgainst_136 : decode cX7_isAgainst 136 = .ok (.goto 4, 3) := by decide +kernel
theorem dX7_isAgainst_139 : decode cX7_isAgainst 139 = .ok (.iconst 0, 1) := by decide +kernel
theorem dX7_isAgainst_140 : decode cX7_isAgainst 140 = .ok (.ireturn, 1) := by decide +kernel
theorem dX7_summed_0 : decode cX7_summed 0 = .ok (.aload_n 0, 1) := by decide +kernel
theorem dX7_summed_1 : decode cX7_summed 1 = .ok (.getfield 35, 3) := by decide +kernel
theorem dX7_summed_4 : decode cX7_summed 4 = .ok (.iconst 5, 1) := by decide +kernel
theorem dX7_summed_5 : decode cX7_summed 5 = .ok (.aload_n 0, 1) := by decide +kernel
theorem dX7_summed_6 : decode cX7_summed 6 = .ok (.getfield 45, 3) := by decide +kernel
theorem dX7_summed_9 : decode cX7_summed 9 = .ok (.iconst 0, 1) := by decide +kernel
theorem dX7_summed_10 : decode cX7_summed 10 = .ok (.iaload, 1) := by decide +kernel
theorem dX7_summed_11 : decode cX7_summed 11 = .ok (.imul, 1) := by decide +kernel
theorem dX7_summed_12 : decode cX7_summed 12 = .ok (.iload_n 2, 1) := by decide +kernel
theorem dX7_summed_13 : decode cX7_summed 13 = .ok (.iadd, 1) := by decide +kernel
theorem dX7_summed_14 : decode cX7_summed 14 = .ok (.laload, 1) := by decide +kernel
theorem dX7_summed_15 : decode cX7_summed 15 = .ok (.lload_n 3, 1) := by decide +kernel
theorem dX7_summed_16 : decode cX7_summed 16 = .ok (.lmul, 1) := by decide +kernel
theorem dX7_summed_17 : decode cX7_summed 17 = .ok (.aload_n 0, 1) := by decide +kernel
theorem dX7_summed_18 : decode cX7_summed 18 = .ok (.getfield 35, 3) := by decide +kernel
theorem dX7_summed_21 : decode cX7_summed 21 = .ok (.iconst 5, 1) := by decide +kernel
theorem dX7_summed_22 : decode cX7_summed 22 = .ok (.aload_n 0, 1) := by decide +kernel
theorem dX7_summed_23 : decode cX7_summed 23 = .ok (.getfield 45, 3) := by decide +kernel
theorem dX7_summed_26 : decode cX7_summed 26 = .ok (.iconst 1, 1) := by decide +kernel
theorem dX7_summed_27 : decode cX7_summed 27 = .ok (.iaload, 1) := by decide +kernel
theorem dX7_summed_28 : decode cX7_summed 28 = .ok (.imul, 1) := by decide +kernel
theorem dX7_summed_29 : decode cX7_summed 29 = .ok (.iload_n 2, 1) := by decide +kernel
theorem dX7_summed_30 : decode cX7_summed 30 = .ok (.iadd, 1) := by decide +kernel
theorem dX7_summed_31 : decode cX7_summed 31 = .ok (.laload, 1) := by decide +kernel
theorem dX7_summed_32 : decode cX7_summed 32 = .ok (.lload 5, 2) := by decide +kernel
theorem dX7_summed_34 : decode cX7_summed 34 = .ok (.lmul, 1) := by decide +kernel
theorem dX7_summed_35 : decode cX7_summed 35 = .ok (.ladd, 1) := by decide +kernel
theorem dX7_summed_36 : decode cX7_summed 36 = .ok (.lstore 11, 2) := by decide +kernel
theorem dX7_summed_38 : decode cX7_summed 38 = .ok (.lload 11, 2) := by decide +kernel
theorem dX7_summed_40 : decode cX7_summed 40 = .ok (.iload_n 1, 1) := by decide +kernel
theorem dX7_summed_41 : decode cX7_summed 41 = .ok (.iconst 2, 1) := by decide +kernel
theorem dX7_summed_42 : decode cX7_summed 42 = .ok (.if_icmp .le 24, 3) := by decide +kernel
theorem dX7_summed_45 : decode cX7_summed 45 = .ok (.aload_n 0, 1) := by decide +kernel
theorem dX7_summed_46 : decode cX7_summed 46 = .ok (.getfield 35, 3) := by decide +kernel
theorem dX7_summed_49 : decode cX7_summed 49 = .ok (.iconst 5, 1) := by decide +kernel
theorem dX7_summed_50 : decode cX7_summed 50 = .ok (.aload_n 0, 1) := by decide +kernel
theorem dX7_summed_51 : decode cX7_summed 51 = .ok (.getfield 45, 3) := by decide +kernel
theorem dX7_summed_54 : decode cX7_summed 54 = .ok (.iconst 2, 1) := by decide +kernel
theorem dX7_summed_55 : decode cX7_summed 55 = .ok (.iaload, 1) := by decide +kernel
theorem dX7_summed_56 : decode cX7_summed 56 = .ok (.imul, 1) := by decide +kernel
theorem dX7_summed_57 : decode cX7_summed 57 = .ok (.iload_n 2, 1) := by decide +kernel
theorem dX7_summed_58 : decode cX7_summed 58 = .ok (.iadd, 1) := by decide +kernel
theorem dX7_summed_59 : decode cX7_summed 59 = .ok (.laload, 1) := by decide +kernel
theorem dX7_summed_60 : decode cX7_summed 60 = .ok (.lload 7, 2) := by decide +kernel
theorem dX7_summed_62 : decode cX7_summed 62 = .ok (.lmul, 1) := by decide +kernel
theorem dX7_summed_63 : decode cX7_summed 63 = .ok (.goto 4, 3) := by decide +kernel
theorem dX7_summed_66 : decode cX7_summed 66 = .ok (.lconst 0, 1) := by decide +kernel
theorem dX7_summed_67 : decode cX7_summed 67 = .ok (.ladd, 1) := by decide +kernel
theorem dX7_summed_68 : decode cX7_summed 68 = .ok (.lstore 11, 2) := by decide +kernel
theorem dX7_summed_70 : decode cX7_summed 70 = .ok (.iload_n 1, 1) := by decide +kernel
theorem dX7_summed_71 : decode cX7_summed 71 = .ok (.iconst 3, 1) := by decide +kernel
theorem dX7_summed_72 : decode cX7_summed 72 = .ok (.if_icmp .le 27, 3) := by decide +kernel
theorem dX7_summed_75 : decode cX7_summed 75 = .ok (.lload 11, 2) := by decide +kernel
theorem dX7_summed_77 : decode cX7_summed 77 = .ok (.aload_n 0, 1) := by decide +kernel
theorem dX7_summed_78 : decode cX7_summed 78 = .ok (.getfield 35, 3) := by decide +kernel
theorem dX7_summed_81 : decode cX7_summed 81 = .ok (.iconst 5, 1) := by decide +kernel
theorem dX7_summed_82 : decode cX7_summed 82 = .ok (.aload_n 0, 1) := by decide +kernel
theorem dX7_summed_83 : decode cX7_summed 83 = .ok (.getfield 45, 3) := by decide +kernel
theorem dX7_summed_86 : decode cX7_summed 86 = .ok (.iconst 3, 1) := by decide +kernel
theorem dX7_summed_87 : decode cX7_summed 87 = .ok (.iaload, 1) := by decide +kernel
theorem dX7_summed_88 : decode cX7_summed 88 = .ok (.imul, 1) := by decide +kernel
theorem dX7_summed_89 : decode cX7_summed 89 = .ok (.iload_n 2, 1) := by decide +kernel
theorem dX7_summed_90 : decode cX7_summed 90 = .ok (.iadd, 1) := by decide +kernel
theorem dX7_summed_91 : decode cX7_summed 91 = .ok (.laload, 1) := by decide +kernel
theorem dX7_summed_92 : decode cX7_summed 92 = .ok (.lload 9, 2) := by decide +kernel
theorem dX7_summed_94 : decode cX7_summed 94 = .ok (.lmul, 1) := by decide +kernel
theorem dX7_summed_95 : decode cX7_summed 95 = .ok (.ladd, 1) := by decide +kernel
theorem dX7_summed_96 : decode cX7_summed 96 = .ok (.goto 5, 3) := by decide +kernel
theorem dX7_summed_99 : decode cX7_summed 99 = .ok (.lload 11, 2) := by decide +kernel
theorem dX7_summed_101 : decode cX7_summed 101 = .ok (.lreturn, 1) := by decide +kernel
theorem dX7_areTwo_0 : decode cX7_areTwo 0 = .ok (.iconst 0, 1) := by decide +kernel
theorem dX7_areTwo_1 : decode cX7_areTwo 1 = .ok (.istore_n 1, 1) := by decide +kernel
theorem dX7_areTwo_2 : decode cX7_areTwo 2 = .ok (.iload_n 1, 1) := by decide +kernel
theorem dX7_areTwo_3 : decode cX7_areTwo 3 = .ok (.iconst 3, 1) := by decide +kernel
theorem dX7_areTwo_4 : decode cX7_areTwo 4 = .ok (.if_icmp .ge 52, 3) := by decide +kernel
