theorem dX0_init_0 : decode cX0_init 0 = .ok (.aload_n 0, 1) := by decide +kernel
theorem dX0_init_1 : decode cX0_init 1 = .ok (.invokespecial 3, 3) := by decide +kernel
theorem dX0_init_4 : decode cX0_init 4 = .ok (.aload_n 0, 1) := by decide +kernel
theorem dX0_init_5 : decode cX0_init 5 = .ok (.bipush 7, 2) := by decide +kernel
theorem dX0_init_7 : decode cX0_init 7 = .ok (.newarray .int, 2) := by decide +kernel
theorem dX0_init_9 : decode cX0_init 9 = .ok (.putfield 9, 3) := by decide +kernel
theorem dX0_init_12 : decode cX0_init 12 = .ok (.aload_n 0, 1) := by decide +kernel
theorem dX0_init_13 : decode cX0_init 13 = .ok (.bipush 7, 2) := by decide +kernel
theorem dX0_init_15 : decode cX0_init 15 = .ok (.newarray .int, 2) := by decide +kernel
theorem dX0_init_17 : decode cX0_init 17 = .ok (.putfield 15, 3) := by decide +kernel
theorem dX0_init_20 : decode cX0_init 20 = .ok (.aload_n 0, 1) := by decide +kernel
theorem dX0_init_21 : decode cX0_init 21 = .ok (.bipush 7, 2) := by decide +kernel
theorem dX0_init_23 : decode cX0_init 23 = .ok (.newarray .int, 2) := by decide +kernel
theorem dX0_init_25 : decode cX0_init 25 = .ok (.putfield 18, 3) := by decide +kernel
theorem dX0_init_28 : decode cX0_init 28 = .ok (.aload_n 0, 1) := by decide +kernel
theorem dX0_init_29 : decode cX0_init 29 = .ok (.bipush 7, 2) := by decide +kernel
theorem dX0_init_31 : decode cX0_init 31 = .ok (.newarray .int, 2) := by decide +kernel
theorem dX0_init_33 : decode cX0_init 33 = .ok (.putfield 21, 3) := by decide +kernel
theorem dX0_init_36 : decode cX0_init 36 = .ok (.aload_n 0, 1) := by decide +kernel
theorem dX0_init_37 : decode cX0_init 37 = .ok (.bipush 7, 2) := by decide +kernel
theorem dX0_init_39 : decode cX0_init 39 = .ok (.newarray .int, 2) := by decide +kernel
theorem dX0_init_41 : decode cX0_init 41 = .ok (.putfield 24, 3) := by decide +kernel
theorem dX0_init_44 : decode cX0_init 44 = .ok (.return_, 1) := by decide +kernel
theorem dX0_renew_0 : decode cX0_renew 0 = .ok (.iload_n 1, 1) := by decide +kernel
theorem dX0_renew_1 : decode cX0_renew 1 = .ok (.iconst 2, 1) := by decide +kernel
theorem dX0_renew_2 : decode cX0_renew 2 = .ok (.if_icmp .lt 9, 3) := by decide +kernel
theorem dX0_renew_5 : decode cX0_renew 5 = .ok (.iload_n 1, 1) := by decide +kernel
theorem dX0_renew_6 : decode cX0_renew 6 = .ok (.bipush 6, 2) := by decide +kernel
theorem dX0_renew_8 : decode cX0_renew 8 = .ok (.if_icmp .le 4, 3) := by decide +kernel
theorem dX0_renew_11 : decode cX0_renew 11 = .ok (.return_, 1) := by decide +kernel
theorem dX0_renew_12 : decode cX0_renew 12 = .ok (.aload_n 0, 1) := by decide +kernel
theorem dX0_renew_13 : decode cX0_renew 13 = .ok (.iload_n 1, 1) := by decide +kernel
theorem dX0_renew_14 : decode cX0_renew 14 = .ok (.putfield 27, 3) := by decide +kernel
theorem dX0_renew_17 : decode cX0_renew 17 = .ok (.iconst 0, 1) := by decide +kernel
theorem dX0_renew_18 : decode cX0_renew 18 = .ok (.istore_n 2, 1) := by decide +kernel
theorem dX0_renew_19 : decode cX0_renew 19 = .ok (.iload_n 2, 1) := by decide +kernel
theorem dX0_renew_20 : decode cX0_renew 20 = .ok (.iload_n 1, 1) := by decide +kernel
theorem dX0_renew_21 : decode cX0_renew 21 = .ok (.if_icmp .gt 42, 3) := by decide +kernel
theorem dX0_renew_24 : decode cX0_renew 24 = .ok (.aload_n 0, 1) := by decide +kernel
theorem dX0_renew_25 : decode cX0_renew 25 = .ok (.getfield 9, 3) := by decide +kernel
theorem dX0_renew_28 : decode cX0_renew 28 = .ok (.iload_n 2, 1) := by decide +kernel
theorem dX0_renew_29 : decode cX0_renew 29 = .ok (.bipush 20, 2) := by decide +kernel
theorem dX0_renew_31 : decode cX0_renew 31 = .ok (.iload_n 2, 1) := by decide +kernel
theorem dX0_renew_32 : decode cX0_renew 32 = .ok (.imul, 1) := by decide +kernel
theorem dX0_renew_33 : decode cX0_renew 33 = .ok (.iload_n 1, 1) := by decide +kernel
theorem dX0_renew_34 : decode cX0_renew 34 = .ok (.idiv, 1) := by decide +kernel
theorem dX0_renew_35 : decode cX0_renew 35 = .ok (.iastore, 1) := by decide +kernel
theorem dX0_renew_36 : decode cX0_renew 36 = .ok (.aload_n 0, 1) := by decide +kernel
theorem dX0_renew_37 : decode cX0_renew 37 = .ok (.getfield 15, 3) := by decide +kernel
theorem dX0_renew_40 : decode cX0_renew 40 = .ok (.iload_n 2, 1) := by decide +kernel
theorem dX0_renew_41 : decode cX0_renew 41 = .ok (.iconst 0, 1) := by decide +kernel
theorem dX0_renew_42 : decode cX0_renew 42 = .ok (.iastore, 1) := by decide +kernel
theorem dX0_renew_43 : decode cX0_renew 43 = .ok (.aload_n 0, 1) := by decide +kernel
theorem dX0_renew_44 : decode cX0_renew 44 = .ok (.getfield 18, 3) := by decide +kernel
theorem dX0_renew_47 : decode cX0_renew 47 = .ok (.iload_n 2, 1) := by decide +kernel
theorem dX0_renew_48 : decode cX0_renew 48 = .ok (.iconst 1, 1) := by decide +kernel
theorem dX0_renew_49 : decode cX0_renew 49 = .ok (.iastore, 1) := by decide +kernel
theorem dX0_renew_50 : decode cX0_renew 50 = .ok (.aload_n 0, 1) := by decide +kernel
theorem dX0_renew_51 : decode cX0_renew 51 = .ok (.getfield 21, 3) := by decide +kernel
theorem dX0_renew_54 : decode cX0_renew 54 = .ok (.iload_n 2, 1) := by decide +kernel
theorem dX0_renew_55 : decode cX0_renew 55 = .ok (.iconst 0, 1) := by decide +kernel
theorem dX0_renew_56 : decode cX0_renew 56 = .ok (.iastore, 1) := by decide +kernel
theorem dX0_renew_57 : decode cX0_renew 57 = .ok (.iinc 2 1, 3) := by decide +kernel
theorem dX0_renew_60 : decode cX0_renew 60 = .ok (.goto (-41), 3) := by decide +kernel
theorem dX0_renew_63 : decode cX0_renew 63 = .ok (.return_, 1) := by decide +kernel
theorem dX0_span_0 : decode cX0_span 0 = .ok (.aload_n 0, 1) := by decide +kernel
theorem dX0_span_1 : decode cX0_span 1 = .ok (.getfield 9, 3) := by decide +kernel
theorem dX0_span_4 : decode cX0_span 4 = .ok (.aload_n 0, 1) := by decide +kernel
theorem dX0_span_5 : decode cX0_span 5 = .ok (.getfield 27, 3) := by decide +kernel
theorem dX0_span_8 : decode cX0_span 8 = .ok (.iaload, 1) := by decide +kernel
theorem dX0_span_9 : decode cX0_span 9 = .ok (.ireturn, 1) := by decide +kernel
theorem dX0_hasJoint_0 : decode cX0_hasJoint 0 = .ok (.iload_n 1, 1) := by decide +kernel
theorem dX0_hasJoint_1 : decode cX0_hasJoint 1 = .ok (.ifCond .lt 15, 3) := by decide +kernel
theorem dX0_hasJoint_4 : decode cX0_hasJoint 4 = .ok (.iload_n 1, 1) := by decide +kernel
theorem dX0_hasJoint_5 : decode cX0_hasJoint 5 = .ok (.aload_n 0, 1) := by decide +kernel
theorem dX0_hasJoint_6 : decode cX0_hasJoint 6 = .ok (.getfield 27, 3) := by decide +kernel
theorem dX0_hasJoint_9 : decode cX0_hasJoint 9 = .ok (.if_icmp .gt 7, 3) := by decide +kernel
theorem dX0_hasJoint_12 : decode cX0_hasJoint 12 = .ok (.iconst 1, 1) := by decide +kernel
theorem dX0_hasJoint_13 : decode cX0_hasJoint 13 = .ok (.goto 4, 3) := by decide +kernel
theorem dX0_hasJoint_16 : decode cX0_hasJoint 16 = .ok (.iconst 0, 1) := by decide +kernel
theorem dX0_hasJoint_17 : decode cX0_hasJoint 17 = .ok (.ireturn, 1) := by decide +kernel
theorem dX0_hasInnerJoint_0 : decode cX0_hasInnerJoint 0 = .ok (.iload_n 1, 1) := by decide +kernel
theorem dX0_hasInnerJoint_1 : decode cX0_hasInnerJoint 1 = .ok (.iconst 1, 1) := by decide +kernel
theorem dX0_hasInnerJoint_2 : decode cX0_hasInnerJoint 2 = .ok (.if_icmp .lt 15, 3) := by decide +kernel
theorem dX0_hasInnerJoint_5 : decode cX0_hasInnerJoint 5 = .ok (.iload_n 1, 1) := by decide +kernel
theorem dX0_hasInnerJoint_6 : decode cX0_hasInnerJoint 6 = .ok (.aload_n 0, 1) := by decide +kernel
theorem dX0_hasInnerJoint_7 : decode cX0_hasInnerJoint 7 = .ok (.getfield 27, 3) := by decide +kernel
theorem dX0_hasInnerJoint_10 : decode cX0_hasInnerJoint 10 = .ok (.if_icmp .ge 7, 3) := by decide +kernel
theorem dX0_hasInnerJoint_13 : decode cX0_hasInnerJoint 13 = .ok (.iconst 1, 1) := by decide +kernel
theorem dX0_hasInnerJoint_14 : decode cX0_hasInnerJoint 14 = .ok (.goto 4, 3) := by decide +kernel
theorem dX0_hasInnerJoint_17 : decode cX0_hasInnerJoint 17 = .ok (.iconst 0, 1) := by decide +kernel
theorem dX0_hasInnerJoint_18 : decode cX0_hasInnerJoint 18 = .ok (.ireturn, 1) := by decide +kernel
theorem dX0_mayTake_0 : decode cX0_mayTake 0 = .ok (.iconst (-1), 1) := by decide +kernel
theorem dX0_mayTake_1 : decode cX0_mayTake 1 = .ok (.istore_n 3, 1) := by decide +kernel
theorem dX0_mayTake_2 : decode cX0_mayTake 2 = .ok (.iconst 0, 1) := by decide +kernel
theorem dX0_mayTake_3 : decode cX0_mayTake 3 = .ok (.istore 4, 2) := by decide +kernel
theorem dX0_mayTake_5 : decode cX0_mayTake 5 = .ok (.iload 4, 2) := by decide +kernel
theorem dX0_mayTake_7 : decode cX0_mayTake 7 = .ok (.aload_n 0, 1) := by decide +kernel
theorem dX0_mayTake_8 : decode cX0_mayTake 8 = .ok (.getfield 27, 3) := by decide +kernel
theorem dX0_mayTake_11 : decode cX0_mayTake 11 = .ok (.if_icmp .gt 83, 3) := by decide +kernel
theorem dX0_mayTake_14 : decode cX0_mayTake 14 = .ok (.iload_n 2, 1) := by decide +kernel
theorem dX0_mayTake_15 : decode cX0_mayTake 15 = .ok (.iconst 4, 1) := by decide +kernel
theorem dX0_mayTake_16 : decode cX0_mayTake 16 = .ok (.iload 4, 2) := by decide +kernel
theorem dX0_mayTake_18 : decode cX0_mayTake 18 = .ok (.imul, 1) := by decide +kernel
theorem dX0_mayTake_19 : decode cX0_mayTake 19 = .ok (.iadd, 1) := by decide +kernel
theorem dX0_mayTake_20 : decode cX0_mayTake 20 = .ok (.istore 5, 2) := by decide +kernel
theorem dX0_mayTake_22 : decode cX0_mayTake 22 = .ok (.aload_n 1, 1) := by decide +kernel
theorem dX0_mayTake_23 : decode cX0_mayTake 23 = .ok (.iload 5, 2) := by decide +kernel
theorem dX0_mayTake_25 : decode cX0_mayTake 25 = .ok (.iaload, 1) := by decide +kernel
theorem dX0_mayTake_26 : decode cX0_mayTake 26 = .ok (.istore 6, 2) := by decide +kernel
theorem dX0_mayTake_28 : decode cX0_mayTake 28 = .ok (.iload 6, 2) := by decide +kernel
theorem dX0_mayTake_30 : decode cX0_mayTake 30 = .ok (.iload_n 3, 1) := by decide +kernel
theorem dX0_mayTake_31 : decode cX0_mayTake 31 = .ok (.if_icmp .le 20, 3) := by decide +kernel
theorem dX0_mayTake_34 : decode cX0_mayTake 34 = .ok (.iload 6, 2) := by decide +kernel
theorem dX0_mayTake_36 : decode cX0_mayTake 36 = .ok (.bipush 20, 2) := by decide +kernel
theorem dX0_mayTake_38 : decode cX0_mayTake 38 = .ok (.if_icmp .gt 13, 3) := by decide +kernel
theorem dX0_mayTake_41 : decode cX0_mayTake 41 = .ok (.iload 4, 2) := by decide +kernel
theorem dX0_mayTake_43 : decode cX0_mayTake 43 = .ok (.ifCond .ne 10, 3) := by decide +kernel
theorem dX0_mayTake_46 : decode cX0_mayTake 46 = .ok (.iload 6, 2) := by decide +kernel
theorem dX0_mayTake_48 : decode cX0_mayTake 48 = .ok (.ifCond .eq 5, 3) := by decide +kernel
theorem dX0_mayTake_51 : decode cX0_mayTake 51 = .ok (.iconst 0, 1) := by decide +kernel
theorem dX0_mayTake_52 : decode cX0_mayTake 52 = .ok (.ireturn, 1) := by decide +kernel
theorem dX0_mayTake_53 : decode cX0_mayTake 53 = .ok (.aload_n 1, 1) := by decide +kernel
theorem dX0_mayTake_54 : decode cX0_mayTake 54 = .ok (.iload 5, 2) := by decide +kernel
theorem dX0_mayTake_56 : decode cX0_mayTake 56 = .ok (.iconst 1, 1) := by decide +kernel
theorem dX0_mayTake_57 : decode cX0_mayTake 57 = .ok (.iadd, 1) := by decide +kernel
theorem dX0_mayTake_58 : decode cX0_mayTake 58 = .ok (.iaload, 1) := by decide +kernel
theorem dX0_mayTake_59 : decode cX0_mayTake 59 = .ok (.aload_n 1, 1) := by decide +kernel
theorem dX0_mayTake_60 : decode cX0_mayTake 60 = .ok (.iload 5, 2) := by decide +kernel
theorem dX0_mayTake_62 : decode cX0_mayTake 62 = .ok (.iconst 2, 1) := by decide +kernel
theorem dX0_mayTake_63 : decode cX0_mayTake 63 = .ok (.iadd, 1) := by decide +kernel
theorem dX0_mayTake_64 : decode cX0_mayTake 64 = .ok (.iaload, 1) := by decide +kernel
theorem dX0_mayTake_65 : decode cX0_mayTake 65 = .ok (.invokestatic 31, 3) := by decide +kernel
theorem dX0_mayTake_68 : decode cX0_mayTake 68 = .ok (.ifCond .eq 15, 3) := by decide +kernel
theorem dX0_mayTake_71 : decode cX0_mayTake 71 = .ok (.aload_n 1, 1) := by decide +kernel
theorem dX0_mayTake_72 : decode cX0_mayTake 72 = .ok (.iload 5, 2) := by decide +kernel
theorem dX0_mayTake_74 : decode cX0_mayTake 74 = .ok (.iconst 3, 1) := by decide +kernel
theorem dX0_mayTake_75 : decode cX0_mayTake 75 = .ok (.iadd, 1) := by decide +kernel
theorem dX0_mayTake_76 : decode cX0_mayTake 76 = .ok (.iaload, 1) := by decide +kernel
theorem dX0_mayTake_77 : decode cX0_mayTake 77 = .ok (.invokestatic 35, 3) := by decide +kernel
theorem dX0_mayTake_80 : decode cX0_mayTake 80 = .ok (.ifCond .ne 5, 3) := by decide +kernel
theorem dX0_mayTake_83 : decode cX0_mayTake 83 = .ok (.iconst 0, 1) := by decide +kernel
theorem dX0_mayTake_84 : decode cX0_mayTake 84 = .ok (.ireturn, 1) := by decide +kernel
theorem dX0_mayTake_85 : decode cX0_mayTake 85 = .ok (.iload 6, 2) := by decide +kernel
theorem dX0_mayTake_87 : decode cX0_mayTake 87 = .ok (.istore_n 3, 1) := by decide +kernel
theorem dX0_mayTake_88 : decode cX0_mayTake 88 = .ok (.iinc 4 1, 3) := by decide +kernel
theorem dX0_mayTake_91 : decode cX0_mayTake 91 = .ok (.goto (-86), 3) := by decide +kernel
theorem dX0_mayTake_94 : decode cX0_mayTake 94 = .ok (.iconst 1, 1) := by decide +kernel
theorem dX0_mayTake_95 : decode cX0_mayTake 95 = .ok (.ireturn, 1) := by decide +kernel
theorem dX0_take_0 : decode cX0_take 0 = .ok (.iconst 0, 1) := by decide +kernel
theorem dX0_take_1 : decode cX0_take 1 = .ok (.istore_n 3, 1) := by decide +kernel
theorem dX0_take_2 : decode cX0_take 2 = .ok (.iload_n 3, 1) := by decide +kernel
theorem dX0_take_3 : decode cX0_take 3 = .ok (.aload_n 0, 1) := by decide +kernel
theorem dX0_take_4 : decode cX0_take 4 = .ok (.getfield 27, 3) := by decide +kernel
theorem dX0_take_7 : decode cX0_take 7 = .ok (.if_icmp .gt 74, 3) := by decide +kernel
theorem dX0_take_10 : decode cX0_take 10 = .ok (.iload_n 2, 1) := by decide +kernel
theorem dX0_take_11 : decode cX0_take 11 = .ok (.iconst 4, 1) := by decide +kernel
theorem dX0_take_12 : decode cX0_take 12 = .ok (.iload_n 3, 1) := by decide +kernel
theorem dX0_take_13 : decode cX0_take 13 = .ok (.imul, 1) := by decide +kernel
theorem dX0_take_14 : decode cX0_take 14 = .ok (.iadd, 1) := by decide +kernel
theorem dX0_take_15 : decode cX0_take 15 = .ok (.istore 4, 2) := by decide +kernel
theorem dX0_take_17 : decode cX0_take 17 = .ok (.aload_n 0, 1) := by decide +kernel
theorem dX0_take_18 : decode cX0_take 18 = .ok (.getfield 9, 3) := by decide +kernel
theorem dX0_take_21 : decode cX0_take 21 = .ok (.iload_n 3, 1) := by decide +kernel
theorem dX0_take_22 : decode cX0_take 22 = .ok (.aload_n 1, 1) := by decide +kernel
theorem dX0_take_23 : decode cX0_take 23 = .ok (.iload 4, 2) := by decide +kernel
theorem dX0_take_25 : decode cX0_take 25 = .ok (.iaload, 1) := by decide +kernel
theorem dX0_take_26 : decode cX0_take 26 = .ok (.iastore, 1) := by decide +kernel
theorem dX0_take_27 : decode cX0_take 27 = .ok (.aload_n 0, 1) := by decide +kernel
theorem dX0_take_28 : decode cX0_take 28 = .ok (.getfield 15, 3) := by decide +kernel
theorem dX0_take_31 : decode cX0_take 31 = .ok (.iload_n 3, 1) := by decide +kernel
theorem dX0_take_32 : decode cX0_take 32 = .ok (.aload_n 1, 1) := by decide +kernel
theorem dX0_take_33 : decode cX0_take 33 = .ok (.iload 4, 2) := by decide +kernel
theorem dX0_take_35 : decode cX0_take 35 = .ok (.iconst 1, 1) := by decide +kernel
theorem dX0_take_36 : decode cX0_take 36 = .ok (.iadd, 1) := by decide +kernel
theorem dX0_take_37 : decode cX0_take 37 = .ok (.iaload, 1) := by decide +kernel
theorem dX0_take_38 : decode cX0_take 38 = .ok (.iastore, 1) := by decide +kernel
theorem dX0_take_39 : decode cX0_take 39 = .ok (.aload_n 0, 1) := by decide +kernel
theorem dX0_take_40 : decode cX0_take 40 = .ok (.getfield 18, 3) := by decide +kernel
theorem dX0_take_43 : decode cX0_take 43 = .ok (.iload_n 3, 1) := by decide +kernel
theorem dX0_take_44 : decode cX0_take 44 = .ok (.aload_n 1, 1) := by decide +kernel
theorem dX0_take_45 : decode cX0_take 45 = .ok (.iload 4, 2) := by decide +kernel
theorem dX0_take_47 : decode cX0_take 47 = .ok (.iconst 2, 1) := by decide +kernel
theorem dX0_take_48 : decode cX0_take 48 = .ok (.iadd, 1) := by decide +kernel
theorem dX0_take_49 : decode cX0_take 49 = .ok (.iaload, 1) := by decide +kernel
theorem dX0_take_50 : decode cX0_take 50 = .ok (.iastore, 1) := by decide +kernel
theorem dX0_take_51 : decode cX0_take 51 = .ok (.aload_n 0, 1) := by decide +kernel
theorem dX0_take_52 : decode cX0_take 52 = .ok (.getfield 21, 3) := by decide +kernel
theorem dX0_take_55 : decode cX0_take 55 = .ok (.iload_n 3, 1) := by decide +kernel
theorem dX0_take_56 : decode cX0_take 56 = .ok (.aload_n 0, 1) := by decide +kernel
theorem dX0_take_57 : decode cX0_take 57 = .ok (.iload_n 3, 1) := by decide +kernel
theorem dX0_take_58 : decode cX0_take 58 = .ok (.invokevirtual 39, 3) := by decide +kernel
theorem dX0_take_61 : decode cX0_take 61 = .ok (.ifCond .eq 12, 3) := by decide +kernel
theorem dX0_take_64 : decode cX0_take 64 = .ok (.aload_n 1, 1) := by decide +kernel
theorem dX0_take_65 : decode cX0_take 65 = .ok (.iload 4, 2) := by decide +kernel
theorem dX0_take_67 : decode cX0_take 67 = .ok (.iconst 3, 1) := by decide +kernel
theorem dX0_take_68 : decode cX0_take 68 = .ok (.iadd, 1) := by decide +kernel
theorem dX0_take_69 : decode cX0_take 69 = .ok (.iaload, 1) := by decide +kernel
theorem dX0_take_70 : decode cX0_take 70 = .ok (.goto 4, 3) := by decide +kernel
theorem dX0_take_73 : decode cX0_take 73 = .ok (.iconst 0, 1) := by decide +kernel
theorem dX0_take_74 : decode cX0_take 74 = .ok (.iastore, 1) := by decide +kernel
theorem dX0_take_75 : decode cX0_take 75 = .ok (.iinc 3 1, 3) := by decide +kernel
theorem dX0_take_78 : decode cX0_take 78 = .ok (.goto (-76), 3) := by decide +kernel
theorem dX0_take_81 : decode cX0_take 81 = .ok (.return_, 1) := by decide +kernel
theorem dX0_weigh_0 : decode cX0_weigh 0 = .ok (.aload_n 0, 1) := by decide +kernel
theorem dX0_weigh_1 : decode cX0_weigh 1 = .ok (.invokevirtual 42, 3) := by decide +kernel
theorem dX0_weigh_4 : decode cX0_weigh 4 = .ok (.istore_n 2, 1) := by decide +kernel
theorem dX0_weigh_5 : decode cX0_weigh 5 = .ok (.iconst 0, 1) := by decide +kernel
theorem dX0_weigh_6 : decode cX0_weigh 6 = .ok (.istore_n 3, 1) := by decide +kernel
theorem dX0_weigh_7 : decode cX0_weigh 7 = .ok (.iconst 1, 1) := by decide +kernel
theorem dX0_weigh_8 : decode cX0_weigh 8 = .ok (.istore 4, 2) := by decide +kernel
theorem dX0_weigh_10 : decode cX0_weigh 10 = .ok (.iload 4, 2) := by decide +kernel
theorem dX0_weigh_12 : decode cX0_weigh 12 = .ok (.aload_n 0, 1) := by decide +kernel
theorem dX0_weigh_13 : decode cX0_weigh 13 = .ok (.getfield 27, 3) := by decide +kernel
theorem dX0_weigh_16 : decode cX0_weigh 16 = .ok (.if_icmp .ge 26, 3) := by decide +kernel
theorem dX0_weigh_19 : decode cX0_weigh 19 = .ok (.iload_n 3, 1) := by decide +kernel
theorem dX0_weigh_20 : decode cX0_weigh 20 = .ok (.aload_n 1, 1) := by decide +kernel
theorem dX0_weigh_21 : decode cX0_weigh 21 = .ok (.iload 4, 2) := by decide +kernel
theorem dX0_weigh_23 : decode cX0_weigh 23 = .ok (.iaload, 1) := by decide +kernel
theorem dX0_weigh_24 : decode cX0_weigh 24 = .ok (.iload_n 2, 1) := by decide +kernel
theorem dX0_weigh_25 : decode cX0_weigh 25 = .ok (.aload_n 0, 1) := by decide +kernel
theorem dX0_weigh_26 : decode cX0_weigh 26 = .ok (.getfield 9, 3) := by decide +kernel
theorem dX0_weigh_29 : decode cX0_weigh 29 = .ok (.iload 4, 2) := by decide +kernel
theorem dX0_weigh_31 : decode cX0_weigh 31 = .ok (.iaload, 1) := by decide +kernel
theorem dX0_weigh_32 : decode cX0_weigh 32 = .ok (.isub, 1) := by decide +kernel
theorem dX0_weigh_33 : decode cX0_weigh 33 = .ok (.imul, 1) := by decide +kernel
theorem dX0_weigh_34 : decode cX0_weigh 34 = .ok (.iadd, 1) := by decide +kernel
theorem dX0_weigh_35 : decode cX0_weigh 35 = .ok (.istore_n 3, 1) := by decide +kernel
theorem dX0_weigh_36 : decode cX0_weigh 36 = .ok (.iinc 4 1, 3) := by decide +kernel
theorem dX0_weigh_39 : decode cX0_weigh 39 = .ok (.goto (-29), 3) := by decide +kernel
theorem dX0_weigh_42 : decode cX0_weigh 42 = .ok (.iconst 0, 1) := by decide +kernel
theorem dX0_weigh_43 : decode cX0_weigh 43 = .ok (.istore 4, 2) := by decide +kernel
theorem dX0_weigh_45 : decode cX0_weigh 45 = .ok (.iload 4, 2) := by decide +kernel
theorem dX0_weigh_47 : decode cX0_weigh 47 = .ok (.aload_n 0, 1) := by decide +kernel
theorem dX0_weigh_48 : decode cX0_weigh 48 = .ok (.getfield 27, 3) := by decide +kernel
theorem dX0_weigh_51 : decode cX0_weigh 51 = .ok (.if_icmp .gt 74, 3) := by decide +kernel
theorem dX0_weigh_54 : decode cX0_weigh 54 = .ok (.iconst 0, 1) := by decide +kernel
theorem dX0_weigh_55 : decode cX0_weigh 55 = .ok (.istore 5, 2) := by decide +kernel
theorem dX0_weigh_57 : decode cX0_weigh 57 = .ok (.iconst 1, 1) := by decide +kernel
theorem dX0_weigh_58 : decode cX0_weigh 58 = .ok (.istore 6, 2) := by decide +kernel
theorem dX0_weigh_60 : decode cX0_weigh 60 = .ok (.iload 6, 2) := by decide +kernel
theorem dX0_weigh_62 : decode cX0_weigh 62 = .ok (.iload 4, 2) := by decide +kernel
theorem dX0_weigh_64 : decode cX0_weigh 64 = .ok (.if_icmp .ge 34, 3) := by decide +kernel
theorem dX0_weigh_67 : decode cX0_weigh 67 = .ok (.iload 5, 2) := by decide +kernel
theorem dX0_weigh_69 : decode cX0_weigh 69 = .ok (.aload_n 1, 1) := by decide +kernel
theorem dX0_weigh_70 : decode cX0_weigh 70 = .ok (.iload 6, 2) := by decide +kernel
theorem dX0_weigh_72 : decode cX0_weigh 72 = .ok (.iaload, 1) := by decide +kernel
theorem dX0_weigh_73 : decode cX0_weigh 73 = .ok (.aload_n 0, 1) := by decide +kernel
theorem dX0_weigh_74 : decode cX0_weigh 74 = .ok (.getfield 9, 3) := by decide +kernel
theorem dX0_weigh_77 : decode cX0_weigh 77 = .ok (.iload 4, 2) := by decide +kernel
theorem dX0_weigh_79 : decode cX0_weigh 79 = .ok (.iaload, 1) := by decide +kernel
theorem dX0_weigh_80 : decode cX0_weigh 80 = .ok (.aload_n 0, 1) := by decide +kernel
theorem dX0_weigh_81 : decode cX0_weigh 81 = .ok (.getfield 9, 3) := by decide +kernel
theorem dX0_weigh_84 : decode cX0_weigh 84 = .ok (.iload 6, 2) := by decide +kernel
theorem dX0_weigh_86 : decode cX0_weigh 86 = .ok (.iaload, 1) := by decide +kernel
theorem dX0_weigh_87 : decode cX0_weigh 87 = .ok (.isub, 1) := by decide +kernel
theorem dX0_weigh_88 : decode cX0_weigh 88 = .ok (.imul, 1) := by decide +kernel
theorem dX0_weigh_89 : decode cX0_weigh 89 = .ok (.iadd, 1) := by decide +kernel
theorem dX0_weigh_90 : decode cX0_weigh 90 = .ok (.istore 5, 2) := by decide +kernel
theorem dX0_weigh_92 : decode cX0_weigh 92 = .ok (.iinc 6 1, 3) := by decide +kernel
theorem dX0_weigh_95 : decode cX0_weigh 95 = .ok (.goto (-35), 3) := by decide +kernel
theorem dX0_weigh_98 : decode cX0_weigh 98 = .ok (.aload_n 0, 1) := by decide +kernel
theorem dX0_weigh_99 : decode cX0_weigh 99 = .ok (.getfield 24, 3) := by decide +kernel
theorem dX0_weigh_102 : decode cX0_weigh 102 = .ok (.iload 4, 2) := by decide +kernel
theorem dX0_weigh_104 : decode cX0_weigh 104 = .ok (.aload_n 0, 1) := by decide +kernel
theorem dX0_weigh_105 : decode cX0_weigh 105 = .ok (.getfield 9, 3) := by decide +kernel
theorem dX0_weigh_108 : decode cX0_weigh 108 = .ok (.iload 4, 2) := by decide +kernel
theorem dX0_weigh_110 : decode cX0_weigh 110 = .ok (.iaload, 1) := by decide +kernel
theorem dX0_weigh_111 : decode cX0_weigh 111 = .ok (.iload_n 3, 1) := by decide +kernel
theorem dX0_weigh_112 : decode cX0_weigh 112 = .ok (.imul, 1) := by decide +kernel
theorem dX0_weigh_113 : decode cX0_weigh 113 = .ok (.iload_n 2, 1) := by decide +kernel
theorem dX0_weigh_114 : decode cX0_weigh 114 = .ok (.iload 5, 2) := by decide +kernel
theorem dX0_weigh_116 : decode cX0_weigh 116 = .ok (.imul, 1) := by decide +kernel
theorem dX0_weigh_117 : decode cX0_weigh 117 = .ok (.isub, 1) := by decide +kernel
theorem dX0_weigh_118 : decode cX0_weigh 118 = .ok (.iastore, 1) := by decide +kernel
theorem dX0_weigh_119 : decode cX0_weigh 119 = .ok (.iinc 4 1, 3) := by decide +kernel
theorem dX0_weigh_122 : decode cX0_weigh 122 = .ok (.goto (-77), 3) := by decide +kernel
theorem dX0_weigh_125 : decode cX0_weigh 125 = .ok (.return_, 1) := by decide +kernel
theorem dX0_rise_0 : decode cX0_rise 0 = .ok (.aload_n 0, 1) := by decide +kernel
theorem dX0_rise_1 : decode cX0_rise 1 = .ok (.getfield 9, 3) := by decide +kernel
theorem dX0_rise_4 : decode cX0_rise 4 = .ok (.iload 5, 2) := by decide +kernel
theorem dX0_rise_6 : decode cX0_rise 6 = .ok (.iaload, 1) := by decide +kernel
theorem dX0_rise_7 : decode cX0_rise 7 = .ok (.aload_n 0, 1) := by decide +kernel
theorem dX0_rise_8 : decode cX0_rise 8 = .ok (.getfield 9, 3) := by decide +kernel
theorem dX0_rise_11 : decode cX0_rise 11 = .ok (.iload 4, 2) := by decide +kernel
theorem dX0_rise_13 : decode cX0_rise 13 = .ok (.iaload, 1) := by decide +kernel
theorem dX0_rise_14 : decode cX0_rise 14 = .ok (.isub, 1) := by decide +kernel
theorem dX0_rise_15 : decode cX0_rise 15 = .ok (.aload_n 2, 1) := by decide +kernel
theorem dX0_rise_16 : decode cX0_rise 16 = .ok (.iload_n 3, 1) := by decide +kernel
theorem dX0_rise_17 : decode cX0_rise 17 = .ok (.iaload, 1) := by decide +kernel
theorem dX0_rise_18 : decode cX0_rise 18 = .ok (.imul, 1) := by decide +kernel
theorem dX0_rise_19 : decode cX0_rise 19 = .ok (.aload_n 0, 1) := by decide +kernel
theorem dX0_rise_20 : decode cX0_rise 20 = .ok (.getfield 9, 3) := by decide +kernel
theorem dX0_rise_23 : decode cX0_rise 23 = .ok (.iload 4, 2) := by decide +kernel
theorem dX0_rise_25 : decode cX0_rise 25 = .ok (.iaload, 1) := by decide +kernel
theorem dX0_rise_26 : decode cX0_rise 26 = .ok (.aload_n 0, 1) := by decide +kernel
theorem dX0_rise_27 : decode cX0_rise 27 = .ok (.getfield 9, 3) := by decide +kernel
theorem dX0_rise_30 : decode cX0_rise 30 = .ok (.iload_n 3, 1) := by decide +kernel
theorem dX0_rise_31 : decode cX0_rise 31 = .ok (.iaload, 1) := by decide +kernel
theorem dX0_rise_32 : decode cX0_rise 32 = .ok (.isub, 1) := by decide +kernel
theorem dX0_rise_33 : decode cX0_rise 33 = .ok (.aload_n 2, 1) := by decide +kernel
theorem dX0_rise_34 : decode cX0_rise 34 = .ok (.iload 5, 2) := by decide +kernel
theorem dX0_rise_36 : decode cX0_rise 36 = .ok (.iaload, 1) := by decide +kernel
theorem dX0_rise_37 : decode cX0_rise 37 = .ok (.imul, 1) := by decide +kernel
theorem dX0_rise_38 : decode cX0_rise 38 = .ok (.iadd, 1) := by decide +kernel
theorem dX0_rise_39 : decode cX0_rise 39 = .ok (.i2l, 1) := by decide +kernel
theorem dX0_rise_40 : decode cX0_rise 40 = .ok (.lstore 6, 2) := by decide +kernel
theorem dX0_rise_42 : decode cX0_rise 42 = .ok (.aload_n 0, 1) := by decide +kernel
theorem dX0_rise_43 : decode cX0_rise 43 = .ok (.getfield 9, 3) := by decide +kernel
theorem dX0_rise_46 : decode cX0_rise 46 = .ok (.iload 5, 2) := by decide +kernel
theorem dX0_rise_48 : decode cX0_rise 48 = .ok (.iaload, 1) := by decide +kernel
theorem dX0_rise_49 : decode cX0_rise 49 = .ok (.aload_n 0, 1) := by decide +kernel
theorem dX0_rise_50 : decode cX0_rise 50 = .ok (.getfield 9, 3) := by decide +kernel
theorem dX0_rise_53 : decode cX0_rise 53 = .ok (.iload_n 3, 1) := by decide +kernel
theorem dX0_rise_54 : decode cX0_rise 54 = .ok (.iaload, 1) := by decide +kernel
theorem dX0_rise_55 : decode cX0_rise 55 = .ok (.isub, 1) := by decide +kernel
theorem dX0_rise_56 : decode cX0_rise 56 = .ok (.aload_n 1, 1) := by decide +kernel
theorem dX0_rise_57 : decode cX0_rise 57 = .ok (.iload 4, 2) := by decide +kernel
theorem dX0_rise_59 : decode cX0_rise 59 = .ok (.iaload, 1) := by decide +kernel
theorem dX0_rise_60 : decode cX0_rise 60 = .ok (.imul, 1) := by decide +kernel
theorem dX0_rise_61 : decode cX0_rise 61 = .ok (.i2l, 1) := by decide +kernel
theorem dX0_rise_62 : decode cX0_rise 62 = .ok (.lload 6, 2) := by decide +kernel
theorem dX0_rise_64 : decode cX0_rise 64 = .ok (.lsub, 1) := by decide +kernel
theorem dX0_rise_65 : decode cX0_rise 65 = .ok (.lreturn, 1) := by decide +kernel
theorem dX0_bend_0 : decode cX0_bend 0 = .ok (.aload_n 0, 1) := by decide +kernel
theorem dX0_bend_1 : decode cX0_bend 1 = .ok (.aload_n 0, 1) := by decide +kernel
theorem dX0_bend_2 : decode cX0_bend 2 = .ok (.getfield 24, 3) := by decide +kernel
theorem dX0_bend_5 : decode cX0_bend 5 = .ok (.aload_n 0, 1) := by decide +kernel
theorem dX0_bend_6 : decode cX0_bend 6 = .ok (.getfield 24, 3) := by decide +kernel
theorem dX0_bend_9 : decode cX0_bend 9 = .ok (.iload_n 1, 1) := by decide +kernel
theorem dX0_bend_10 : decode cX0_bend 10 = .ok (.iload_n 2, 1) := by decide +kernel
theorem dX0_bend_11 : decode cX0_bend 11 = .ok (.iload_n 3, 1) := by decide +kernel
theorem dX0_bend_12 : decode cX0_bend 12 = .ok (.invokevirtual 46, 3) := by decide +kernel
theorem dX0_bend_15 : decode cX0_bend 15 = .ok (.lreturn, 1) := by decide +kernel
theorem dX1_init_0 : decode cX1_init 0 = .ok (.aload_n 0, 1) := by decide +kernel
theorem dX1_init_1 : decode cX1_init 1 = .ok (.invokespecial 3, 3) := by decide +kernel
theorem dX1_init_4 : decode cX1_init 4 = .ok (.aload_n 0, 1) := by decide +kernel
theorem dX1_init_5 : decode cX1_init 5 = .ok (.iconst 4, 1) := by decide +kernel
theorem dX1_init_6 : decode cX1_init 6 = .ok (.newarray .int, 2) := by decide +kernel
theorem dX1_init_8 : decode cX1_init 8 = .ok (.putfield 9, 3) := by decide +kernel
theorem dX1_init_11 : decode cX1_init 11 = .ok (.aload_n 0, 1) := by decide +kernel
theorem dX1_init_12 : decode cX1_init 12 = .ok (.aload_n 1, 1) := by decide +kernel
theorem dX1_init_13 : decode cX1_init 13 = .ok (.putfield 15, 3) := by decide +kernel
theorem dX1_init_16 : decode cX1_init 16 = .ok (.return_, 1) := by decide +kernel
theorem dX1_find_0 : decode cX1_find 0 = .ok (.aload_n 0, 1) := by decide +kernel
theorem dX1_find_1 : decode cX1_find 1 = .ok (.iconst 0, 1) := by decide +kernel
theorem dX1_find_2 : decode cX1_find 2 = .ok (.putfield 19, 3) := by decide +kernel
theorem dX1_find_5 : decode cX1_find 5 = .ok (.aload_n 0, 1) := by decide +kernel
theorem dX1_find_6 : decode cX1_find 6 = .ok (.iconst 3, 1) := by decide +kernel
theorem dX1_find_7 : decode cX1_find 7 = .ok (.invokevirtual 23, 3) := by decide +kernel
theorem dX1_find_10 : decode cX1_find 10 = .ok (.ifCond .ne 9, 3) := by decide +kernel
theorem dX1_find_13 : decode cX1_find 13 = .ok (.aload_n 0, 1) := by decide +kernel
theorem dX1_find_14 : decode cX1_find 14 = .ok (.iconst 4, 1) := by decide +kernel
theorem dX1_find_15 : decode cX1_find 15 = .ok (.invokevirtual 23, 3) := by decide +kernel
theorem dX1_find_18 : decode cX1_find 18 = .ok (.pop, 1) := by decide +kernel
theorem dX1_find_19 : decode cX1_find 19 = .ok (.return_, 1) := by decide +kernel
theorem dX1_findFirst_0 : decode cX1_findFirst 0 = .ok (.iconst 0, 1) := by decide +kernel
theorem dX1_findFirst_1 : decode cX1_findFirst 1 = .ok (.istore_n 2, 1) := by decide +kernel
theorem dX1_findFirst_2 : decode cX1_findFirst 2 = .ok (.iload_n 2, 1) := by decide +kernel
theorem dX1_findFirst_3 : decode cX1_findFirst 3 = .ok (.iconst 2, 1) := by decide +kernel
theorem dX1_findFirst_4 : decode cX1_findFirst 4 = .ok (.aload_n 0, 1) := by decide +kernel
theorem dX1_findFirst_5 : decode cX1_findFirst 5 = .ok (.getfield 15, 3) := by decide +kernel
theorem dX1_findFirst_8 : decode cX1_findFirst 8 = .ok (.getfield 27, 3) := by decide +kernel
theorem dX1_findFirst_11 : decode cX1_findFirst 11 = .ok (.imul, 1) := by decide +kernel
theorem dX1_findFirst_12 : decode cX1_findFirst 12 = .ok (.iconst 1, 1) := by decide +kernel
theorem dX1_findFirst_13 : decode cX1_findFirst 13 = .ok (.iadd, 1) := by decide +kernel
theorem dX1_findFirst_14 : decode cX1_findFirst 14 = .ok (.if_icmp .gt 100, 3) := by decide +kernel
theorem dX1_findFirst_17 : decode cX1_findFirst 17 = .ok (.iload_n 2, 1) := by decide +kernel
theorem dX1_findFirst_18 : decode cX1_findFirst 18 = .ok (.iconst 2, 1) := by decide +kernel
theorem dX1_findFirst_19 : decode cX1_findFirst 19 = .ok (.idiv, 1) := by decide +kernel
theorem dX1_findFirst_20 : decode cX1_findFirst 20 = .ok (.istore_n 3, 1) := by decide +kernel
theorem dX1_findFirst_21 : decode cX1_findFirst 21 = .ok (.iload_n 3, 1) := by decide +kernel
theorem dX1_findFirst_22 : decode cX1_findFirst 22 = .ok (.iconst 1, 1) := by decide +kernel
theorem dX1_findFirst_23 : decode cX1_findFirst 23 = .ok (.iadd, 1) := by decide +kernel
theorem dX1_findFirst_24 : decode cX1_findFirst 24 = .ok (.istore 4, 2) := by decide +kernel
theorem dX1_findFirst_26 : decode cX1_findFirst 26 = .ok (.iload 4, 2) := by decide +kernel
theorem dX1_findFirst_28 : decode cX1_findFirst 28 = .ok (.aload_n 0, 1) := by decide +kernel
theorem dX1_findFirst_29 : decode cX1_findFirst 29 = .ok (.getfield 15, 3) := by decide +kernel
theorem dX1_findFirst_32 : decode cX1_findFirst 32 = .ok (.getfield 27, 3) := by decide +kernel
theorem dX1_findFirst_35 : decode cX1_findFirst 35 = .ok (.if_icmp .ge 73, 3) := by decide +kernel
theorem dX1_findFirst_38 : decode cX1_findFirst 38 = .ok (.iload 4, 2) := by decide +kernel
theorem dX1_findFirst_40 : decode cX1_findFirst 40 = .ok (.iconst 1, 1) := by decide +kernel
theorem dX1_findFirst_41 : decode cX1_findFirst 41 = .ok (.iadd, 1) := by decide +kernel
theorem dX1_findFirst_42 : decode cX1_findFirst 42 = .ok (.istore 5, 2) := by decide +kernel
theorem dX1_findFirst_44 : decode cX1_findFirst 44 = .ok (.iload 5, 2) := by decide +kernel
theorem dX1_findFirst_46 : decode cX1_findFirst 46 = .ok (.aload_n 0, 1) := by decide +kernel
theorem dX1_findFirst_47 : decode cX1_findFirst 47 = .ok (.getfield 15, 3) := by decide +kernel
theorem dX1_findFirst_50 : decode cX1_findFirst 50 = .ok (.getfield 27, 3) := by decide +kernel
theorem dX1_findFirst_53 : decode cX1_findFirst 53 = .ok (.if_icmp .gt 49, 3) := by decide +kernel
theorem dX1_findFirst_56 : decode cX1_findFirst 56 = .ok (.iload_n 1, 1) := by decide +kernel
theorem dX1_findFirst_57 : decode cX1_findFirst 57 = .ok (.iconst 3, 1) := by decide +kernel
theorem dX1_findFirst_58 : decode cX1_findFirst 58 = .ok (.if_icmp .ne 21, 3) := by decide +kernel
theorem dX1_findFirst_61 : decode cX1_findFirst 61 = .ok (.aload_n 0, 1) := by decide +kernel
theorem dX1_findFirst_62 : decode cX1_findFirst 62 = .ok (.iload_n 2, 1) := by decide +kernel
theorem dX1_findFirst_63 : decode cX1_findFirst 63 = .ok (.iconst 2, 1) := by decide +kernel
theorem dX1_findFirst_64 : decode cX1_findFirst 64 = .ok (.irem, 1) := by decide +kernel
theorem dX1_findFirst_65 : decode cX1_findFirst 65 = .ok (.iload_n 3, 1) := by decide +kernel
theorem dX1_findFirst_66 : decode cX1_findFirst 66 = .ok (.iload 4, 2) := by decide +kernel
theorem dX1_findFirst_68 : decode cX1_findFirst 68 = .ok (.iload 5, 2) := by decide +kernel
theorem dX1_findFirst_70 : decode cX1_findFirst 70 = .ok (.invokevirtual 32, 3) := by decide +kernel
theorem dX1_findFirst_73 : decode cX1_findFirst 73 = .ok (.ifCond .eq 23, 3) := by decide +kernel
theorem dX1_findFirst_76 : decode cX1_findFirst 76 = .ok (.goto 18, 3) := by decide +kernel
theorem dX1_findFirst_79 : decode cX1_findFirst 79 = .ok (.aload_n 0, 1) := by decide +kernel
theorem dX1_findFirst_80 : decode cX1_findFirst 80 = .ok (.iload_n 2, 1) := by decide +kernel
theorem dX1_findFirst_81 : decode cX1_findFirst 81 = .ok (.iconst 2, 1) := by decide +kernel
theorem dX1_findFirst_82 : decode cX1_findFirst 82 = .ok (.irem, 1) := by decide +kernel
theorem dX1_findFirst_83 : decode cX1_findFirst 83 = .ok (.iload_n 3, 1) := by decide +kernel
theorem dX1_findFirst_84 : decode cX1_findFirst 84 = .ok (.iload 4, 2) := by decide +kernel
theorem dX1_findFirst_86 : decode cX1_findFirst 86 = .ok (.iload 5, 2) := by decide +kernel
theorem dX1_findFirst_88 : decode cX1_findFirst 88 = .ok (.invokevirtual 36, 3) := by decide +kernel
theorem dX1_findFirst_91 : decode cX1_findFirst 91 = .ok (.ifCond .eq 5, 3) := by decide +kernel
theorem dX1_findFirst_94 : decode cX1_findFirst 94 = .ok (.iconst 1, 1) := by decide +kernel
theorem dX1_findFirst_95 : decode cX1_findFirst 95 = .ok (.ireturn, 1) := by decide +kernel
theorem dX1_findFirst_96 : decode cX1_findFirst 96 = .ok (.iinc 5 1, 3) := by decide +kernel
theorem dX1_findFirst_99 : decode cX1_findFirst 99 = .ok (.goto (-55), 3) := by decide +kernel
theorem dX1_findFirst_102 : decode cX1_findFirst 102 = .ok (.iinc 4 1, 3) := by decide +kernel
theorem dX1_findFirst_105 : decode cX1_findFirst 105 = .ok (.goto (-79), 3) := by decide +kernel
theorem dX1_findFirst_108 : decode cX1_findFirst 108 = .ok (.iinc 2 1, 3) := by decide +kernel
theorem dX1_findFirst_111 : decode cX1_findFirst 111 = .ok (.goto (-109), 3) := by decide +kernel
theorem dX1_findFirst_114 : decode cX1_findFirst 114 = .ok (.iconst 0, 1) := by decide +kernel
theorem dX1_findFirst_115 : decode cX1_findFirst 115 = .ok (.ireturn, 1) := by decide +kernel
theorem dX1_barsThree_0 : decode cX1_barsThree 0 = .ok (.aload_n 0, 1) := by decide +kernel
theorem dX1_barsThree_1 : decode cX1_barsThree 1 = .ok (.getfield 15, 3) := by decide +kernel
theorem dX1_barsThree_4 : decode cX1_barsThree 4 = .ok (.iload_n 2, 1) := by decide +kernel
theorem dX1_barsThree_5 : decode cX1_barsThree 5 = .ok (.iload_n 3, 1) := by decide +kernel
theorem dX1_barsThree_6 : decode cX1_barsThree 6 = .ok (.iload 4, 2) := by decide +kernel
theorem dX1_barsThree_8 : decode cX1_barsThree 8 = .ok (.invokevirtual 39, 3) := by decide +kernel
theorem dX1_barsThree_11 : decode cX1_barsThree 11 = .ok (.lconst 0, 1) := by decide +kernel
theorem dX1_barsThree_12 : decode cX1_barsThree 12 = .ok (.lcmp, 1) := by decide +kernel
theorem dX1_barsThree_13 : decode cX1_barsThree 13 = .ok (.ifCond .ne 15, 3) := by decide +kernel
theorem dX1_barsThree_16 : decode cX1_barsThree 16 = .ok (.aload_n 0, 1) := by decide +kernel
theorem dX1_barsThree_17 : decode cX1_barsThree 17 = .ok (.iload_n 1, 1) := by decide +kernel
theorem dX1_barsThree_18 : decode cX1_barsThree 18 = .ok (.iload_n 2, 1) := by decide +kernel
theorem dX1_barsThree_19 : decode cX1_barsThree 19 = .ok (.iload_n 3, 1) := by decide +kernel
theorem dX1_barsThree_20 : decode cX1_barsThree 20 = .ok (.iload 4, 2) := by decide +kernel
theorem dX1_barsThree_22 : decode cX1_barsThree 22 = .ok (.invokevirtual 43, 3) := by decide +kernel
theorem dX1_barsThree_25 : decode cX1_barsThree 25 = .ok (.ifCond .ne 5, 3) := by decide +kernel
theorem dX1_barsThree_28 : decode cX1_barsThree 28 = .ok (.iconst 0, 1) := by decide +kernel
theorem dX1_barsThree_29 : decode cX1_barsThree 29 = .ok (.ireturn, 1) := by decide +kernel
theorem dX1_barsThree_30 : decode cX1_barsThree 30 = .ok (.aload_n 0, 1) := by decide +kernel
theorem dX1_barsThree_31 : decode cX1_barsThree 31 = .ok (.iload_n 1, 1) := by decide +kernel
theorem dX1_barsThree_32 : decode cX1_barsThree 32 = .ok (.iload_n 2, 1) := by decide +kernel
theorem dX1_barsThree_33 : decode cX1_barsThree 33 = .ok (.iload_n 3, 1) := by decide +kernel
theorem dX1_barsThree_34 : decode cX1_barsThree 34 = .ok (.iload 4, 2) := by decide +kernel
theorem dX1_barsThree_36 : decode cX1_barsThree 36 = .ok (.invokevirtual 46, 3) := by decide +kernel
theorem dX1_barsThree_39 : decode cX1_barsThree 39 = .ok (.aload_n 0, 1) := by decide +kernel
theorem dX1_barsThree_40 : decode cX1_barsThree 40 = .ok (.iconst 3, 1) := by decide +kernel
theorem dX1_barsThree_41 : decode cX1_barsThree 41 = .ok (.putfield 19, 3) := by decide +kernel
theorem dX1_barsThree_44 : decode cX1_barsThree 44 = .ok (.iconst 1, 1) := by decide +kernel
theorem dX1_barsThree_45 : decode cX1_barsThree 45 = .ok (.ireturn, 1) := by decide +kernel
theorem dX1_barsFour_0 : decode cX1_barsFour 0 = .ok (.iload 4, 2) := by decide +kernel
theorem dX1_barsFour_2 : decode cX1_barsFour 2 = .ok (.iconst 1, 1) := by decide +kernel
theorem dX1_barsFour_3 : decode cX1_barsFour 3 = .ok (.iadd, 1) := by decide +kernel
theorem dX1_barsFour_4 : decode cX1_barsFour 4 = .ok (.istore 5, 2) := by decide +kernel
theorem dX1_barsFour_6 : decode cX1_barsFour 6 = .ok (.iload 5, 2) := by decide +kernel
theorem dX1_barsFour_8 : decode cX1_barsFour 8 = .ok (.aload_n 0, 1) := by decide +kernel
theorem dX1_barsFour_9 : decode cX1_barsFour 9 = .ok (.getfield 15, 3) := by decide +kernel
theorem dX1_barsFour_12 : decode cX1_barsFour 12 = .ok (.getfield 27, 3) := by decide +kernel
theorem dX1_barsFour_15 : decode cX1_barsFour 15 = .ok (.if_icmp .gt 53, 3) := by decide +kernel
theorem dX1_barsFour_18 : decode cX1_barsFour 18 = .ok (.aload_n 0, 1) := by decide +kernel
theorem dX1_barsFour_19 : decode cX1_barsFour 19 = .ok (.iload_n 1, 1) := by decide +kernel
theorem dX1_barsFour_20 : decode cX1_barsFour 20 = .ok (.iload_n 2, 1) := by decide +kernel
theorem dX1_barsFour_21 : decode cX1_barsFour 21 = .ok (.iload_n 3, 1) := by decide +kernel
theorem dX1_barsFour_22 : decode cX1_barsFour 22 = .ok (.iload 4, 2) := by decide +kernel
theorem dX1_barsFour_24 : decode cX1_barsFour 24 = .ok (.iload 5, 2) := by decide +kernel
theorem dX1_barsFour_26 : decode cX1_barsFour 26 = .ok (.invokevirtual 50, 3) := by decide +kernel
theorem dX1_barsFour_29 : decode cX1_barsFour 29 = .ok (.ifCond .eq 33, 3) := by decide +kernel
theorem dX1_barsFour_32 : decode cX1_barsFour 32 = .ok (.aload_n 0, 1) := by decide +kernel
theorem dX1_barsFour_33 : decode cX1_barsFour 33 = .ok (.iload_n 1, 1) := by decide +kernel
theorem dX1_barsFour_34 : decode cX1_barsFour 34 = .ok (.iload_n 2, 1) := by decide +kernel
theorem dX1_barsFour_35 : decode cX1_barsFour 35 = .ok (.iload_n 3, 1) := by decide +kernel
theorem dX1_barsFour_36 : decode cX1_barsFour 36 = .ok (.iload 4, 2) := by decide +kernel
theorem dX1_barsFour_38 : decode cX1_barsFour 38 = .ok (.invokevirtual 46, 3) := by decide +kernel
theorem dX1_barsFour_41 : decode cX1_barsFour 41 = .ok (.aload_n 0, 1) := by decide +kernel
theorem dX1_barsFour_42 : decode cX1_barsFour 42 = .ok (.getfield 9, 3) := by decide +kernel
theorem dX1_barsFour_45 : decode cX1_barsFour 45 = .ok (.iconst 3, 1) := by decide +kernel
theorem dX1_barsFour_46 : decode cX1_barsFour 46 = .ok (.iconst 2, 1) := by decide +kernel
theorem dX1_barsFour_47 : decode cX1_barsFour 47 = .ok (.iload 5, 2) := by decide +kernel
theorem dX1_barsFour_49 : decode cX1_barsFour 49 = .ok (.imul, 1) := by decide +kernel
theorem dX1_barsFour_50 : decode cX1_barsFour 50 = .ok (.iconst 1, 1) := by decide +kernel
theorem dX1_barsFour_51 : decode cX1_barsFour 51 = .ok (.iadd, 1) := by decide +kernel
theorem dX1_barsFour_52 : decode cX1_barsFour 52 = .ok (.iload_n 1, 1) := by decide +kernel
theorem dX1_barsFour_53 : decode cX1_barsFour 53 = .ok (.isub, 1) := by decide +kernel
theorem dX1_barsFour_54 : decode cX1_barsFour 54 = .ok (.iastore, 1) := by decide +kernel
theorem dX1_barsFour_55 : decode cX1_barsFour 55 = .ok (.aload_n 0, 1) := by decide +kernel
theorem dX1_barsFour_56 : decode cX1_barsFour 56 = .ok (.iconst 4, 1) := by decide +kernel
theorem dX1_barsFour_57 : decode cX1_barsFour 57 = .ok (.putfield 19, 3) := by decide +kernel
theorem dX1_barsFour_60 : decode cX1_barsFour 60 = .ok (.iconst 1, 1) := by decide +kernel
theorem dX1_barsFour_61 : decode cX1_barsFour 61 = .ok (.ireturn, 1) := by decide +kernel
theorem dX1_barsFour_62 : decode cX1_barsFour 62 = .ok (.iinc 5 1, 3) := by decide +kernel
theorem dX1_barsFour_65 : decode cX1_barsFour 65 = .ok (.goto (-59), 3) := by decide +kernel
theorem dX1_barsFour_68 : decode cX1_barsFour 68 = .ok (.iload_n 1, 1) := by decide +kernel
theorem dX1_barsFour_69 : decode cX1_barsFour 69 = .ok (.ifCond .ne 39, 3) := by decide +kernel
theorem dX1_barsFour_72 : decode cX1_barsFour 72 = .ok (.aload_n 0, 1) := by decide +kernel
theorem dX1_barsFour_73 : decode cX1_barsFour 73 = .ok (.iload_n 1, 1) := by decide +kernel
theorem dX1_barsFour_74 : decode cX1_barsFour 74 = .ok (.iload_n 2, 1) := by decide +kernel
theorem dX1_barsFour_75 : decode cX1_barsFour 75 = .ok (.iload_n 3, 1) := by decide +kernel
theorem dX1_barsFour_76 : decode cX1_barsFour 76 = .ok (.iload 4, 2) := by decide +kernel
theorem dX1_barsFour_78 : decode cX1_barsFour 78 = .ok (.invokevirtual 43, 3) := by decide +kernel
theorem dX1_barsFour_81 : decode cX1_barsFour 81 = .ok (.ifCond .eq 27, 3) := by decide +kernel
theorem dX1_barsFour_84 : decode cX1_barsFour 84 = .ok (.aload_n 0, 1) := by decide +kernel
theorem dX1_barsFour_85 : decode cX1_barsFour 85 = .ok (.iload_n 1, 1) := by decide +kernel
theorem dX1_barsFour_86 : decode cX1_barsFour 86 = .ok (.iload_n 2, 1) := by decide +kernel
theorem dX1_barsFour_87 : decode cX1_barsFour 87 = .ok (.iload_n 3, 1) := by decide +kernel
theorem dX1_barsFour_88 : decode cX1_barsFour 88 = .ok (.iload 4, 2) := by decide +kernel
theorem dX1_barsFour_90 : decode cX1_barsFour 90 = .ok (.invokevirtual 46, 3) := by decide +kernel
theorem dX1_barsFour_93 : decode cX1_barsFour 93 = .ok (.aload_n 0, 1) := by decide +kernel
theorem dX1_barsFour_94 : decode cX1_barsFour 94 = .ok (.getfield 9, 3) := by decide +kernel
theorem dX1_barsFour_97 : decode cX1_barsFour 97 = .ok (.iconst 3, 1) := by decide +kernel
theorem dX1_barsFour_98 : decode cX1_barsFour 98 = .ok (.bipush 14, 2) := by decide +kernel
theorem dX1_barsFour_100 : decode cX1_barsFour 100 = .ok (.iastore, 1) := by decide +kernel
theorem dX1_barsFour_101 : decode cX1_barsFour 101 = .ok (.aload_n 0, 1) := by decide +kernel
theorem dX1_barsFour_102 : decode cX1_barsFour 102 = .ok (.iconst 4, 1) := by decide +kernel
theorem dX1_barsFour_103 : decode cX1_barsFour 103 = .ok (.putfield 19, 3) := by decide +kernel
theorem dX1_barsFour_106 : decode cX1_barsFour 106 = .ok (.iconst 1, 1) := by decide +kernel
theorem dX1_barsFour_107 : decode cX1_barsFour 107 = .ok (.ireturn, 1) := by decide +kernel
theorem dX1_barsFour_108 : decode cX1_barsFour 108 = .ok (.iconst 0, 1) := by decide +kernel
theorem dX1_barsFour_109 : decode cX1_barsFour 109 = .ok (.ireturn, 1) := by decide +kernel
theorem dX1_keep_0 : decode cX1_keep 0 = .ok (.aload_n 0, 1) := by decide +kernel
theorem dX1_keep_1 : decode cX1_keep 1 = .ok (.getfield 9, 3) := by decide +kernel
theorem dX1_keep_4 : decode cX1_keep 4 = .ok (.iconst 0, 1) := by decide +kernel
theorem dX1_keep_5 : decode cX1_keep 5 = .ok (.iconst 2, 1) := by decide +kernel
theorem dX1_keep_6 : decode cX1_keep 6 = .ok (.iload_n 2, 1) := by decide +kernel
theorem dX1_keep_7 : decode cX1_keep 7 = .ok (.imul, 1) := by decide +kernel
theorem dX1_keep_8 : decode cX1_keep 8 = .ok (.iload_n 1, 1) := by decide +kernel
theorem dX1_keep_9 : decode cX1_keep 9 = .ok (.iadd, 1) := by decide +kernel
theorem dX1_keep_10 : decode cX1_keep 10 = .ok (.iastore, 1) := by decide +kernel
theorem dX1_keep_11 : decode cX1_keep 11 = .ok (.aload_n 0, 1) := by decide +kernel
theorem dX1_keep_12 : decode cX1_keep 12 = .ok (.getfield 9, 3) := by decide +kernel
theorem dX1_keep_15 : decode cX1_keep 15 = .ok (.iconst 1, 1) := by decide +kernel
theorem dX1_keep_16 : decode cX1_keep 16 = .ok (.iconst 2, 1) := by decide +kernel
theorem dX1_keep_17 : decode cX1_keep 17 = .ok (.iload_n 3, 1) := by decide +kernel
theorem dX1_keep_18 : decode cX1_keep 18 = .ok (.imul, 1) := by decide +kernel
theorem dX1_keep_19 : decode cX1_keep 19 = .ok (.iconst 1, 1) := by decide +kernel
theorem dX1_keep_20 : decode cX1_keep 20 = .ok (.iadd, 1) := by decide +kernel
theorem dX1_keep_21 : decode cX1_keep 21 = .ok (.iload_n 1, 1) := by decide +kernel
theorem dX1_keep_22 : decode cX1_keep 22 = .ok (.isub, 1) := by decide +kernel
theorem dX1_keep_23 : decode cX1_keep 23 = .ok (.iastore, 1) := by decide +kernel
theorem dX1_keep_24 : decode cX1_keep 24 = .ok (.aload_n 0, 1) := by decide +kernel
theorem dX1_keep_25 : decode cX1_keep 25 = .ok (.getfield 9, 3) := by decide +kernel
theorem dX1_keep_28 : decode cX1_keep 28 = .ok (.iconst 2, 1) := by decide +kernel
theorem dX1_keep_29 : decode cX1_keep 29 = .ok (.iconst 2, 1) := by decide +kernel
theorem dX1_keep_30 : decode cX1_keep 30 = .ok (.iload 4, 2) := by decide +kernel
theorem dX1_keep_32 : decode cX1_keep 32 = .ok (.imul, 1) := by decide +kernel
theorem dX1_keep_33 : decode cX1_keep 33 = .ok (.iload_n 1, 1) := by decide +kernel
theorem dX1_keep_34 : decode cX1_keep 34 = .ok (.iadd, 1) := by decide +kernel
theorem dX1_keep_35 : decode cX1_keep 35 = .ok (.iastore, 1) := by decide +kernel
theorem dX1_keep_36 : decode cX1_keep 36 = .ok (.return_, 1) := by decide +kernel
theorem dX1_isBeyondChord_0 : decode cX1_isBeyondChord 0 = .ok (.iload_n 1, 1) := by decide +kernel
theorem dX1_isBeyondChord_1 : decode cX1_isBeyondChord 1 = .ok (.ifCond .ne 39, 3) := by decide +kernel
theorem dX1_isBeyondChord_4 : decode cX1_isBeyondChord 4 = .ok (.aload_n 0, 1) := by decide +kernel
theorem dX1_isBeyondChord_5 : decode cX1_isBeyondChord 5 = .ok (.getfield 15, 3) := by decide +kernel
theorem dX1_isBeyondChord_8 : decode cX1_isBeyondChord 8 = .ok (.aload_n 0, 1) := by decide +kernel
theorem dX1_isBeyondChord_9 : decode cX1_isBeyondChord 9 = .ok (.getfield 15, 3) := by decide +kernel
theorem dX1_isBeyondChord_12 : decode cX1_isBeyondChord 12 = .ok (.getfield 54, 3) := by decide +kernel
theorem dX1_isBeyondChord_15 : decode cX1_isBeyondChord 15 = .ok (.aload_n 0, 1) := by decide +kernel
theorem dX1_isBeyondChord_16 : decode cX1_isBeyondChord 16 = .ok (.getfield 15, 3) := by decide +kernel
theorem dX1_isBeyondChord_19 : decode cX1_isBeyondChord 19 = .ok (.getfield 57, 3) := by decide +kernel
theorem dX1_isBeyondChord_22 : decode cX1_isBeyondChord 22 = .ok (.iload_n 2, 1) := by decide +kernel
theorem dX1_isBeyondChord_23 : decode cX1_isBeyondChord 23 = .ok (.iload_n 3, 1) := by decide +kernel
theorem dX1_isBeyondChord_24 : decode cX1_isBeyondChord 24 = .ok (.iload 4, 2) := by decide +kernel
theorem dX1_isBeyondChord_26 : decode cX1_isBeyondChord 26 = .ok (.invokevirtual 60, 3) := by decide +kernel
theorem dX1_isBeyondChord_29 : decode cX1_isBeyondChord 29 = .ok (.lconst 0, 1) := by decide +kernel
theorem dX1_isBeyondChord_30 : decode cX1_isBeyondChord 30 = .ok (.lcmp, 1) := by decide +kernel
theorem dX1_isBeyondChord_31 : decode cX1_isBeyondChord 31 = .ok (.ifCond .ge 7, 3) := by decide +kernel
theorem dX1_isBeyondChord_34 : decode cX1_isBeyondChord 34 = .ok (.iconst 1, 1) := by decide +kernel
theorem dX1_isBeyondChord_35 : decode cX1_isBeyondChord 35 = .ok (.goto 4, 3) := by decide +kernel
theorem dX1_isBeyondChord_38 : decode cX1_isBeyondChord 38 = .ok (.iconst 0, 1) := by decide +kernel
theorem dX1_isBeyondChord_39 : decode cX1_isBeyondChord 39 = .ok (.ireturn, 1) := by decide +kernel
theorem dX1_isBeyondChord_40 : decode cX1_isBeyondChord 40 = .ok (.aload_n 0, 1) := by decide +kernel
theorem dX1_isBeyondChord_41 : decode cX1_isBeyondChord 41 = .ok (.getfield 15, 3) := by decide +kernel
theorem dX1_isBeyondChord_44 : decode cX1_isBeyondChord 44 = .ok (.aload_n 0, 1) := by decide +kernel
theorem dX1_isBeyondChord_45 : decode cX1_isBeyondChord 45 = .ok (.getfield 15, 3) := by decide +kernel
theorem dX1_isBeyondChord_48 : decode cX1_isBeyondChord 48 = .ok (.getfield 57, 3) := by decide +kernel
theorem dX1_isBeyondChord_51 : decode cX1_isBeyondChord 51 = .ok (.aload_n 0, 1) := by decide +kernel
theorem dX1_isBeyondChord_52 : decode cX1_isBeyondChord 52 = .ok (.getfield 15, 3) := by decide +kernel
theorem dX1_isBeyondChord_55 : decode cX1_isBeyondChord 55 = .ok (.getfield 54, 3) := by decide +kernel
theorem dX1_isBeyondChord_58 : decode cX1_isBeyondChord 58 = .ok (.iload_n 2, 1) := by decide +kernel
theorem dX1_isBeyondChord_59 : decode cX1_isBeyondChord 59 = .ok (.iload_n 3, 1) := by decide +kernel
theorem dX1_isBeyondChord_60 : decode cX1_isBeyondChord 60 = .ok (.iload 4, 2) := by decide +kernel
theorem dX1_isBeyondChord_62 : decode cX1_isBeyondChord 62 = .ok (.invokevirtual 60, 3) := by decide +kernel
theorem dX1_isBeyondChord_65 : decode cX1_isBeyondChord 65 = .ok (.lconst 0, 1) := by decide +kernel
theorem dX1_isBeyondChord_66 : decode cX1_isBeyondChord 66 = .ok (.lcmp, 1) := by decide +kernel
theorem dX1_isBeyondChord_67 : decode cX1_isBeyondChord 67 = .ok (.ifCond .le 7, 3) := by decide +kernel
theorem dX1_isBeyondChord_70 : decode cX1_isBeyondChord 70 = .ok (.iconst 1, 1) := by decide +kernel
theorem dX1_isBeyondChord_71 : decode cX1_isBeyondChord 71 = .ok (.goto 4, 3) := by decide +kernel
theorem dX1_isBeyondChord_74 : decode cX1_isBeyondChord 74 = .ok (.iconst 0, 1) := by decide +kernel
theorem dX1_isBeyondChord_75 : decode cX1_isBeyondChord 75 = .ok (.ireturn, 1) := by decide +kernel
theorem dX1_isCrossed_0 : decode cX1_isCrossed 0 = .ok (.iload_n 1, 1) := by decide +kernel
theorem dX1_isCrossed_1 : decode cX1_isCrossed 1 = .ok (.ifCond .ne 13, 3) := by decide +kernel
theorem dX1_isCrossed_4 : decode cX1_isCrossed 4 = .ok (.aload_n 0, 1) := by decide +kernel
theorem dX1_isCrossed_5 : decode cX1_isCrossed 5 = .ok (.getfield 15, 3) := by decide +kernel
theorem dX1_isCrossed_8 : decode cX1_isCrossed 8 = .ok (.getfield 57, 3) := by decide +kernel
theorem dX1_isCrossed_11 : decode cX1_isCrossed 11 = .ok (.goto 10, 3) := by decide +kernel
theorem dX1_isCrossed_14 : decode cX1_isCrossed 14 = .ok (.aload_n 0, 1) := by decide +kernel
theorem dX1_isCrossed_15 : decode cX1_isCrossed 15 = .ok (.getfield 15, 3) := by decide +kernel
theorem dX1_isCrossed_18 : decode cX1_isCrossed 18 = .ok (.getfield 54, 3) := by decide +kernel
theorem dX1_isCrossed_21 : decode cX1_isCrossed 21 = .ok (.astore 6, 2) := by decide +kernel
theorem dX1_isCrossed_23 : decode cX1_isCrossed 23 = .ok (.iload_n 1, 1) := by decide +kernel
theorem dX1_isCrossed_24 : decode cX1_isCrossed 24 = .ok (.ifCond .ne 13, 3) := by decide +kernel
theorem dX1_isCrossed_27 : decode cX1_isCrossed 27 = .ok (.aload_n 0, 1) := by decide +kernel
theorem dX1_isCrossed_28 : decode cX1_isCrossed 28 = .ok (.getfield 15, 3) := by decide +kernel
theorem dX1_isCrossed_31 : decode cX1_isCrossed 31 = .ok (.getfield 54, 3) := by decide +kernel
theorem dX1_isCrossed_34 : decode cX1_isCrossed 34 = .ok (.goto 10, 3) := by decide +kernel
theorem dX1_isCrossed_37 : decode cX1_isCrossed 37 = .ok (.aload_n 0, 1) := by decide +kernel
theorem dX1_isCrossed_38 : decode cX1_isCrossed 38 = .ok (.getfield 15, 3) := by decide +kernel
theorem dX1_isCrossed_41 : decode cX1_isCrossed 41 = .ok (.getfield 57, 3) := by decide +kernel
theorem dX1_isCrossed_44 : decode cX1_isCrossed 44 = .ok (.astore 7, 2) := by decide +kernel
theorem dX1_isCrossed_46 : decode cX1_isCrossed 46 = .ok (.aload_n 0, 1) := by decide +kernel
theorem dX1_isCrossed_47 : decode cX1_isCrossed 47 = .ok (.getfield 15, 3) := by decide +kernel
theorem dX1_isCrossed_50 : decode cX1_isCrossed 50 = .ok (.iload_n 3, 1) := by decide +kernel
theorem dX1_isCrossed_51 : decode cX1_isCrossed 51 = .ok (.iload 4, 2) := by decide +kernel
theorem dX1_isCrossed_53 : decode cX1_isCrossed 53 = .ok (.iload 5, 2) := by decide +kernel
theorem dX1_isCrossed_55 : decode cX1_isCrossed 55 = .ok (.invokevirtual 39, 3) := by decide +kernel
theorem dX1_isCrossed_58 : decode cX1_isCrossed 58 = .ok (.aload 6, 2) := by decide +kernel
theorem dX1_isCrossed_60 : decode cX1_isCrossed 60 = .ok (.iload_n 2, 1) := by decide +kernel
theorem dX1_isCrossed_61 : decode cX1_isCrossed 61 = .ok (.iaload, 1) := by decide +kernel
theorem dX1_isCrossed_62 : decode cX1_isCrossed 62 = .ok (.i2l, 1) := by decide +kernel
theorem dX1_isCrossed_63 : decode cX1_isCrossed 63 = .ok (.lmul, 1) := by decide +kernel
theorem dX1_isCrossed_64 : decode cX1_isCrossed 64 = .ok (.aload_n 0, 1) := by decide +kernel
theorem dX1_isCrossed_65 : decode cX1_isCrossed 65 = .ok (.getfield 15, 3) := by decide +kernel
theorem dX1_isCrossed_68 : decode cX1_isCrossed 68 = .ok (.iload_n 2, 1) := by decide +kernel
theorem dX1_isCrossed_69 : decode cX1_isCrossed 69 = .ok (.iload 4, 2) := by decide +kernel
theorem dX1_isCrossed_71 : decode cX1_isCrossed 71 = .ok (.iload 5, 2) := by decide +kernel
theorem dX1_isCrossed_73 : decode cX1_isCrossed 73 = .ok (.invokevirtual 39, 3) := by decide +kernel
theorem dX1_isCrossed_76 : decode cX1_isCrossed 76 = .ok (.aload 7, 2) := by decide +kernel
theorem dX1_isCrossed_78 : decode cX1_isCrossed 78 = .ok (.iload_n 3, 1) := by decide +kernel
theorem dX1_isCrossed_79 : decode cX1_isCrossed 79 = .ok (.iaload, 1) := by decide +kernel
theorem dX1_isCrossed_80 : decode cX1_isCrossed 80 = .ok (.i2l, 1) := by decide +kernel
theorem dX1_isCrossed_81 : decode cX1_isCrossed 81 = .ok (.lmul, 1) := by decide +kernel
theorem dX1_isCrossed_82 : decode cX1_isCrossed 82 = .ok (.lsub, 1) := by decide +kernel
theorem dX1_isCrossed_83 : decode cX1_isCrossed 83 = .ok (.aload_n 0, 1) := by decide +kernel
theorem dX1_isCrossed_84 : decode cX1_isCrossed 84 = .ok (.getfield 15, 3) := by decide +kernel
theorem dX1_isCrossed_87 : decode cX1_isCrossed 87 = .ok (.iload_n 2, 1) := by decide +kernel
theorem dX1_isCrossed_88 : decode cX1_isCrossed 88 = .ok (.iload_n 3, 1) := by decide +kernel
theorem dX1_isCrossed_89 : decode cX1_isCrossed 89 = .ok (.iload 5, 2) := by decide +kernel
theorem dX1_isCrossed_91 : decode cX1_isCrossed 91 = .ok (.invokevirtual 39, 3) := by decide +kernel
theorem dX1_isCrossed_94 : decode cX1_isCrossed 94 = .ok (.aload 6, 2) := by decide +kernel
theorem dX1_isCrossed_96 : decode cX1_isCrossed 96 = .ok (.iload 4, 2) := by decide +kernel
theorem dX1_isCrossed_98 : decode cX1_isCrossed 98 = .ok (.iaload, 1) := by decide +kernel
theorem dX1_isCrossed_99 : decode cX1_isCrossed 99 = .ok (.i2l, 1) := by decide +kernel
theorem dX1_isCrossed_100 : decode cX1_isCrossed 100 = .ok (.lmul, 1) := by decide +kernel
theorem dX1_isCrossed_101 : decode cX1_isCrossed 101 = .ok (.ladd, 1) := by decide +kernel
theorem dX1_isCrossed_102 : decode cX1_isCrossed 102 = .ok (.aload_n 0, 1) := by decide +kernel
theorem dX1_isCrossed_103 : decode cX1_isCrossed 103 = .ok (.getfield 15, 3) := by decide +kernel
theorem dX1_isCrossed_106 : decode cX1_isCrossed 106 = .ok (.iload_n 2, 1) := by decide +kernel
theorem dX1_isCrossed_107 : decode cX1_isCrossed 107 = .ok (.iload_n 3, 1) := by decide +kernel
theorem dX1_isCrossed_108 : decode cX1_isCrossed 108 = .ok (.iload 4, 2) := by decide +kernel
theorem dX1_isCrossed_110 : decode cX1_isCrossed 110 = .ok (.invokevirtual 39, 3) := by decide +kernel
theorem dX1_isCrossed_113 : decode cX1_isCrossed 113 = .ok (.aload 7, 2) := by decide +kernel
theorem dX1_isCrossed_115 : decode cX1_isCrossed 115 = .ok (.iload 5, 2) := by decide +kernel
theorem dX1_isCrossed_117 : decode cX1_isCrossed 117 = .ok (.iaload, 1) := by decide +kernel
theorem dX1_isCrossed_118 : decode cX1_isCrossed 118 = .ok (.i2l, 1) := by decide +kernel
theorem dX1_isCrossed_119 : decode cX1_isCrossed 119 = .ok (.lmul, 1) := by decide +kernel
theorem dX1_isCrossed_120 : decode cX1_isCrossed 120 = .ok (.lsub, 1) := by decide +kernel
theorem dX1_isCrossed_121 : decode cX1_isCrossed 121 = .ok (.lstore 8, 2) := by decide +kernel
theorem dX1_isCrossed_123 : decode cX1_isCrossed 123 = .ok (.iload_n 1, 1) := by decide +kernel
theorem dX1_isCrossed_124 : decode cX1_isCrossed 124 = .ok (.ifCond .ne 18, 3) := by decide +kernel
theorem dX1_isCrossed_127 : decode cX1_isCrossed 127 = .ok (.lload 8, 2) := by decide +kernel
theorem dX1_isCrossed_129 : decode cX1_isCrossed 129 = .ok (.lconst 0, 1) := by decide +kernel
theorem dX1_isCrossed_130 : decode cX1_isCrossed 130 = .ok (.lcmp, 1) := by decide +kernel
theorem dX1_isCrossed_131 : decode cX1_isCrossed 131 = .ok (.ifCond .le 7, 3) := by decide +kernel
theorem dX1_isCrossed_134 : decode cX1_isCrossed 134 = .ok (.iconst 1, 1) := by decide +kernel
theorem dX1_isCrossed_135 : decode cX1_isCrossed 135 = .ok (.goto 19, 3) := by decide +kernel
theorem dX1_isCrossed_138 : decode cX1_isCrossed 138 = .ok (.iconst 0, 1) := by decide +kernel
theorem dX1_isCrossed_139 : decode cX1_isCrossed 139 = .ok (.goto 15, 3) := by decide +kernel
theorem dX1_isCrossed_142 : decode cX1_isCrossed 142 = .ok (.lload 8, 2) := by decide +kernel
theorem dX1_isCrossed_144 : decode cX1_isCrossed 144 = .ok (.lconst 0, 1) := by decide +kernel
theorem dX1_isCrossed_145 : decode cX1_isCrossed 145 = .ok (.lcmp, 1) := by decide +kernel
theorem dX1_isCrossed_146 : decode cX1_isCrossed 146 = .ok (.ifCond .ge 7, 3) := by decide +kernel
theorem dX1_isCrossed_149 : decode cX1_isCrossed 149 = .ok (.iconst 1, 1) := by decide +kernel
theorem dX1_isCrossed_150 : decode cX1_isCrossed 150 = .ok (.goto 4, 3) := by decide +kernel
theorem dX1_isCrossed_153 : decode cX1_isCrossed 153 = .ok (.iconst 0, 1) := by decide +kernel
theorem dX1_isCrossed_154 : decode cX1_isCrossed 154 = .ok (.ireturn, 1) := by decide +kernel
theorem dX2_init_0 : decode cX2_init 0 = .ok (.aload_n 0, 1) := by decide +kernel
theorem dX2_init_1 : decode cX2_init 1 = .ok (.invokespecial 1, 3) := by decide +kernel
theorem dX2_init_4 : decode cX2_init 4 = .ok (.aload_n 0, 1) := by decide +kernel
theorem dX2_init_5 : decode cX2_init 5 = .ok (.lconst 0, 1) := by decide +kernel
theorem dX2_init_6 : decode cX2_init 6 = .ok (.putfield 7, 3) := by decide +kernel
theorem dX2_init_9 : decode cX2_init 9 = .ok (.aload_n 0, 1) := by decide +kernel
theorem dX2_init_10 : decode cX2_init 10 = .ok (.lconst 1, 1) := by decide +kernel
theorem dX2_init_11 : decode cX2_init 11 = .ok (.putfield 13, 3) := by decide +kernel
theorem dX2_init_14 : decode cX2_init 14 = .ok (.return_, 1) := by decide +kernel
theorem dX2_become_0 : decode cX2_become 0 = .ok (.lload_n 1, 1) := by decide +kernel
theorem dX2_become_1 : decode cX2_become 1 = .ok (.invokestatic 16, 3) := by decide +kernel
theorem dX2_become_4 : decode cX2_become 4 = .ok (.lload_n 3, 1) := by decide +kernel
theorem dX2_become_5 : decode cX2_become 5 = .ok (.invokestatic 22, 3) := by decide +kernel
theorem dX2_become_8 : decode cX2_become 8 = .ok (.lstore 5, 2) := by decide +kernel
theorem dX2_become_10 : decode cX2_become 10 = .ok (.lload 5, 2) := by decide +kernel
theorem dX2_become_12 : decode cX2_become 12 = .ok (.lconst 0, 1) := by decide +kernel
theorem dX2_become_13 : decode cX2_become 13 = .ok (.lcmp, 1) := by decide +kernel
theorem dX2_become_14 : decode cX2_become 14 = .ok (.ifCond .le 19, 3) := by decide +kernel
theorem dX2_become_17 : decode cX2_become 17 = .ok (.aload_n 0, 1) := by decide +kernel
theorem dX2_become_18 : decode cX2_become 18 = .ok (.lload_n 1, 1) := by decide +kernel
theorem dX2_become_19 : decode cX2_become 19 = .ok (.lload 5, 2) := by decide +kernel
theorem dX2_become_21 : decode cX2_become 21 = .ok (.ldiv, 1) := by decide +kernel
theorem dX2_become_22 : decode cX2_become 22 = .ok (.putfield 7, 3) := by decide +kernel
theorem dX2_become_25 : decode cX2_become 25 = .ok (.aload_n 0, 1) := by decide +kernel
theorem dX2_become_26 : decode cX2_become 26 = .ok (.lload_n 3, 1) := by decide +kernel
theorem dX2_become_27 : decode cX2_become 27 = .ok (.lload 5, 2) := by decide +kernel
theorem dX2_become_29 : decode cX2_become 29 = .ok (.ldiv, 1) := by decide +kernel
theorem dX2_become_30 : decode cX2_become 30 = .ok (.putfield 13, 3) := by decide +kernel
theorem dX2_become_33 : decode cX2_become 33 = .ok (.return_, 1) := by decide +kernel
theorem dX2_isAbove_0 : decode cX2_isAbove 0 = .ok (.aload_n 0, 1) := by decide +kernel
theorem dX2_isAbove_1 : decode cX2_isAbove 1 = .ok (.getfield 7, 3) := by decide +kernel
theorem dX2_isAbove_4 : decode cX2_isAbove 4 = .ok (.aload_n 1, 1) := by decide +kernel
theorem dX2_isAbove_5 : decode cX2_isAbove 5 = .ok (.getfield 13, 3) := by decide +kernel
theorem dX2_isAbove_8 : decode cX2_isAbove 8 = .ok (.lmul, 1) := by decide +kernel
theorem dX2_isAbove_9 : decode cX2_isAbove 9 = .ok (.aload_n 1, 1) := by decide +kernel
theorem dX2_isAbove_10 : decode cX2_isAbove 10 = .ok (.getfield 7, 3) := by decide +kernel
theorem dX2_isAbove_13 : decode cX2_isAbove 13 = .ok (.aload_n 0, 1) := by decide +kernel
theorem dX2_isAbove_14 : decode cX2_isAbove 14 = .ok (.getfield 13, 3) := by decide +kernel
theorem dX2_isAbove_17 : decode cX2_isAbove 17 = .ok (.lmul, 1) := by decide +kernel
theorem dX2_isAbove_18 : decode cX2_isAbove 18 = .ok (.lcmp, 1) := by decide +kernel
theorem dX2_isAbove_19 : decode cX2_isAbove 19 = .ok (.ifCond .le 7, 3) := by decide +kernel
theorem dX2_isAbove_22 : decode cX2_isAbove 22 = .ok (.iconst 1, 1) := by decide +kernel
theorem dX2_isAbove_23 : decode cX2_isAbove 23 = .ok (.goto 4, 3) := by decide +kernel
theorem dX2_isAbove_26 : decode cX2_isAbove 26 = .ok (.iconst 0, 1) := by decide +kernel
theorem dX2_isAbove_27 : decode cX2_isAbove 27 = .ok (.ireturn, 1) := by decide +kernel
theorem dX2_part_0 : decode cX2_part 0 = .ok (.iload_n 1, 1) := by decide +kernel
theorem dX2_part_1 : decode cX2_part 1 = .ok (.ifCond .ne 10, 3) := by decide +kernel
theorem dX2_part_4 : decode cX2_part 4 = .ok (.aload_n 0, 1) := by decide +kernel
theorem dX2_part_5 : decode cX2_part 5 = .ok (.getfield 7, 3) := by decide +kernel
theorem dX2_part_8 : decode cX2_part 8 = .ok (.goto 7, 3) := by decide +kernel
theorem dX2_part_11 : decode cX2_part 11 = .ok (.aload_n 0, 1) := by decide +kernel
theorem dX2_part_12 : decode cX2_part 12 = .ok (.getfield 13, 3) := by decide +kernel
theorem dX2_part_15 : decode cX2_part 15 = .ok (.lreturn, 1) := by decide +kernel
theorem dX2_commonDivisor_0 : decode cX2_commonDivisor 0 = .ok (.iconst 0, 1) := by decide +kernel
theorem dX2_commonDivisor_1 : decode cX2_commonDivisor 1 = .ok (.istore 4, 2) := by decide +kernel
theorem dX2_commonDivisor_3 : decode cX2_commonDivisor 3 = .ok (.iload 4, 2) := by decide +kernel
theorem dX2_commonDivisor_5 : decode cX2_commonDivisor 5 = .ok (.bipush 100, 2) := by decide +kernel
theorem dX2_commonDivisor_7 : decode cX2_commonDivisor 7 = .ok (.if_icmp .ge 25, 3) := by decide +kernel
theorem dX2_commonDivisor_10 : decode cX2_commonDivisor 10 = .ok (.lload_n 2, 1) := by decide +kernel
theorem dX2_commonDivisor_11 : decode cX2_commonDivisor 11 = .ok (.lconst 0, 1) := by decide +kernel
theorem dX2_commonDivisor_12 : decode cX2_commonDivisor 12 = .ok (.lcmp, 1) := by decide +kernel
theorem dX2_commonDivisor_13 : decode cX2_commonDivisor 13 = .ok (.ifCond .eq 19, 3) := by decide +kernel
theorem dX2_commonDivisor_16 : decode cX2_commonDivisor 16 = .ok (.lload_n 0, 1) := by decide +kernel
theorem dX2_commonDivisor_17 : decode cX2_commonDivisor 17 = .ok (.lload_n 2, 1) := by decide +kernel
theorem dX2_commonDivisor_18 : decode cX2_commonDivisor 18 = .ok (.lrem, 1) := by decide +kernel
theorem dX2_commonDivisor_19 : decode cX2_commonDivisor 19 = .ok (.lstore 5, 2) := by decide +kernel
