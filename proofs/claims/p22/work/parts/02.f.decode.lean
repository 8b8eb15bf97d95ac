theorem dX11_findBest_63 : decode cX11_findBest 63 = .ok (.iload_n 1, 1) := by decide +kernel
theorem dX11_findBest_64 : decode cX11_findBest 64 = .ok (.iload 5, 2) := by decide +kernel
theorem dX11_findBest_66 : decode cX11_findBest 66 = .ok (.iload 6, 2) := by decide +kernel
theorem dX11_findBest_68 : decode cX11_findBest 68 = .ok (.invokevirtual 426, 3) := by decide +kernel
theorem dX11_findBest_71 : decode cX11_findBest 71 = .ok (.iload 7, 2) := by decide +kernel
theorem dX11_findBest_73 : decode cX11_findBest 73 = .ok (.iload 4, 2) := by decide +kernel
theorem dX11_findBest_75 : decode cX11_findBest 75 = .ok (.invokevirtual 429, 3) := by decide +kernel
theorem dX11_findBest_78 : decode cX11_findBest 78 = .ok (.iastore, 1) := by decide +kernel
theorem dX11_findBest_79 : decode cX11_findBest 79 = .ok (.iinc 7 1, 3) := by decide +kernel
theorem dX11_findBest_82 : decode cX11_findBest 82 = .ok (.goto (-49), 3) := by decide +kernel
theorem dX11_findBest_85 : decode cX11_findBest 85 = .ok (.iinc 6 1, 3) := by decide +kernel
theorem dX11_findBest_88 : decode cX11_findBest 88 = .ok (.goto (-65), 3) := by decide +kernel
theorem dX11_findBest_91 : decode cX11_findBest 91 = .ok (.iinc 4 1, 3) := by decide +kernel
theorem dX11_findBest_94 : decode cX11_findBest 94 = .ok (.goto (-91), 3) := by decide +kernel
theorem dX11_findBest_97 : decode cX11_findBest 97 = .ok (.return_, 1) := by decide +kernel
theorem dX11_isBest_0 : decode cX11_isBest 0 = .ok (.aload_n 0, 1) := by decide +kernel
theorem dX11_isBest_1 : decode cX11_isBest 1 = .ok (.iload_n 1, 1) := by decide +kernel
theorem dX11_isBest_2 : decode cX11_isBest 2 = .ok (.invokevirtual 367, 3) := by decide +kernel
theorem dX11_isBest_5 : decode cX11_isBest 5 = .ok (.ifCond .eq 42, 3) := by decide +kernel
theorem dX11_isBest_8 : decode cX11_isBest 8 = .ok (.iload_n 2, 1) := by decide +kernel
theorem dX11_isBest_9 : decode cX11_isBest 9 = .ok (.invokestatic 370, 3) := by decide +kernel
theorem dX11_isBest_12 : decode cX11_isBest 12 = .ok (.ifCond .eq 35, 3) := by decide +kernel
theorem dX11_isBest_15 : decode cX11_isBest 15 = .ok (.iload_n 3, 1) := by decide +kernel
theorem dX11_isBest_16 : decode cX11_isBest 16 = .ok (.invokestatic 392, 3) := by decide +kernel
theorem dX11_isBest_19 : decode cX11_isBest 19 = .ok (.ifCond .eq 28, 3) := by decide +kernel
theorem dX11_isBest_22 : decode cX11_isBest 22 = .ok (.iload 4, 2) := by decide +kernel
theorem dX11_isBest_24 : decode cX11_isBest 24 = .ok (.invokestatic 395, 3) := by decide +kernel
theorem dX11_isBest_27 : decode cX11_isBest 27 = .ok (.ifCond .eq 20, 3) := by decide +kernel
theorem dX11_isBest_30 : decode cX11_isBest 30 = .ok (.iload 5, 2) := by decide +kernel
theorem dX11_isBest_32 : decode cX11_isBest 32 = .ok (.i2l, 1) := by decide +kernel
theorem dX11_isBest_33 : decode cX11_isBest 33 = .ok (.lconst 0, 1) := by decide +kernel
theorem dX11_isBest_34 : decode cX11_isBest 34 = .ok (.ldc2_w 433, 3) := by decide +kernel
theorem dX11_isBest_37 : decode cX11_isBest 37 = .ok (.invokestatic 52, 3) := by decide +kernel
theorem dX11_isBest_40 : decode cX11_isBest 40 = .ok (.ifCond .eq 7, 3) := by decide +kernel
theorem dX11_isBest_43 : decode cX11_isBest 43 = .ok (.iconst 1, 1) := by decide +kernel
theorem dX11_isBest_44 : decode cX11_isBest 44 = .ok (.goto 4, 3) := by decide +kernel
theorem dX11_isBest_47 : decode cX11_isBest 47 = .ok (.iconst 0, 1) := by decide +kernel
theorem dX11_isBest_48 : decode cX11_isBest 48 = .ok (.ireturn, 1) := by decide +kernel
theorem dX11_best_0 : decode cX11_best 0 = .ok (.aload_n 0, 1) := by decide +kernel
theorem dX11_best_1 : decode cX11_best 1 = .ok (.iload_n 1, 1) := by decide +kernel
theorem dX11_best_2 : decode cX11_best 2 = .ok (.iload_n 2, 1) := by decide +kernel
theorem dX11_best_3 : decode cX11_best 3 = .ok (.iload_n 3, 1) := by decide +kernel
theorem dX11_best_4 : decode cX11_best 4 = .ok (.iload 4, 2) := by decide +kernel
theorem dX11_best_6 : decode cX11_best 6 = .ok (.iload 5, 2) := by decide +kernel
theorem dX11_best_8 : decode cX11_best 8 = .ok (.invokevirtual 435, 3) := by decide +kernel
theorem dX11_best_11 : decode cX11_best 11 = .ok (.ifCond .ne 6, 3) := by decide +kernel
theorem dX11_best_14 : decode cX11_best 14 = .ok (.bipush (-2), 2) := by decide +kernel
theorem dX11_best_16 : decode cX11_best 16 = .ok (.ireturn, 1) := by decide +kernel
theorem dX11_best_17 : decode cX11_best 17 = .ok (.iload 5, 2) := by decide +kernel
theorem dX11_best_19 : decode cX11_best 19 = .ok (.ifCond .ne 5, 3) := by decide +kernel
theorem dX11_best_22 : decode cX11_best 22 = .ok (.iconst 0, 1) := by decide +kernel
theorem dX11_best_23 : decode cX11_best 23 = .ok (.ireturn, 1) := by decide +kernel
theorem dX11_best_24 : decode cX11_best 24 = .ok (.aload_n 0, 1) := by decide +kernel
theorem dX11_best_25 : decode cX11_best 25 = .ok (.iload_n 1, 1) := by decide +kernel
theorem dX11_best_26 : decode cX11_best 26 = .ok (.iload_n 2, 1) := by decide +kernel
theorem dX11_best_27 : decode cX11_best 27 = .ok (.iload 5, 2) := by decide +kernel
theorem dX11_best_29 : decode cX11_best 29 = .ok (.invokevirtual 438, 3) := by decide +kernel
theorem dX11_best_32 : decode cX11_best 32 = .ok (.aload_n 0, 1) := by decide +kernel
theorem dX11_best_33 : decode cX11_best 33 = .ok (.iload_n 1, 1) := by decide +kernel
theorem dX11_best_34 : decode cX11_best 34 = .ok (.iload_n 2, 1) := by decide +kernel
theorem dX11_best_35 : decode cX11_best 35 = .ok (.aload_n 0, 1) := by decide +kernel
theorem dX11_best_36 : decode cX11_best 36 = .ok (.iload_n 1, 1) := by decide +kernel
theorem dX11_best_37 : decode cX11_best 37 = .ok (.iload_n 2, 1) := by decide +kernel
theorem dX11_best_38 : decode cX11_best 38 = .ok (.iload_n 3, 1) := by decide +kernel
theorem dX11_best_39 : decode cX11_best 39 = .ok (.invokevirtual 426, 3) := by decide +kernel
theorem dX11_best_42 : decode cX11_best 42 = .ok (.iload 4, 2) := by decide +kernel
theorem dX11_best_44 : decode cX11_best 44 = .ok (.iload 5, 2) := by decide +kernel
theorem dX11_best_46 : decode cX11_best 46 = .ok (.invokevirtual 429, 3) := by decide +kernel
theorem dX11_best_49 : decode cX11_best 49 = .ok (.ireturn, 1) := by decide +kernel
theorem dX11_bestAct_0 : decode cX11_bestAct 0 = .ok (.aload_n 0, 1) := by decide +kernel
theorem dX11_bestAct_1 : decode cX11_bestAct 1 = .ok (.iload_n 1, 1) := by decide +kernel
theorem dX11_bestAct_2 : decode cX11_bestAct 2 = .ok (.iload_n 2, 1) := by decide +kernel
theorem dX11_bestAct_3 : decode cX11_bestAct 3 = .ok (.iload_n 3, 1) := by decide +kernel
theorem dX11_bestAct_4 : decode cX11_bestAct 4 = .ok (.iload 4, 2) := by decide +kernel
theorem dX11_bestAct_6 : decode cX11_bestAct 6 = .ok (.iload 5, 2) := by decide +kernel
theorem dX11_bestAct_8 : decode cX11_bestAct 8 = .ok (.invokevirtual 435, 3) := by decide +kernel
theorem dX11_bestAct_11 : decode cX11_bestAct 11 = .ok (.ifCond .ne 6, 3) := by decide +kernel
theorem dX11_bestAct_14 : decode cX11_bestAct 14 = .ok (.bipush (-2), 2) := by decide +kernel
theorem dX11_bestAct_16 : decode cX11_bestAct 16 = .ok (.ireturn, 1) := by decide +kernel
theorem dX11_bestAct_17 : decode cX11_bestAct 17 = .ok (.iload 5, 2) := by decide +kernel
theorem dX11_bestAct_19 : decode cX11_bestAct 19 = .ok (.ifCond .ne 5, 3) := by decide +kernel
theorem dX11_bestAct_22 : decode cX11_bestAct 22 = .ok (.iconst (-1), 1) := by decide +kernel
theorem dX11_bestAct_23 : decode cX11_bestAct 23 = .ok (.ireturn, 1) := by decide +kernel
theorem dX11_bestAct_24 : decode cX11_bestAct 24 = .ok (.aload_n 0, 1) := by decide +kernel
theorem dX11_bestAct_25 : decode cX11_bestAct 25 = .ok (.iload_n 1, 1) := by decide +kernel
theorem dX11_bestAct_26 : decode cX11_bestAct 26 = .ok (.iload_n 2, 1) := by decide +kernel
theorem dX11_bestAct_27 : decode cX11_bestAct 27 = .ok (.iload 5, 2) := by decide +kernel
theorem dX11_bestAct_29 : decode cX11_bestAct 29 = .ok (.invokevirtual 438, 3) := by decide +kernel
theorem dX11_bestAct_32 : decode cX11_bestAct 32 = .ok (.aload_n 0, 1) := by decide +kernel
theorem dX11_bestAct_33 : decode cX11_bestAct 33 = .ok (.iload_n 1, 1) := by decide +kernel
theorem dX11_bestAct_34 : decode cX11_bestAct 34 = .ok (.iload_n 2, 1) := by decide +kernel
theorem dX11_bestAct_35 : decode cX11_bestAct 35 = .ok (.aload_n 0, 1) := by decide +kernel
theorem dX11_bestAct_36 : decode cX11_bestAct 36 = .ok (.iload_n 1, 1) := by decide +kernel
theorem dX11_bestAct_37 : decode cX11_bestAct 37 = .ok (.iload_n 2, 1) := by decide +kernel
theorem dX11_bestAct_38 : decode cX11_bestAct 38 = .ok (.iload_n 3, 1) := by decide +kernel
theorem dX11_bestAct_39 : decode cX11_bestAct 39 = .ok (.invokevirtual 426, 3) := by decide +kernel
theorem dX11_bestAct_42 : decode cX11_bestAct 42 = .ok (.iload 4, 2) := by decide +kernel
theorem dX11_bestAct_44 : decode cX11_bestAct 44 = .ok (.iload 5, 2) := by decide +kernel
theorem dX11_bestAct_46 : decode cX11_bestAct 46 = .ok (.invokevirtual 429, 3) := by decide +kernel
theorem dX11_bestAct_49 : decode cX11_bestAct 49 = .ok (.pop, 1) := by decide +kernel
theorem dX11_bestAct_50 : decode cX11_bestAct 50 = .ok (.aload_n 0, 1) := by decide +kernel
theorem dX11_bestAct_51 : decode cX11_bestAct 51 = .ok (.getfield 423, 3) := by decide +kernel
theorem dX11_bestAct_54 : decode cX11_bestAct 54 = .ok (.ireturn, 1) := by decide +kernel
theorem dX11_forgetWeeks_0 : decode cX11_forgetWeeks 0 = .ok (.iconst 0, 1) := by decide +kernel
theorem dX11_forgetWeeks_1 : decode cX11_forgetWeeks 1 = .ok (.istore_n 1, 1) := by decide +kernel
theorem dX11_forgetWeeks_2 : decode cX11_forgetWeeks 2 = .ok (.iload_n 1, 1) := by decide +kernel
theorem dX11_forgetWeeks_3 : decode cX11_forgetWeeks 3 = .ok (.bipush 28, 2) := by decide +kernel
theorem dX11_forgetWeeks_5 : decode cX11_forgetWeeks 5 = .ok (.if_icmp .ge 16, 3) := by decide +kernel
theorem dX11_forgetWeeks_8 : decode cX11_forgetWeeks 8 = .ok (.aload_n 0, 1) := by decide +kernel
theorem dX11_forgetWeeks_9 : decode cX11_forgetWeeks 9 = .ok (.getfield 279, 3) := by decide +kernel
theorem dX11_forgetWeeks_12 : decode cX11_forgetWeeks 12 = .ok (.iload_n 1, 1) := by decide +kernel
theorem dX11_forgetWeeks_13 : decode cX11_forgetWeeks 13 = .ok (.iconst 0, 1) := by decide +kernel
theorem dX11_forgetWeeks_14 : decode cX11_forgetWeeks 14 = .ok (.bastore, 1) := by decide +kernel
theorem dX11_forgetWeeks_15 : decode cX11_forgetWeeks 15 = .ok (.iinc 1 1, 3) := by decide +kernel
theorem dX11_forgetWeeks_18 : decode cX11_forgetWeeks 18 = .ok (.goto (-16), 3) := by decide +kernel
theorem dX11_forgetWeeks_21 : decode cX11_forgetWeeks 21 = .ok (.return_, 1) := by decide +kernel
theorem dX11_findWeek_0 : decode cX11_findWeek 0 = .ok (.bipush 7, 2) := by decide +kernel
theorem dX11_findWeek_2 : decode cX11_findWeek 2 = .ok (.iload_n 1, 1) := by decide +kernel
theorem dX11_findWeek_3 : decode cX11_findWeek 3 = .ok (.imul, 1) := by decide +kernel
theorem dX11_findWeek_4 : decode cX11_findWeek 4 = .ok (.iload_n 2, 1) := by decide +kernel
theorem dX11_findWeek_5 : decode cX11_findWeek 5 = .ok (.iadd, 1) := by decide +kernel
theorem dX11_findWeek_6 : decode cX11_findWeek 6 = .ok (.istore_n 3, 1) := by decide +kernel
theorem dX11_findWeek_7 : decode cX11_findWeek 7 = .ok (.sipush 2196, 3) := by decide +kernel
theorem dX11_findWeek_10 : decode cX11_findWeek 10 = .ok (.istore 4, 2) := by decide +kernel
theorem dX11_findWeek_12 : decode cX11_findWeek 12 = .ok (.aload_n 0, 1) := by decide +kernel
theorem dX11_findWeek_13 : decode cX11_findWeek 13 = .ok (.getfield 279, 3) := by decide +kernel
theorem dX11_findWeek_16 : decode cX11_findWeek 16 = .ok (.iload_n 3, 1) := by decide +kernel
theorem dX11_findWeek_17 : decode cX11_findWeek 17 = .ok (.baload, 1) := by decide +kernel
theorem dX11_findWeek_18 : decode cX11_findWeek 18 = .ok (.ifCond .eq 44, 3) := by decide +kernel
theorem dX11_findWeek_21 : decode cX11_findWeek 21 = .ok (.iconst 0, 1) := by decide +kernel
theorem dX11_findWeek_22 : decode cX11_findWeek 22 = .ok (.istore 5, 2) := by decide +kernel
theorem dX11_findWeek_24 : decode cX11_findWeek 24 = .ok (.iload 5, 2) := by decide +kernel
theorem dX11_findWeek_26 : decode cX11_findWeek 26 = .ok (.sipush 366, 3) := by decide +kernel
theorem dX11_findWeek_29 : decode cX11_findWeek 29 = .ok (.if_icmp .ge 32, 3) := by decide +kernel
theorem dX11_findWeek_32 : decode cX11_findWeek 32 = .ok (.aload_n 0, 1) := by decide +kernel
theorem dX11_findWeek_33 : decode cX11_findWeek 33 = .ok (.getfield 270, 3) := by decide +kernel
theorem dX11_findWeek_36 : decode cX11_findWeek 36 = .ok (.iload 4, 2) := by decide +kernel
theorem dX11_findWeek_38 : decode cX11_findWeek 38 = .ok (.iload 5, 2) := by decide +kernel
theorem dX11_findWeek_40 : decode cX11_findWeek 40 = .ok (.iadd, 1) := by decide +kernel
theorem dX11_findWeek_41 : decode cX11_findWeek 41 = .ok (.aload_n 0, 1) := by decide +kernel
theorem dX11_findWeek_42 : decode cX11_findWeek 42 = .ok (.getfield 276, 3) := by decide +kernel
theorem dX11_findWeek_45 : decode cX11_findWeek 45 = .ok (.sipush 366, 3) := by decide +kernel
theorem dX11_findWeek_48 : decode cX11_findWeek 48 = .ok (.iload_n 3, 1) := by decide +kernel
theorem dX11_findWeek_49 : decode cX11_findWeek 49 = .ok (.imul, 1) := by decide +kernel
theorem dX11_findWeek_50 : decode cX11_findWeek 50 = .ok (.iload 5, 2) := by decide +kernel
theorem dX11_findWeek_52 : decode cX11_findWeek 52 = .ok (.iadd, 1) := by decide +kernel
theorem dX11_findWeek_53 : decode cX11_findWeek 53 = .ok (.iaload, 1) := by decide +kernel
theorem dX11_findWeek_54 : decode cX11_findWeek 54 = .ok (.iastore, 1) := by decide +kernel
theorem dX11_findWeek_55 : decode cX11_findWeek 55 = .ok (.iinc 5 1, 3) := by decide +kernel
theorem dX11_findWeek_58 : decode cX11_findWeek 58 = .ok (.goto (-34), 3) := by decide +kernel
theorem dX11_findWeek_61 : decode cX11_findWeek 61 = .ok (.return_, 1) := by decide +kernel
theorem dX11_findWeek_62 : decode cX11_findWeek 62 = .ok (.aload_n 0, 1) := by decide +kernel
theorem dX11_findWeek_63 : decode cX11_findWeek 63 = .ok (.iload_n 1, 1) := by decide +kernel
theorem dX11_findWeek_64 : decode cX11_findWeek 64 = .ok (.iload_n 2, 1) := by decide +kernel
theorem dX11_findWeek_65 : decode cX11_findWeek 65 = .ok (.bipush 7, 2) := by decide +kernel
theorem dX11_findWeek_67 : decode cX11_findWeek 67 = .ok (.invokevirtual 438, 3) := by decide +kernel
theorem dX11_findWeek_70 : decode cX11_findWeek 70 = .ok (.aload_n 0, 1) := by decide +kernel
theorem dX11_findWeek_71 : decode cX11_findWeek 71 = .ok (.getfield 279, 3) := by decide +kernel
theorem dX11_findWeek_74 : decode cX11_findWeek 74 = .ok (.iload_n 3, 1) := by decide +kernel
theorem dX11_findWeek_75 : decode cX11_findWeek 75 = .ok (.iconst 1, 1) := by decide +kernel
theorem dX11_findWeek_76 : decode cX11_findWeek 76 = .ok (.bastore, 1) := by decide +kernel
theorem dX11_findWeek_77 : decode cX11_findWeek 77 = .ok (.iconst 0, 1) := by decide +kernel
theorem dX11_findWeek_78 : decode cX11_findWeek 78 = .ok (.istore 5, 2) := by decide +kernel
theorem dX11_findWeek_80 : decode cX11_findWeek 80 = .ok (.iload 5, 2) := by decide +kernel
theorem dX11_findWeek_82 : decode cX11_findWeek 82 = .ok (.sipush 366, 3) := by decide +kernel
theorem dX11_findWeek_85 : decode cX11_findWeek 85 = .ok (.if_icmp .ge 32, 3) := by decide +kernel
theorem dX11_findWeek_88 : decode cX11_findWeek 88 = .ok (.aload_n 0, 1) := by decide +kernel
theorem dX11_findWeek_89 : decode cX11_findWeek 89 = .ok (.getfield 276, 3) := by decide +kernel
theorem dX11_findWeek_92 : decode cX11_findWeek 92 = .ok (.sipush 366, 3) := by decide +kernel
theorem dX11_findWeek_95 : decode cX11_findWeek 95 = .ok (.iload_n 3, 1) := by decide +kernel
theorem dX11_findWeek_96 : decode cX11_findWeek 96 = .ok (.imul, 1) := by decide +kernel
theorem dX11_findWeek_97 : decode cX11_findWeek 97 = .ok (.iload 5, 2) := by decide +kernel
theorem dX11_findWeek_99 : decode cX11_findWeek 99 = .ok (.iadd, 1) := by decide +kernel
theorem dX11_findWeek_100 : decode cX11_findWeek 100 = .ok (.aload_n 0, 1) := by decide +kernel
theorem dX11_findWeek_101 : decode cX11_findWeek 101 = .ok (.getfield 270, 3) := by decide +kernel
theorem dX11_findWeek_104 : decode cX11_findWeek 104 = .ok (.iload 4, 2) := by decide +kernel
theorem dX11_findWeek_106 : decode cX11_findWeek 106 = .ok (.iload 5, 2) := by decide +kernel
theorem dX11_findWeek_108 : decode cX11_findWeek 108 = .ok (.iadd, 1) := by decide +kernel
theorem dX11_findWeek_109 : decode cX11_findWeek 109 = .ok (.iaload, 1) := by decide +kernel
theorem dX11_findWeek_110 : decode cX11_findWeek 110 = .ok (.iastore, 1) := by decide +kernel
theorem dX11_findWeek_111 : decode cX11_findWeek 111 = .ok (.iinc 5 1, 3) := by decide +kernel
theorem dX11_findWeek_114 : decode cX11_findWeek 114 = .ok (.goto (-34), 3) := by decide +kernel
theorem dX11_findWeek_117 : decode cX11_findWeek 117 = .ok (.return_, 1) := by decide +kernel
theorem dX11_canBuy_0 : decode cX11_canBuy 0 = .ok (.iload_n 0, 1) := by decide +kernel
theorem dX11_canBuy_1 : decode cX11_canBuy 1 = .ok (.iload_n 2, 1) := by decide +kernel
theorem dX11_canBuy_2 : decode cX11_canBuy 2 = .ok (.ifCond .ne 7, 3) := by decide +kernel
theorem dX11_canBuy_5 : decode cX11_canBuy 5 = .ok (.iload_n 0, 1) := by decide +kernel
theorem dX11_canBuy_6 : decode cX11_canBuy 6 = .ok (.goto 6, 3) := by decide +kernel
theorem dX11_canBuy_9 : decode cX11_canBuy 9 = .ok (.iload_n 1, 1) := by decide +kernel
theorem dX11_canBuy_10 : decode cX11_canBuy 10 = .ok (.iload_n 2, 1) := by decide +kernel
theorem dX11_canBuy_11 : decode cX11_canBuy 11 = .ok (.idiv, 1) := by decide +kernel
theorem dX11_canBuy_12 : decode cX11_canBuy 12 = .ok (.invokestatic 417, 3) := by decide +kernel
theorem dX11_canBuy_15 : decode cX11_canBuy 15 = .ok (.ireturn, 1) := by decide +kernel
theorem dX11_actOf_0 : decode cX11_actOf 0 = .ok (.bipush 7, 2) := by decide +kernel
theorem dX11_actOf_2 : decode cX11_actOf 2 = .ok (.iload_n 2, 1) := by decide +kernel
theorem dX11_actOf_3 : decode cX11_actOf 3 = .ok (.imul, 1) := by decide +kernel
theorem dX11_actOf_4 : decode cX11_actOf 4 = .ok (.iload_n 3, 1) := by decide +kernel
theorem dX11_actOf_5 : decode cX11_actOf 5 = .ok (.iadd, 1) := by decide +kernel
theorem dX11_actOf_6 : decode cX11_actOf 6 = .ok (.istore 6, 2) := by decide +kernel
theorem dX11_actOf_8 : decode cX11_actOf 8 = .ok (.aload_n 0, 1) := by decide +kernel
theorem dX11_actOf_9 : decode cX11_actOf 9 = .ok (.getfield 264, 3) := by decide +kernel
theorem dX11_actOf_12 : decode cX11_actOf 12 = .ok (.iload 6, 2) := by decide +kernel
theorem dX11_actOf_14 : decode cX11_actOf 14 = .ok (.iaload, 1) := by decide +kernel
theorem dX11_actOf_15 : decode cX11_actOf 15 = .ok (.istore 7, 2) := by decide +kernel
theorem dX11_actOf_17 : decode cX11_actOf 17 = .ok (.aload_n 0, 1) := by decide +kernel
theorem dX11_actOf_18 : decode cX11_actOf 18 = .ok (.getfield 244, 3) := by decide +kernel
theorem dX11_actOf_21 : decode cX11_actOf 21 = .ok (.iload_n 2, 1) := by decide +kernel
theorem dX11_actOf_22 : decode cX11_actOf 22 = .ok (.iaload, 1) := by decide +kernel
theorem dX11_actOf_23 : decode cX11_actOf 23 = .ok (.iload_n 3, 1) := by decide +kernel
theorem dX11_actOf_24 : decode cX11_actOf 24 = .ok (.ishr, 1) := by decide +kernel
theorem dX11_actOf_25 : decode cX11_actOf 25 = .ok (.iconst 1, 1) := by decide +kernel
theorem dX11_actOf_26 : decode cX11_actOf 26 = .ok (.iand, 1) := by decide +kernel
theorem dX11_actOf_27 : decode cX11_actOf 27 = .ok (.iconst 1, 1) := by decide +kernel
theorem dX11_actOf_28 : decode cX11_actOf 28 = .ok (.if_icmp .ne 7, 3) := by decide +kernel
theorem dX11_actOf_31 : decode cX11_actOf 31 = .ok (.iconst 1, 1) := by decide +kernel
theorem dX11_actOf_32 : decode cX11_actOf 32 = .ok (.goto 4, 3) := by decide +kernel
theorem dX11_actOf_35 : decode cX11_actOf 35 = .ok (.iconst 0, 1) := by decide +kernel
theorem dX11_actOf_36 : decode cX11_actOf 36 = .ok (.istore 8, 2) := by decide +kernel
theorem dX11_actOf_38 : decode cX11_actOf 38 = .ok (.iload 7, 2) := by decide +kernel
theorem dX11_actOf_40 : decode cX11_actOf 40 = .ok (.ifCond .le 21, 3) := by decide +kernel
theorem dX11_actOf_43 : decode cX11_actOf 43 = .ok (.aload_n 0, 1) := by decide +kernel
theorem dX11_actOf_44 : decode cX11_actOf 44 = .ok (.getfield 261, 3) := by decide +kernel
theorem dX11_actOf_47 : decode cX11_actOf 47 = .ok (.iload 6, 2) := by decide +kernel
theorem dX11_actOf_49 : decode cX11_actOf 49 = .ok (.iaload, 1) := by decide +kernel
theorem dX11_actOf_50 : decode cX11_actOf 50 = .ok (.aload_n 0, 1) := by decide +kernel
theorem dX11_actOf_51 : decode cX11_actOf 51 = .ok (.getfield 224, 3) := by decide +kernel
theorem dX11_actOf_54 : decode cX11_actOf 54 = .ok (.if_icmp .ne 7, 3) := by decide +kernel
theorem dX11_actOf_57 : decode cX11_actOf 57 = .ok (.iconst 1, 1) := by decide +kernel
theorem dX11_actOf_58 : decode cX11_actOf 58 = .ok (.goto 4, 3) := by decide +kernel
theorem dX11_actOf_61 : decode cX11_actOf 61 = .ok (.iconst 0, 1) := by decide +kernel
theorem dX11_actOf_62 : decode cX11_actOf 62 = .ok (.istore 9, 2) := by decide +kernel
theorem dX11_actOf_64 : decode cX11_actOf 64 = .ok (.iload_n 1, 1) := by decide +kernel
theorem dX11_actOf_65 : decode cX11_actOf 65 = .ok (.iconst 4, 1) := by decide +kernel
theorem dX11_actOf_66 : decode cX11_actOf 66 = .ok (.if_icmp .ne 5, 3) := by decide +kernel
theorem dX11_actOf_69 : decode cX11_actOf 69 = .ok (.iconst 0, 1) := by decide +kernel
theorem dX11_actOf_70 : decode cX11_actOf 70 = .ok (.ireturn, 1) := by decide +kernel
theorem dX11_actOf_71 : decode cX11_actOf 71 = .ok (.iload_n 1, 1) := by decide +kernel
theorem dX11_actOf_72 : decode cX11_actOf 72 = .ok (.iconst 3, 1) := by decide +kernel
theorem dX11_actOf_73 : decode cX11_actOf 73 = .ok (.if_icmp .ne 27, 3) := by decide +kernel
theorem dX11_actOf_76 : decode cX11_actOf 76 = .ok (.aload_n 0, 1) := by decide +kernel
theorem dX11_actOf_77 : decode cX11_actOf 77 = .ok (.iload_n 2, 1) := by decide +kernel
theorem dX11_actOf_78 : decode cX11_actOf 78 = .ok (.iload_n 3, 1) := by decide +kernel
theorem dX11_actOf_79 : decode cX11_actOf 79 = .ok (.invokevirtual 442, 3) := by decide +kernel
theorem dX11_actOf_82 : decode cX11_actOf 82 = .ok (.aload_n 0, 1) := by decide +kernel
theorem dX11_actOf_83 : decode cX11_actOf 83 = .ok (.iload_n 2, 1) := by decide +kernel
theorem dX11_actOf_84 : decode cX11_actOf 84 = .ok (.iload_n 3, 1) := by decide +kernel
theorem dX11_actOf_85 : decode cX11_actOf 85 = .ok (.iload 4, 2) := by decide +kernel
theorem dX11_actOf_87 : decode cX11_actOf 87 = .ok (.iload 5, 2) := by decide +kernel
theorem dX11_actOf_89 : decode cX11_actOf 89 = .ok (.bipush 7, 2) := by decide +kernel
theorem dX11_actOf_91 : decode cX11_actOf 91 = .ok (.invokevirtual 429, 3) := by decide +kernel
theorem dX11_actOf_94 : decode cX11_actOf 94 = .ok (.pop, 1) := by decide +kernel
theorem dX11_actOf_95 : decode cX11_actOf 95 = .ok (.aload_n 0, 1) := by decide +kernel
theorem dX11_actOf_96 : decode cX11_actOf 96 = .ok (.getfield 423, 3) := by decide +kernel
theorem dX11_actOf_99 : decode cX11_actOf 99 = .ok (.ireturn, 1) := by decide +kernel
theorem dX11_actOf_100 : decode cX11_actOf 100 = .ok (.aload_n 0, 1) := by decide +kernel
theorem dX11_actOf_101 : decode cX11_actOf 101 = .ok (.aload_n 0, 1) := by decide +kernel
theorem dX11_actOf_102 : decode cX11_actOf 102 = .ok (.getfield 261, 3) := by decide +kernel
theorem dX11_actOf_105 : decode cX11_actOf 105 = .ok (.iload 6, 2) := by decide +kernel
theorem dX11_actOf_107 : decode cX11_actOf 107 = .ok (.iaload, 1) := by decide +kernel
theorem dX11_actOf_108 : decode cX11_actOf 108 = .ok (.iload_n 3, 1) := by decide +kernel
theorem dX11_actOf_109 : decode cX11_actOf 109 = .ok (.invokevirtual 402, 3) := by decide +kernel
theorem dX11_actOf_112 : decode cX11_actOf 112 = .ok (.istore 10, 2) := by decide +kernel
theorem dX11_actOf_114 : decode cX11_actOf 114 = .ok (.iload 9, 2) := by decide +kernel
theorem dX11_actOf_116 : decode cX11_actOf 116 = .ok (.ifCond .eq 13, 3) := by decide +kernel
theorem dX11_actOf_119 : decode cX11_actOf 119 = .ok (.iload 7, 2) := by decide +kernel
theorem dX11_actOf_121 : decode cX11_actOf 121 = .ok (.iload 5, 2) := by decide +kernel
theorem dX11_actOf_123 : decode cX11_actOf 123 = .ok (.invokestatic 417, 3) := by decide +kernel
theorem dX11_actOf_126 : decode cX11_actOf 126 = .ok (.goto 4, 3) := by decide +kernel
theorem dX11_actOf_129 : decode cX11_actOf 129 = .ok (.iconst 0, 1) := by decide +kernel
theorem dX11_actOf_130 : decode cX11_actOf 130 = .ok (.istore 11, 2) := by decide +kernel
theorem dX11_actOf_132 : decode cX11_actOf 132 = .ok (.iload 8, 2) := by decide +kernel
theorem dX11_actOf_134 : decode cX11_actOf 134 = .ok (.ifCond .ne 8, 3) := by decide +kernel
theorem dX11_actOf_137 : decode cX11_actOf 137 = .ok (.iload 7, 2) := by decide +kernel
theorem dX11_actOf_139 : decode cX11_actOf 139 = .ok (.ifCond .ne 7, 3) := by decide +kernel
theorem dX11_actOf_142 : decode cX11_actOf 142 = .ok (.iconst 0, 1) := by decide +kernel
theorem dX11_actOf_143 : decode cX11_actOf 143 = .ok (.goto 25, 3) := by decide +kernel
theorem dX11_actOf_146 : decode cX11_actOf 146 = .ok (.iload_n 1, 1) := by decide +kernel
theorem dX11_actOf_147 : decode cX11_actOf 147 = .ok (.iconst 2, 1) := by decide +kernel
theorem dX11_actOf_148 : decode cX11_actOf 148 = .ok (.if_icmp .ne 11, 3) := by decide +kernel
theorem dX11_actOf_151 : decode cX11_actOf 151 = .ok (.iload 7, 2) := by decide +kernel
theorem dX11_actOf_153 : decode cX11_actOf 153 = .ok (.iload 11, 2) := by decide +kernel
theorem dX11_actOf_155 : decode cX11_actOf 155 = .ok (.isub, 1) := by decide +kernel
theorem dX11_actOf_156 : decode cX11_actOf 156 = .ok (.goto 5, 3) := by decide +kernel
theorem dX11_actOf_159 : decode cX11_actOf 159 = .ok (.iload 7, 2) := by decide +kernel
theorem dX11_actOf_161 : decode cX11_actOf 161 = .ok (.iload 4, 2) := by decide +kernel
theorem dX11_actOf_163 : decode cX11_actOf 163 = .ok (.iload 10, 2) := by decide +kernel
theorem dX11_actOf_165 : decode cX11_actOf 165 = .ok (.invokestatic 446, 3) := by decide +kernel
theorem dX11_actOf_168 : decode cX11_actOf 168 = .ok (.istore 12, 2) := by decide +kernel
theorem dX11_actOf_170 : decode cX11_actOf 170 = .ok (.iload_n 1, 1) := by decide +kernel
theorem dX11_actOf_171 : decode cX11_actOf 171 = .ok (.iconst 2, 1) := by decide +kernel
theorem dX11_actOf_172 : decode cX11_actOf 172 = .ok (.if_icmp .ne 8, 3) := by decide +kernel
theorem dX11_actOf_175 : decode cX11_actOf 175 = .ok (.iload 11, 2) := by decide +kernel
theorem dX11_actOf_177 : decode cX11_actOf 177 = .ok (.goto 13, 3) := by decide +kernel
theorem dX11_actOf_180 : decode cX11_actOf 180 = .ok (.iload 7, 2) := by decide +kernel
theorem dX11_actOf_182 : decode cX11_actOf 182 = .ok (.iload 12, 2) := by decide +kernel
theorem dX11_actOf_184 : decode cX11_actOf 184 = .ok (.isub, 1) := by decide +kernel
theorem dX11_actOf_185 : decode cX11_actOf 185 = .ok (.iload 11, 2) := by decide +kernel
theorem dX11_actOf_187 : decode cX11_actOf 187 = .ok (.invokestatic 417, 3) := by decide +kernel
theorem dX11_actOf_190 : decode cX11_actOf 190 = .ok (.istore 13, 2) := by decide +kernel
theorem dX11_actOf_192 : decode cX11_actOf 192 = .ok (.iload_n 1, 1) := by decide +kernel
theorem dX11_actOf_193 : decode cX11_actOf 193 = .ok (.ifCond .eq 16, 3) := by decide +kernel
theorem dX11_actOf_196 : decode cX11_actOf 196 = .ok (.iload_n 1, 1) := by decide +kernel
theorem dX11_actOf_197 : decode cX11_actOf 197 = .ok (.iconst 2, 1) := by decide +kernel
theorem dX11_actOf_198 : decode cX11_actOf 198 = .ok (.if_icmp .ne 15, 3) := by decide +kernel
theorem dX11_actOf_201 : decode cX11_actOf 201 = .ok (.aload_n 0, 1) := by decide +kernel
theorem dX11_actOf_202 : decode cX11_actOf 202 = .ok (.iload_n 3, 1) := by decide +kernel
theorem dX11_actOf_203 : decode cX11_actOf 203 = .ok (.invokevirtual 414, 3) := by decide +kernel
theorem dX11_actOf_206 : decode cX11_actOf 206 = .ok (.ifCond .le 7, 3) := by decide +kernel
theorem dX11_actOf_209 : decode cX11_actOf 209 = .ok (.iconst 1, 1) := by decide +kernel
theorem dX11_actOf_210 : decode cX11_actOf 210 = .ok (.goto 4, 3) := by decide +kernel
theorem dX11_actOf_213 : decode cX11_actOf 213 = .ok (.iconst 0, 1) := by decide +kernel
theorem dX11_actOf_214 : decode cX11_actOf 214 = .ok (.istore 14, 2) := by decide +kernel
theorem dX11_actOf_216 : decode cX11_actOf 216 = .ok (.iconst 0, 1) := by decide +kernel
theorem dX11_actOf_217 : decode cX11_actOf 217 = .ok (.istore 15, 2) := by decide +kernel
theorem dX11_actOf_219 : decode cX11_actOf 219 = .ok (.iload 14, 2) := by decide +kernel
theorem dX11_actOf_221 : decode cX11_actOf 221 = .ok (.ifCond .eq 49, 3) := by decide +kernel
theorem dX11_actOf_224 : decode cX11_actOf 224 = .ok (.iload 8, 2) := by decide +kernel
theorem dX11_actOf_226 : decode cX11_actOf 226 = .ok (.ifCond .ne 44, 3) := by decide +kernel
theorem dX11_actOf_229 : decode cX11_actOf 229 = .ok (.aload_n 0, 1) := by decide +kernel
theorem dX11_actOf_230 : decode cX11_actOf 230 = .ok (.getfield 224, 3) := by decide +kernel
theorem dX11_actOf_233 : decode cX11_actOf 233 = .ok (.iconst (-1), 1) := by decide +kernel
theorem dX11_actOf_234 : decode cX11_actOf 234 = .ok (.if_icmp .eq 36, 3) := by decide +kernel
theorem dX11_actOf_237 : decode cX11_actOf 237 = .ok (.iconst 2, 1) := by decide +kernel
theorem dX11_actOf_238 : decode cX11_actOf 238 = .ok (.iconst 5, 1) := by decide +kernel
theorem dX11_actOf_239 : decode cX11_actOf 239 = .ok (.iload 5, 2) := by decide +kernel
theorem dX11_actOf_241 : decode cX11_actOf 241 = .ok (.isub, 1) := by decide +kernel
theorem dX11_actOf_242 : decode cX11_actOf 242 = .ok (.iload 13, 2) := by decide +kernel
theorem dX11_actOf_244 : decode cX11_actOf 244 = .ok (.iadd, 1) := by decide +kernel
theorem dX11_actOf_245 : decode cX11_actOf 245 = .ok (.invokestatic 417, 3) := by decide +kernel
theorem dX11_actOf_248 : decode cX11_actOf 248 = .ok (.iload 4, 2) := by decide +kernel
theorem dX11_actOf_250 : decode cX11_actOf 250 = .ok (.iload 12, 2) := by decide +kernel
theorem dX11_actOf_252 : decode cX11_actOf 252 = .ok (.iload 10, 2) := by decide +kernel
theorem dX11_actOf_254 : decode cX11_actOf 254 = .ok (.imul, 1) := by decide +kernel
theorem dX11_actOf_255 : decode cX11_actOf 255 = .ok (.isub, 1) := by decide +kernel
theorem dX11_actOf_256 : decode cX11_actOf 256 = .ok (.aload_n 0, 1) := by decide +kernel
theorem dX11_actOf_257 : decode cX11_actOf 257 = .ok (.aload_n 0, 1) := by decide +kernel
theorem dX11_actOf_258 : decode cX11_actOf 258 = .ok (.getfield 224, 3) := by decide +kernel
theorem dX11_actOf_261 : decode cX11_actOf 261 = .ok (.iload_n 3, 1) := by decide +kernel
theorem dX11_actOf_262 : decode cX11_actOf 262 = .ok (.invokevirtual 402, 3) := by decide +kernel
theorem dX11_actOf_265 : decode cX11_actOf 265 = .ok (.invokestatic 446, 3) := by decide +kernel
theorem dX11_actOf_268 : decode cX11_actOf 268 = .ok (.istore 15, 2) := by decide +kernel
theorem dX11_actOf_270 : decode cX11_actOf 270 = .ok (.bipush 16, 2) := by decide +kernel
theorem dX11_actOf_272 : decode cX11_actOf 272 = .ok (.iload 15, 2) := by decide +kernel
theorem dX11_actOf_274 : decode cX11_actOf 274 = .ok (.imul, 1) := by decide +kernel
theorem dX11_actOf_275 : decode cX11_actOf 275 = .ok (.iconst 4, 1) := by decide +kernel
theorem dX11_actOf_276 : decode cX11_actOf 276 = .ok (.iload 13, 2) := by decide +kernel
theorem dX11_actOf_278 : decode cX11_actOf 278 = .ok (.imul, 1) := by decide +kernel
theorem dX11_actOf_279 : decode cX11_actOf 279 = .ok (.iadd, 1) := by decide +kernel
theorem dX11_actOf_280 : decode cX11_actOf 280 = .ok (.iload 12, 2) := by decide +kernel
theorem dX11_actOf_282 : decode cX11_actOf 282 = .ok (.iadd, 1) := by decide +kernel
theorem dX11_actOf_283 : decode cX11_actOf 283 = .ok (.ireturn, 1) := by decide +kernel
theorem dX11_cutAct_0 : decode cX11_cutAct 0 = .ok (.aload_n 0, 1) := by decide +kernel
theorem dX11_cutAct_1 : decode cX11_cutAct 1 = .ok (.getfield 261, 3) := by decide +kernel
theorem dX11_cutAct_4 : decode cX11_cutAct 4 = .ok (.bipush 7, 2) := by decide +kernel
theorem dX11_cutAct_6 : decode cX11_cutAct 6 = .ok (.iload_n 1, 1) := by decide +kernel
theorem dX11_cutAct_7 : decode cX11_cutAct 7 = .ok (.imul, 1) := by decide +kernel
theorem dX11_cutAct_8 : decode cX11_cutAct 8 = .ok (.iload_n 2, 1) := by decide +kernel
theorem dX11_cutAct_9 : decode cX11_cutAct 9 = .ok (.iadd, 1) := by decide +kernel
theorem dX11_cutAct_10 : decode cX11_cutAct 10 = .ok (.iaload, 1) := by decide +kernel
theorem dX11_cutAct_11 : decode cX11_cutAct 11 = .ok (.istore 4, 2) := by decide +kernel
theorem dX11_cutAct_13 : decode cX11_cutAct 13 = .ok (.iload_n 3, 1) := by decide +kernel
theorem dX11_cutAct_14 : decode cX11_cutAct 14 = .ok (.iconst 4, 1) := by decide +kernel
theorem dX11_cutAct_15 : decode cX11_cutAct 15 = .ok (.irem, 1) := by decide +kernel
theorem dX11_cutAct_16 : decode cX11_cutAct 16 = .ok (.aload_n 0, 1) := by decide +kernel
theorem dX11_cutAct_17 : decode cX11_cutAct 17 = .ok (.iload 4, 2) := by decide +kernel
theorem dX11_cutAct_19 : decode cX11_cutAct 19 = .ok (.iload_n 1, 1) := by decide +kernel
theorem dX11_cutAct_20 : decode cX11_cutAct 20 = .ok (.invokevirtual 449, 3) := by decide +kernel
theorem dX11_cutAct_23 : decode cX11_cutAct 23 = .ok (.invokestatic 417, 3) := by decide +kernel
theorem dX11_cutAct_26 : decode cX11_cutAct 26 = .ok (.istore 5, 2) := by decide +kernel
theorem dX11_cutAct_28 : decode cX11_cutAct 28 = .ok (.iload_n 3, 1) := by decide +kernel
theorem dX11_cutAct_29 : decode cX11_cutAct 29 = .ok (.bipush 16, 2) := by decide +kernel
theorem dX11_cutAct_31 : decode cX11_cutAct 31 = .ok (.idiv, 1) := by decide +kernel
theorem dX11_cutAct_32 : decode cX11_cutAct 32 = .ok (.aload_n 0, 1) := by decide +kernel
theorem dX11_cutAct_33 : decode cX11_cutAct 33 = .ok (.aload_n 0, 1) := by decide +kernel
theorem dX11_cutAct_34 : decode cX11_cutAct 34 = .ok (.getfield 224, 3) := by decide +kernel
theorem dX11_cutAct_37 : decode cX11_cutAct 37 = .ok (.iload_n 1, 1) := by decide +kernel
theorem dX11_cutAct_38 : decode cX11_cutAct 38 = .ok (.invokevirtual 449, 3) := by decide +kernel
theorem dX11_cutAct_41 : decode cX11_cutAct 41 = .ok (.iload 4, 2) := by decide +kernel
theorem dX11_cutAct_43 : decode cX11_cutAct 43 = .ok (.aload_n 0, 1) := by decide +kernel
theorem dX11_cutAct_44 : decode cX11_cutAct 44 = .ok (.getfield 224, 3) := by decide +kernel
theorem dX11_cutAct_47 : decode cX11_cutAct 47 = .ok (.if_icmp .ne 8, 3) := by decide +kernel
theorem dX11_cutAct_50 : decode cX11_cutAct 50 = .ok (.iload 5, 2) := by decide +kernel
theorem dX11_cutAct_52 : decode cX11_cutAct 52 = .ok (.goto 4, 3) := by decide +kernel
theorem dX11_cutAct_55 : decode cX11_cutAct 55 = .ok (.iconst 0, 1) := by decide +kernel
theorem dX11_cutAct_56 : decode cX11_cutAct 56 = .ok (.isub, 1) := by decide +kernel
theorem dX11_cutAct_57 : decode cX11_cutAct 57 = .ok (.invokestatic 417, 3) := by decide +kernel
theorem dX11_cutAct_60 : decode cX11_cutAct 60 = .ok (.istore 6, 2) := by decide +kernel
theorem dX11_cutAct_62 : decode cX11_cutAct 62 = .ok (.bipush 16, 2) := by decide +kernel
theorem dX11_cutAct_64 : decode cX11_cutAct 64 = .ok (.iload 6, 2) := by decide +kernel
theorem dX11_cutAct_66 : decode cX11_cutAct 66 = .ok (.imul, 1) := by decide +kernel
theorem dX11_cutAct_67 : decode cX11_cutAct 67 = .ok (.iconst 4, 1) := by decide +kernel
theorem dX11_cutAct_68 : decode cX11_cutAct 68 = .ok (.iload_n 3, 1) := by decide +kernel
theorem dX11_cutAct_69 : decode cX11_cutAct 69 = .ok (.iconst 4, 1) := by decide +kernel
theorem dX11_cutAct_70 : decode cX11_cutAct 70 = .ok (.idiv, 1) := by decide +kernel
theorem dX11_cutAct_71 : decode cX11_cutAct 71 = .ok (.iconst 4, 1) := by decide +kernel
theorem dX11_cutAct_72 : decode cX11_cutAct 72 = .ok (.irem, 1) := by decide +kernel
theorem dX11_cutAct_73 : decode cX11_cutAct 73 = .ok (.imul, 1) := by decide +kernel
theorem dX11_cutAct_74 : decode cX11_cutAct 74 = .ok (.iadd, 1) := by decide +kernel
theorem dX11_cutAct_75 : decode cX11_cutAct 75 = .ok (.iload 5, 2) := by decide +kernel
theorem dX11_cutAct_77 : decode cX11_cutAct 77 = .ok (.iadd, 1) := by decide +kernel
theorem dX11_cutAct_78 : decode cX11_cutAct 78 = .ok (.ireturn, 1) := by decide +kernel
theorem dX11_isWay_0 : decode cX11_isWay 0 = .ok (.iload_n 0, 1) := by decide +kernel
theorem dX11_isWay_1 : decode cX11_isWay 1 = .ok (.i2l, 1) := by decide +kernel
theorem dX11_isWay_2 : decode cX11_isWay 2 = .ok (.lconst 0, 1) := by decide +kernel
theorem dX11_isWay_3 : decode cX11_isWay 3 = .ok (.ldc2_w 452, 3) := by decide +kernel
theorem dX11_isWay_6 : decode cX11_isWay 6 = .ok (.invokestatic 52, 3) := by decide +kernel
theorem dX11_isWay_9 : decode cX11_isWay 9 = .ok (.ireturn, 1) := by decide +kernel
theorem dX11_wayAct_0 : decode cX11_wayAct 0 = .ok (.iload_n 1, 1) := by decide +kernel
theorem dX11_wayAct_1 : decode cX11_wayAct 1 = .ok (.invokestatic 454, 3) := by decide +kernel
theorem dX11_wayAct_4 : decode cX11_wayAct 4 = .ok (.ifCond .eq 48, 3) := by decide +kernel
theorem dX11_wayAct_7 : decode cX11_wayAct 7 = .ok (.aload_n 0, 1) := by decide +kernel
theorem dX11_wayAct_8 : decode cX11_wayAct 8 = .ok (.iload_n 2, 1) := by decide +kernel
theorem dX11_wayAct_9 : decode cX11_wayAct 9 = .ok (.invokevirtual 367, 3) := by decide +kernel
theorem dX11_wayAct_12 : decode cX11_wayAct 12 = .ok (.ifCond .eq 40, 3) := by decide +kernel
theorem dX11_wayAct_15 : decode cX11_wayAct 15 = .ok (.iload_n 3, 1) := by decide +kernel
theorem dX11_wayAct_16 : decode cX11_wayAct 16 = .ok (.invokestatic 370, 3) := by decide +kernel
theorem dX11_wayAct_19 : decode cX11_wayAct 19 = .ok (.ifCond .eq 33, 3) := by decide +kernel
theorem dX11_wayAct_22 : decode cX11_wayAct 22 = .ok (.iload 4, 2) := by decide +kernel
theorem dX11_wayAct_24 : decode cX11_wayAct 24 = .ok (.invokestatic 392, 3) := by decide +kernel
theorem dX11_wayAct_27 : decode cX11_wayAct 27 = .ok (.ifCond .eq 25, 3) := by decide +kernel
theorem dX11_wayAct_30 : decode cX11_wayAct 30 = .ok (.iload 5, 2) := by decide +kernel
theorem dX11_wayAct_32 : decode cX11_wayAct 32 = .ok (.invokestatic 395, 3) := by decide +kernel
theorem dX11_wayAct_35 : decode cX11_wayAct 35 = .ok (.ifCond .eq 17, 3) := by decide +kernel
theorem dX11_wayAct_38 : decode cX11_wayAct 38 = .ok (.aload_n 0, 1) := by decide +kernel
theorem dX11_wayAct_39 : decode cX11_wayAct 39 = .ok (.iload_n 1, 1) := by decide +kernel
theorem dX11_wayAct_40 : decode cX11_wayAct 40 = .ok (.iload_n 2, 1) := by decide +kernel
theorem dX11_wayAct_41 : decode cX11_wayAct 41 = .ok (.iload_n 3, 1) := by decide +kernel
theorem dX11_wayAct_42 : decode cX11_wayAct 42 = .ok (.iload 4, 2) := by decide +kernel
theorem dX11_wayAct_44 : decode cX11_wayAct 44 = .ok (.iload 5, 2) := by decide +kernel
theorem dX11_wayAct_46 : decode cX11_wayAct 46 = .ok (.invokevirtual 457, 3) := by decide +kernel
theorem dX11_wayAct_49 : decode cX11_wayAct 49 = .ok (.goto 5, 3) := by decide +kernel
theorem dX11_wayAct_52 : decode cX11_wayAct 52 = .ok (.bipush (-2), 2) := by decide +kernel
theorem dX11_wayAct_54 : decode cX11_wayAct 54 = .ok (.ireturn, 1) := by decide +kernel
theorem dX11_begin_0 : decode cX11_begin 0 = .ok (.iconst 0, 1) := by decide +kernel
theorem dX11_begin_1 : decode cX11_begin 1 = .ok (.istore_n 2, 1) := by decide +kernel
theorem dX11_begin_2 : decode cX11_begin 2 = .ok (.iload_n 2, 1) := by decide +kernel
theorem dX11_begin_3 : decode cX11_begin 3 = .ok (.bipush 35, 2) := by decide +kernel
theorem dX11_begin_5 : decode cX11_begin 5 = .ok (.if_icmp .ge 25, 3) := by decide +kernel
theorem dX11_begin_8 : decode cX11_begin 8 = .ok (.iload_n 2, 1) := by decide +kernel
theorem dX11_begin_9 : decode cX11_begin 9 = .ok (.bipush 28, 2) := by decide +kernel
theorem dX11_begin_11 : decode cX11_begin 11 = .ok (.if_icmp .lt 9, 3) := by decide +kernel
theorem dX11_begin_14 : decode cX11_begin 14 = .ok (.iload_n 2, 1) := by decide +kernel
theorem dX11_begin_15 : decode cX11_begin 15 = .ok (.bipush 32, 2) := by decide +kernel
theorem dX11_begin_17 : decode cX11_begin 17 = .ok (.if_icmp .lt 7, 3) := by decide +kernel
theorem dX11_begin_20 : decode cX11_begin 20 = .ok (.aload_n 1, 1) := by decide +kernel
theorem dX11_begin_21 : decode cX11_begin 21 = .ok (.iload_n 2, 1) := by decide +kernel
theorem dX11_begin_22 : decode cX11_begin 22 = .ok (.iconst 0, 1) := by decide +kernel
theorem dX11_begin_23 : decode cX11_begin 23 = .ok (.iastore, 1) := by decide +kernel
theorem dX11_begin_24 : decode cX11_begin 24 = .ok (.iinc 2 1, 3) := by decide +kernel
theorem dX11_begin_27 : decode cX11_begin 27 = .ok (.goto (-25), 3) := by decide +kernel
theorem dX11_begin_30 : decode cX11_begin 30 = .ok (.iconst 0, 1) := by decide +kernel
theorem dX11_begin_31 : decode cX11_begin 31 = .ok (.istore_n 2, 1) := by decide +kernel
theorem dX11_begin_32 : decode cX11_begin 32 = .ok (.iload_n 2, 1) := by decide +kernel
theorem dX11_begin_33 : decode cX11_begin 33 = .ok (.aload_n 0, 1) := by decide +kernel
theorem dX11_begin_34 : decode cX11_begin 34 = .ok (.getfield 329, 3) := by decide +kernel
theorem dX11_begin_37 : decode cX11_begin 37 = .ok (.if_icmp .ge 20, 3) := by decide +kernel
theorem dX11_begin_40 : decode cX11_begin 40 = .ok (.aload_n 1, 1) := by decide +kernel
theorem dX11_begin_41 : decode cX11_begin 41 = .ok (.iconst 0, 1) := by decide +kernel
theorem dX11_begin_42 : decode cX11_begin 42 = .ok (.iload_n 2, 1) := by decide +kernel
theorem dX11_begin_43 : decode cX11_begin 43 = .ok (.iadd, 1) := by decide +kernel
theorem dX11_begin_44 : decode cX11_begin 44 = .ok (.aload_n 0, 1) := by decide +kernel
theorem dX11_begin_45 : decode cX11_begin 45 = .ok (.getfield 241, 3) := by decide +kernel
theorem dX11_begin_48 : decode cX11_begin 48 = .ok (.iload_n 2, 1) := by decide +kernel
theorem dX11_begin_49 : decode cX11_begin 49 = .ok (.iaload, 1) := by decide +kernel
theorem dX11_begin_50 : decode cX11_begin 50 = .ok (.iastore, 1) := by decide +kernel
theorem dX11_begin_51 : decode cX11_begin 51 = .ok (.iinc 2 1, 3) := by decide +kernel
theorem dX11_begin_54 : decode cX11_begin 54 = .ok (.goto (-22), 3) := by decide +kernel
theorem dX11_begin_57 : decode cX11_begin 57 = .ok (.return_, 1) := by decide +kernel
theorem dX11_each_0 : decode cX11_each 0 = .ok (.iload_n 1, 1) := by decide +kernel
theorem dX11_each_1 : decode cX11_each 1 = .ok (.iconst (-1), 1) := by decide +kernel
theorem dX11_each_2 : decode cX11_each 2 = .ok (.if_icmp .eq 15, 3) := by decide +kernel
theorem dX11_each_5 : decode cX11_each 5 = .ok (.aload_n 0, 1) := by decide +kernel
theorem dX11_each_6 : decode cX11_each 6 = .ok (.getfield 289, 3) := by decide +kernel
theorem dX11_each_9 : decode cX11_each 9 = .ok (.iload_n 1, 1) := by decide +kernel
theorem dX11_each_10 : decode cX11_each 10 = .ok (.iaload, 1) := by decide +kernel
theorem dX11_each_11 : decode cX11_each 11 = .ok (.ldc_w 460, 3) := by decide +kernel
theorem dX11_each_14 : decode cX11_each 14 = .ok (.if_icmp .ne 9, 3) := by decide +kernel
theorem dX11_each_17 : decode cX11_each 17 = .ok (.ldc_w 460, 3) := by decide +kernel
theorem dX11_each_20 : decode cX11_each 20 = .ok (.goto 16, 3) := by decide +kernel
theorem dX11_each_23 : decode cX11_each 23 = .ok (.aload_n 0, 1) := by decide +kernel
theorem dX11_each_24 : decode cX11_each 24 = .ok (.getfield 289, 3) := by decide +kernel
theorem dX11_each_27 : decode cX11_each 27 = .ok (.iload_n 1, 1) := by decide +kernel
theorem dX11_each_28 : decode cX11_each 28 = .ok (.iaload, 1) := by decide +kernel
theorem dX11_each_29 : decode cX11_each 29 = .ok (.aload_n 0, 1) := by decide +kernel
theorem dX11_each_30 : decode cX11_each 30 = .ok (.getfield 235, 3) := by decide +kernel
theorem dX11_each_33 : decode cX11_each 33 = .ok (.iload_n 2, 1) := by decide +kernel
theorem dX11_each_34 : decode cX11_each 34 = .ok (.iaload, 1) := by decide +kernel
theorem dX11_each_35 : decode cX11_each 35 = .ok (.idiv, 1) := by decide +kernel
theorem dX11_each_36 : decode cX11_each 36 = .ok (.ireturn, 1) := by decide +kernel
theorem dX11_takes_0 : decode cX11_takes 0 = .ok (.iload_n 3, 1) := by decide +kernel
theorem dX11_takes_1 : decode cX11_takes 1 = .ok (.ifCond .ne 4, 3) := by decide +kernel
theorem dX11_takes_4 : decode cX11_takes 4 = .ok (.return_, 1) := by decide +kernel
theorem dX11_takes_5 : decode cX11_takes 5 = .ok (.aload_n 0, 1) := by decide +kernel
theorem dX11_takes_6 : decode cX11_takes 6 = .ok (.getfield 292, 3) := by decide +kernel
theorem dX11_takes_9 : decode cX11_takes 9 = .ok (.bipush 7, 2) := by decide +kernel
theorem dX11_takes_11 : decode cX11_takes 11 = .ok (.iload_n 1, 1) := by decide +kernel
theorem dX11_takes_12 : decode cX11_takes 12 = .ok (.imul, 1) := by decide +kernel
theorem dX11_takes_13 : decode cX11_takes 13 = .ok (.iload_n 2, 1) := by decide +kernel
theorem dX11_takes_14 : decode cX11_takes 14 = .ok (.iadd, 1) := by decide +kernel
theorem dX11_takes_15 : decode cX11_takes 15 = .ok (.dup2, 1) := by decide +kernel
theorem dX11_takes_16 : decode cX11_takes 16 = .ok (.iaload, 1) := by decide +kernel
theorem dX11_takes_17 : decode cX11_takes 17 = .ok (.iload_n 3, 1) := by decide +kernel
theorem dX11_takes_18 : decode cX11_takes 18 = .ok (.iadd, 1) := by decide +kernel
theorem dX11_takes_19 : decode cX11_takes 19 = .ok (.iastore, 1) := by decide +kernel
theorem dX11_takes_20 : decode cX11_takes 20 = .ok (.aload_n 0, 1) := by decide +kernel
theorem dX11_takes_21 : decode cX11_takes 21 = .ok (.getfield 289, 3) := by decide +kernel
theorem dX11_takes_24 : decode cX11_takes 24 = .ok (.iload_n 1, 1) := by decide +kernel
theorem dX11_takes_25 : decode cX11_takes 25 = .ok (.iaload, 1) := by decide +kernel
theorem dX11_takes_26 : decode cX11_takes 26 = .ok (.ldc_w 460, 3) := by decide +kernel
theorem dX11_takes_29 : decode cX11_takes 29 = .ok (.if_icmp .eq 13, 3) := by decide +kernel
theorem dX11_takes_32 : decode cX11_takes 32 = .ok (.aload_n 0, 1) := by decide +kernel
theorem dX11_takes_33 : decode cX11_takes 33 = .ok (.getfield 289, 3) := by decide +kernel
theorem dX11_takes_36 : decode cX11_takes 36 = .ok (.iload_n 1, 1) := by decide +kernel
theorem dX11_takes_37 : decode cX11_takes 37 = .ok (.dup2, 1) := by decide +kernel
theorem dX11_takes_38 : decode cX11_takes 38 = .ok (.iaload, 1) := by decide +kernel
theorem dX11_takes_39 : decode cX11_takes 39 = .ok (.iload_n 3, 1) := by decide +kernel
theorem dX11_takes_40 : decode cX11_takes 40 = .ok (.isub, 1) := by decide +kernel
theorem dX11_takes_41 : decode cX11_takes 41 = .ok (.iastore, 1) := by decide +kernel
theorem dX11_takes_42 : decode cX11_takes 42 = .ok (.return_, 1) := by decide +kernel
theorem dX11_openChest_0 : decode cX11_openChest 0 = .ok (.aload_n 0, 1) := by decide +kernel
theorem dX11_openChest_1 : decode cX11_openChest 1 = .ok (.getfield 221, 3) := by decide +kernel
theorem dX11_openChest_4 : decode cX11_openChest 4 = .ok (.iconst (-1), 1) := by decide +kernel
theorem dX11_openChest_5 : decode cX11_openChest 5 = .ok (.if_icmp .ne 4, 3) := by decide +kernel
theorem dX11_openChest_8 : decode cX11_openChest 8 = .ok (.return_, 1) := by decide +kernel
theorem dX11_openChest_9 : decode cX11_openChest 9 = .ok (.aload_n 1, 1) := by decide +kernel
theorem dX11_openChest_10 : decode cX11_openChest 10 = .ok (.bipush 32, 2) := by decide +kernel
theorem dX11_openChest_12 : decode cX11_openChest 12 = .ok (.iaload, 1) := by decide +kernel
theorem dX11_openChest_13 : decode cX11_openChest 13 = .ok (.aload_n 0, 1) := by decide +kernel
theorem dX11_openChest_14 : decode cX11_openChest 14 = .ok (.getfield 235, 3) := by decide +kernel
theorem dX11_openChest_17 : decode cX11_openChest 17 = .ok (.aload_n 0, 1) := by decide +kernel
theorem dX11_openChest_18 : decode cX11_openChest 18 = .ok (.getfield 221, 3) := by decide +kernel
theorem dX11_openChest_21 : decode cX11_openChest 21 = .ok (.iaload, 1) := by decide +kernel
theorem dX11_openChest_22 : decode cX11_openChest 22 = .ok (.idiv, 1) := by decide +kernel
theorem dX11_openChest_23 : decode cX11_openChest 23 = .ok (.istore_n 2, 1) := by decide +kernel
theorem dX11_openChest_24 : decode cX11_openChest 24 = .ok (.aload_n 1, 1) := by decide +kernel
theorem dX11_openChest_25 : decode cX11_openChest 25 = .ok (.bipush 32, 2) := by decide +kernel
theorem dX11_openChest_27 : decode cX11_openChest 27 = .ok (.dup2, 1) := by decide +kernel
theorem dX11_openChest_28 : decode cX11_openChest 28 = .ok (.iaload, 1) := by decide +kernel
theorem dX11_openChest_29 : decode cX11_openChest 29 = .ok (.iload_n 2, 1) := by decide +kernel
theorem dX11_openChest_30 : decode cX11_openChest 30 = .ok (.aload_n 0, 1) := by decide +kernel
theorem dX11_openChest_31 : decode cX11_openChest 31 = .ok (.getfield 235, 3) := by decide +kernel
theorem dX11_openChest_34 : decode cX11_openChest 34 = .ok (.aload_n 0, 1) := by decide +kernel
theorem dX11_openChest_35 : decode cX11_openChest 35 = .ok (.getfield 221, 3) := by decide +kernel
theorem dX11_openChest_38 : decode cX11_openChest 38 = .ok (.iaload, 1) := by decide +kernel
theorem dX11_openChest_39 : decode cX11_openChest 39 = .ok (.imul, 1) := by decide +kernel
theorem dX11_openChest_40 : decode cX11_openChest 40 = .ok (.isub, 1) := by decide +kernel
theorem dX11_openChest_41 : decode cX11_openChest 41 = .ok (.iastore, 1) := by decide +kernel
theorem dX11_openChest_42 : decode cX11_openChest 42 = .ok (.aload_n 1, 1) := by decide +kernel
theorem dX11_openChest_43 : decode cX11_openChest 43 = .ok (.bipush 24, 2) := by decide +kernel
theorem dX11_openChest_45 : decode cX11_openChest 45 = .ok (.aload_n 0, 1) := by decide +kernel
theorem dX11_openChest_46 : decode cX11_openChest 46 = .ok (.getfield 221, 3) := by decide +kernel
theorem dX11_openChest_49 : decode cX11_openChest 49 = .ok (.iadd, 1) := by decide +kernel
theorem dX11_openChest_50 : decode cX11_openChest 50 = .ok (.dup2, 1) := by decide +kernel
theorem dX11_openChest_51 : decode cX11_openChest 51 = .ok (.iaload, 1) := by decide +kernel
theorem dX11_openChest_52 : decode cX11_openChest 52 = .ok (.iload_n 2, 1) := by decide +kernel
theorem dX11_openChest_53 : decode cX11_openChest 53 = .ok (.aload_n 0, 1) := by decide +kernel
theorem dX11_openChest_54 : decode cX11_openChest 54 = .ok (.getfield 235, 3) := by decide +kernel
theorem dX11_openChest_57 : decode cX11_openChest 57 = .ok (.aload_n 0, 1) := by decide +kernel
theorem dX11_openChest_58 : decode cX11_openChest 58 = .ok (.getfield 221, 3) := by decide +kernel
theorem dX11_openChest_61 : decode cX11_openChest 61 = .ok (.iaload, 1) := by decide +kernel
theorem dX11_openChest_62 : decode cX11_openChest 62 = .ok (.imul, 1) := by decide +kernel
theorem dX11_openChest_63 : decode cX11_openChest 63 = .ok (.iadd, 1) := by decide +kernel
theorem dX11_openChest_64 : decode cX11_openChest 64 = .ok (.iastore, 1) := by decide +kernel
theorem dX11_openChest_65 : decode cX11_openChest 65 = .ok (.aload_n 1, 1) := by decide +kernel
theorem dX11_openChest_66 : decode cX11_openChest 66 = .ok (.iconst 0, 1) := by decide +kernel
theorem dX11_openChest_67 : decode cX11_openChest 67 = .ok (.aload_n 0, 1) := by decide +kernel
theorem dX11_openChest_68 : decode cX11_openChest 68 = .ok (.getfield 221, 3) := by decide +kernel
theorem dX11_openChest_71 : decode cX11_openChest 71 = .ok (.iadd, 1) := by decide +kernel
theorem dX11_openChest_72 : decode cX11_openChest 72 = .ok (.bipush 60, 2) := by decide +kernel
theorem dX11_openChest_74 : decode cX11_openChest 74 = .ok (.aload_n 1, 1) := by decide +kernel
theorem dX11_openChest_75 : decode cX11_openChest 75 = .ok (.iconst 0, 1) := by decide +kernel
theorem dX11_openChest_76 : decode cX11_openChest 76 = .ok (.aload_n 0, 1) := by decide +kernel
theorem dX11_openChest_77 : decode cX11_openChest 77 = .ok (.getfield 221, 3) := by decide +kernel
theorem dX11_openChest_80 : decode cX11_openChest 80 = .ok (.iadd, 1) := by decide +kernel
theorem dX11_openChest_81 : decode cX11_openChest 81 = .ok (.iaload, 1) := by decide +kernel
theorem dX11_openChest_82 : decode cX11_openChest 82 = .ok (.iload_n 2, 1) := by decide +kernel
theorem dX11_openChest_83 : decode cX11_openChest 83 = .ok (.iadd, 1) := by decide +kernel
theorem dX11_openChest_84 : decode cX11_openChest 84 = .ok (.invokestatic 417, 3) := by decide +kernel
theorem dX11_openChest_87 : decode cX11_openChest 87 = .ok (.iastore, 1) := by decide +kernel
theorem dX11_openChest_88 : decode cX11_openChest 88 = .ok (.return_, 1) := by decide +kernel
theorem dX11_sortDay_0 : decode cX11_sortDay 0 = .ok (.bipush 7, 2) := by decide +kernel
theorem dX11_sortDay_2 : decode cX11_sortDay 2 = .ok (.iload_n 2, 1) := by decide +kernel
theorem dX11_sortDay_3 : decode cX11_sortDay 3 = .ok (.imul, 1) := by decide +kernel
theorem dX11_sortDay_4 : decode cX11_sortDay 4 = .ok (.iload_n 3, 1) := by decide +kernel
theorem dX11_sortDay_5 : decode cX11_sortDay 5 = .ok (.iadd, 1) := by decide +kernel
theorem dX11_sortDay_6 : decode cX11_sortDay 6 = .ok (.istore 4, 2) := by decide +kernel
theorem dX11_sortDay_8 : decode cX11_sortDay 8 = .ok (.aload_n 0, 1) := by decide +kernel
theorem dX11_sortDay_9 : decode cX11_sortDay 9 = .ok (.iload_n 2, 1) := by decide +kernel
theorem dX11_sortDay_10 : decode cX11_sortDay 10 = .ok (.iload_n 3, 1) := by decide +kernel
theorem dX11_sortDay_11 : decode cX11_sortDay 11 = .ok (.aload_n 1, 1) := by decide +kernel
theorem dX11_sortDay_12 : decode cX11_sortDay 12 = .ok (.iconst 0, 1) := by decide +kernel
theorem dX11_sortDay_13 : decode cX11_sortDay 13 = .ok (.iload_n 2, 1) := by decide +kernel
theorem dX11_sortDay_14 : decode cX11_sortDay 14 = .ok (.iadd, 1) := by decide +kernel
theorem dX11_sortDay_15 : decode cX11_sortDay 15 = .ok (.iaload, 1) := by decide +kernel
theorem dX11_sortDay_16 : decode cX11_sortDay 16 = .ok (.invokevirtual 426, 3) := by decide +kernel
theorem dX11_sortDay_19 : decode cX11_sortDay 19 = .ok (.istore 5, 2) := by decide +kernel
theorem dX11_sortDay_21 : decode cX11_sortDay 21 = .ok (.aload_n 0, 1) := by decide +kernel
theorem dX11_sortDay_22 : decode cX11_sortDay 22 = .ok (.iload_n 2, 1) := by decide +kernel
theorem dX11_sortDay_23 : decode cX11_sortDay 23 = .ok (.iload_n 3, 1) := by decide +kernel
theorem dX11_sortDay_24 : decode cX11_sortDay 24 = .ok (.aload_n 0, 1) := by decide +kernel
theorem dX11_sortDay_25 : decode cX11_sortDay 25 = .ok (.aload_n 1, 1) := by decide +kernel
theorem dX11_sortDay_26 : decode cX11_sortDay 26 = .ok (.bipush 28, 2) := by decide +kernel
theorem dX11_sortDay_28 : decode cX11_sortDay 28 = .ok (.iload_n 2, 1) := by decide +kernel
theorem dX11_sortDay_29 : decode cX11_sortDay 29 = .ok (.iadd, 1) := by decide +kernel
theorem dX11_sortDay_30 : decode cX11_sortDay 30 = .ok (.iaload, 1) := by decide +kernel
theorem dX11_sortDay_31 : decode cX11_sortDay 31 = .ok (.iload_n 2, 1) := by decide +kernel
theorem dX11_sortDay_32 : decode cX11_sortDay 32 = .ok (.iload_n 3, 1) := by decide +kernel
theorem dX11_sortDay_33 : decode cX11_sortDay 33 = .ok (.iload 5, 2) := by decide +kernel
theorem dX11_sortDay_35 : decode cX11_sortDay 35 = .ok (.aload_n 1, 1) := by decide +kernel
theorem dX11_sortDay_36 : decode cX11_sortDay 36 = .ok (.iconst 4, 1) := by decide +kernel
theorem dX11_sortDay_37 : decode cX11_sortDay 37 = .ok (.iload_n 2, 1) := by decide +kernel
theorem dX11_sortDay_38 : decode cX11_sortDay 38 = .ok (.iadd, 1) := by decide +kernel
theorem dX11_sortDay_39 : decode cX11_sortDay 39 = .ok (.iaload, 1) := by decide +kernel
theorem dX11_sortDay_40 : decode cX11_sortDay 40 = .ok (.invokevirtual 457, 3) := by decide +kernel
theorem dX11_sortDay_43 : decode cX11_sortDay 43 = .ok (.invokevirtual 461, 3) := by decide +kernel
theorem dX11_sortDay_46 : decode cX11_sortDay 46 = .ok (.istore 6, 2) := by decide +kernel
theorem dX11_sortDay_48 : decode cX11_sortDay 48 = .ok (.aload_n 0, 1) := by decide +kernel
theorem dX11_sortDay_49 : decode cX11_sortDay 49 = .ok (.iload_n 2, 1) := by decide +kernel
theorem dX11_sortDay_50 : decode cX11_sortDay 50 = .ok (.iload_n 3, 1) := by decide +kernel
theorem dX11_sortDay_51 : decode cX11_sortDay 51 = .ok (.iload 6, 2) := by decide +kernel
theorem dX11_sortDay_53 : decode cX11_sortDay 53 = .ok (.invokevirtual 405, 3) := by decide +kernel
theorem dX11_sortDay_56 : decode cX11_sortDay 56 = .ok (.istore 7, 2) := by decide +kernel
theorem dX11_sortDay_58 : decode cX11_sortDay 58 = .ok (.aload_n 0, 1) := by decide +kernel
theorem dX11_sortDay_59 : decode cX11_sortDay 59 = .ok (.aload_n 0, 1) := by decide +kernel
theorem dX11_sortDay_60 : decode cX11_sortDay 60 = .ok (.getfield 261, 3) := by decide +kernel
theorem dX11_sortDay_63 : decode cX11_sortDay 63 = .ok (.iload 4, 2) := by decide +kernel
theorem dX11_sortDay_65 : decode cX11_sortDay 65 = .ok (.iaload, 1) := by decide +kernel
theorem dX11_sortDay_66 : decode cX11_sortDay 66 = .ok (.iload_n 3, 1) := by decide +kernel
theorem dX11_sortDay_67 : decode cX11_sortDay 67 = .ok (.iload 6, 2) := by decide +kernel
theorem dX11_sortDay_69 : decode cX11_sortDay 69 = .ok (.iconst 4, 1) := by decide +kernel
theorem dX11_sortDay_70 : decode cX11_sortDay 70 = .ok (.irem, 1) := by decide +kernel
theorem dX11_sortDay_71 : decode cX11_sortDay 71 = .ok (.aload_n 0, 1) := by decide +kernel
theorem dX11_sortDay_72 : decode cX11_sortDay 72 = .ok (.getfield 235, 3) := by decide +kernel
theorem dX11_sortDay_75 : decode cX11_sortDay 75 = .ok (.iload_n 2, 1) := by decide +kernel
theorem dX11_sortDay_76 : decode cX11_sortDay 76 = .ok (.iaload, 1) := by decide +kernel
theorem dX11_sortDay_77 : decode cX11_sortDay 77 = .ok (.imul, 1) := by decide +kernel
theorem dX11_sortDay_78 : decode cX11_sortDay 78 = .ok (.invokevirtual 464, 3) := by decide +kernel
theorem dX11_sortDay_81 : decode cX11_sortDay 81 = .ok (.aload_n 0, 1) := by decide +kernel
theorem dX11_sortDay_82 : decode cX11_sortDay 82 = .ok (.aload_n 0, 1) := by decide +kernel
theorem dX11_sortDay_83 : decode cX11_sortDay 83 = .ok (.getfield 224, 3) := by decide +kernel
theorem dX11_sortDay_86 : decode cX11_sortDay 86 = .ok (.iload_n 3, 1) := by decide +kernel
theorem dX11_sortDay_87 : decode cX11_sortDay 87 = .ok (.iload 6, 2) := by decide +kernel
theorem dX11_sortDay_89 : decode cX11_sortDay 89 = .ok (.bipush 16, 2) := by decide +kernel
theorem dX11_sortDay_91 : decode cX11_sortDay 91 = .ok (.idiv, 1) := by decide +kernel
theorem dX11_sortDay_92 : decode cX11_sortDay 92 = .ok (.aload_n 0, 1) := by decide +kernel
theorem dX11_sortDay_93 : decode cX11_sortDay 93 = .ok (.getfield 235, 3) := by decide +kernel
theorem dX11_sortDay_96 : decode cX11_sortDay 96 = .ok (.iload_n 2, 1) := by decide +kernel
theorem dX11_sortDay_97 : decode cX11_sortDay 97 = .ok (.iaload, 1) := by decide +kernel
theorem dX11_sortDay_98 : decode cX11_sortDay 98 = .ok (.imul, 1) := by decide +kernel
theorem dX11_sortDay_99 : decode cX11_sortDay 99 = .ok (.invokevirtual 464, 3) := by decide +kernel
theorem dX11_sortDay_102 : decode cX11_sortDay 102 = .ok (.aload_n 1, 1) := by decide +kernel
theorem dX11_sortDay_103 : decode cX11_sortDay 103 = .ok (.iconst 0, 1) := by decide +kernel
theorem dX11_sortDay_104 : decode cX11_sortDay 104 = .ok (.iload_n 2, 1) := by decide +kernel
theorem dX11_sortDay_105 : decode cX11_sortDay 105 = .ok (.iadd, 1) := by decide +kernel
theorem dX11_sortDay_106 : decode cX11_sortDay 106 = .ok (.iload 5, 2) := by decide +kernel
theorem dX11_sortDay_108 : decode cX11_sortDay 108 = .ok (.iload 7, 2) := by decide +kernel
theorem dX11_sortDay_110 : decode cX11_sortDay 110 = .ok (.isub, 1) := by decide +kernel
theorem dX11_sortDay_111 : decode cX11_sortDay 111 = .ok (.iastore, 1) := by decide +kernel
theorem dX11_sortDay_112 : decode cX11_sortDay 112 = .ok (.aload_n 1, 1) := by decide +kernel
theorem dX11_sortDay_113 : decode cX11_sortDay 113 = .ok (.iconst 4, 1) := by decide +kernel
theorem dX11_sortDay_114 : decode cX11_sortDay 114 = .ok (.iload_n 2, 1) := by decide +kernel
theorem dX11_sortDay_115 : decode cX11_sortDay 115 = .ok (.iadd, 1) := by decide +kernel
theorem dX11_sortDay_116 : decode cX11_sortDay 116 = .ok (.dup2, 1) := by decide +kernel
theorem dX11_sortDay_117 : decode cX11_sortDay 117 = .ok (.iaload, 1) := by decide +kernel
theorem dX11_sortDay_118 : decode cX11_sortDay 118 = .ok (.iload 6, 2) := by decide +kernel
theorem dX11_sortDay_120 : decode cX11_sortDay 120 = .ok (.bipush 16, 2) := by decide +kernel
theorem dX11_sortDay_122 : decode cX11_sortDay 122 = .ok (.idiv, 1) := by decide +kernel
theorem dX11_sortDay_123 : decode cX11_sortDay 123 = .ok (.iload 6, 2) := by decide +kernel
theorem dX11_sortDay_125 : decode cX11_sortDay 125 = .ok (.iconst 4, 1) := by decide +kernel
theorem dX11_sortDay_126 : decode cX11_sortDay 126 = .ok (.idiv, 1) := by decide +kernel
theorem dX11_sortDay_127 : decode cX11_sortDay 127 = .ok (.iconst 4, 1) := by decide +kernel
theorem dX11_sortDay_128 : decode cX11_sortDay 128 = .ok (.irem, 1) := by decide +kernel
theorem dX11_sortDay_129 : decode cX11_sortDay 129 = .ok (.isub, 1) := by decide +kernel
theorem dX11_sortDay_130 : decode cX11_sortDay 130 = .ok (.iadd, 1) := by decide +kernel
theorem dX11_sortDay_131 : decode cX11_sortDay 131 = .ok (.iastore, 1) := by decide +kernel
theorem dX11_sortDay_132 : decode cX11_sortDay 132 = .ok (.aload_n 1, 1) := by decide +kernel
theorem dX11_sortDay_133 : decode cX11_sortDay 133 = .ok (.bipush 8, 2) := by decide +kernel
theorem dX11_sortDay_135 : decode cX11_sortDay 135 = .ok (.iload_n 2, 1) := by decide +kernel
theorem dX11_sortDay_136 : decode cX11_sortDay 136 = .ok (.iadd, 1) := by decide +kernel
theorem dX11_sortDay_137 : decode cX11_sortDay 137 = .ok (.dup2, 1) := by decide +kernel
theorem dX11_sortDay_138 : decode cX11_sortDay 138 = .ok (.iaload, 1) := by decide +kernel
theorem dX11_sortDay_139 : decode cX11_sortDay 139 = .ok (.iload 7, 2) := by decide +kernel
theorem dX11_sortDay_141 : decode cX11_sortDay 141 = .ok (.aload_n 0, 1) := by decide +kernel
theorem dX11_sortDay_142 : decode cX11_sortDay 142 = .ok (.getfield 235, 3) := by decide +kernel
theorem dX11_sortDay_145 : decode cX11_sortDay 145 = .ok (.iload_n 2, 1) := by decide +kernel
theorem dX11_sortDay_146 : decode cX11_sortDay 146 = .ok (.iaload, 1) := by decide +kernel
theorem dX11_sortDay_147 : decode cX11_sortDay 147 = .ok (.imul, 1) := by decide +kernel
theorem dX11_sortDay_148 : decode cX11_sortDay 148 = .ok (.iadd, 1) := by decide +kernel
theorem dX11_sortDay_149 : decode cX11_sortDay 149 = .ok (.iastore, 1) := by decide +kernel
theorem dX11_sortDay_150 : decode cX11_sortDay 150 = .ok (.aload_n 1, 1) := by decide +kernel
theorem dX11_sortDay_151 : decode cX11_sortDay 151 = .ok (.bipush 16, 2) := by decide +kernel
theorem dX11_sortDay_153 : decode cX11_sortDay 153 = .ok (.iload_n 2, 1) := by decide +kernel
theorem dX11_sortDay_154 : decode cX11_sortDay 154 = .ok (.iadd, 1) := by decide +kernel
theorem dX11_sortDay_155 : decode cX11_sortDay 155 = .ok (.dup2, 1) := by decide +kernel
theorem dX11_sortDay_156 : decode cX11_sortDay 156 = .ok (.iaload, 1) := by decide +kernel
theorem dX11_sortDay_157 : decode cX11_sortDay 157 = .ok (.iload 6, 2) := by decide +kernel
theorem dX11_sortDay_159 : decode cX11_sortDay 159 = .ok (.iconst 4, 1) := by decide +kernel
theorem dX11_sortDay_160 : decode cX11_sortDay 160 = .ok (.irem, 1) := by decide +kernel
theorem dX11_sortDay_161 : decode cX11_sortDay 161 = .ok (.iload 6, 2) := by decide +kernel
theorem dX11_sortDay_163 : decode cX11_sortDay 163 = .ok (.iconst 4, 1) := by decide +kernel
theorem dX11_sortDay_164 : decode cX11_sortDay 164 = .ok (.idiv, 1) := by decide +kernel
theorem dX11_sortDay_165 : decode cX11_sortDay 165 = .ok (.iconst 4, 1) := by decide +kernel
theorem dX11_sortDay_166 : decode cX11_sortDay 166 = .ok (.irem, 1) := by decide +kernel
theorem dX11_sortDay_167 : decode cX11_sortDay 167 = .ok (.iadd, 1) := by decide +kernel
theorem dX11_sortDay_168 : decode cX11_sortDay 168 = .ok (.aload_n 0, 1) := by decide +kernel
theorem dX11_sortDay_169 : decode cX11_sortDay 169 = .ok (.getfield 267, 3) := by decide +kernel
theorem dX11_sortDay_172 : decode cX11_sortDay 172 = .ok (.iload 4, 2) := by decide +kernel
theorem dX11_sortDay_174 : decode cX11_sortDay 174 = .ok (.iaload, 1) := by decide +kernel
theorem dX11_sortDay_175 : decode cX11_sortDay 175 = .ok (.imul, 1) := by decide +kernel
theorem dX11_sortDay_176 : decode cX11_sortDay 176 = .ok (.aload_n 0, 1) := by decide +kernel
theorem dX11_sortDay_177 : decode cX11_sortDay 177 = .ok (.getfield 235, 3) := by decide +kernel
theorem dX11_sortDay_180 : decode cX11_sortDay 180 = .ok (.iload_n 2, 1) := by decide +kernel
theorem dX11_sortDay_181 : decode cX11_sortDay 181 = .ok (.iaload, 1) := by decide +kernel
theorem dX11_sortDay_182 : decode cX11_sortDay 182 = .ok (.imul, 1) := by decide +kernel
theorem dX11_sortDay_183 : decode cX11_sortDay 183 = .ok (.iadd, 1) := by decide +kernel
theorem dX11_sortDay_184 : decode cX11_sortDay 184 = .ok (.iastore, 1) := by decide +kernel
theorem dX11_sortDay_185 : decode cX11_sortDay 185 = .ok (.aload_n 1, 1) := by decide +kernel
theorem dX11_sortDay_186 : decode cX11_sortDay 186 = .ok (.bipush 34, 2) := by decide +kernel
theorem dX11_sortDay_188 : decode cX11_sortDay 188 = .ok (.dup2, 1) := by decide +kernel
theorem dX11_sortDay_189 : decode cX11_sortDay 189 = .ok (.iaload, 1) := by decide +kernel
theorem dX11_sortDay_190 : decode cX11_sortDay 190 = .ok (.iload 6, 2) := by decide +kernel
theorem dX11_sortDay_192 : decode cX11_sortDay 192 = .ok (.iconst 4, 1) := by decide +kernel
theorem dX11_sortDay_193 : decode cX11_sortDay 193 = .ok (.irem, 1) := by decide +kernel
theorem dX11_sortDay_194 : decode cX11_sortDay 194 = .ok (.iload 6, 2) := by decide +kernel
theorem dX11_sortDay_196 : decode cX11_sortDay 196 = .ok (.bipush 16, 2) := by decide +kernel
theorem dX11_sortDay_198 : decode cX11_sortDay 198 = .ok (.idiv, 1) := by decide +kernel
theorem dX11_sortDay_199 : decode cX11_sortDay 199 = .ok (.iadd, 1) := by decide +kernel
theorem dX11_sortDay_200 : decode cX11_sortDay 200 = .ok (.aload_n 0, 1) := by decide +kernel
theorem dX11_sortDay_201 : decode cX11_sortDay 201 = .ok (.getfield 235, 3) := by decide +kernel
theorem dX11_sortDay_204 : decode cX11_sortDay 204 = .ok (.iload_n 2, 1) := by decide +kernel
theorem dX11_sortDay_205 : decode cX11_sortDay 205 = .ok (.iaload, 1) := by decide +kernel
theorem dX11_sortDay_206 : decode cX11_sortDay 206 = .ok (.imul, 1) := by decide +kernel
theorem dX11_sortDay_207 : decode cX11_sortDay 207 = .ok (.iadd, 1) := by decide +kernel
theorem dX11_sortDay_208 : decode cX11_sortDay 208 = .ok (.iastore, 1) := by decide +kernel
theorem dX11_sortDay_209 : decode cX11_sortDay 209 = .ok (.aload_n 1, 1) := by decide +kernel
theorem dX11_sortDay_210 : decode cX11_sortDay 210 = .ok (.iconst 0, 1) := by decide +kernel
theorem dX11_sortDay_211 : decode cX11_sortDay 211 = .ok (.iload_n 2, 1) := by decide +kernel
theorem dX11_sortDay_212 : decode cX11_sortDay 212 = .ok (.iadd, 1) := by decide +kernel
theorem dX11_sortDay_213 : decode cX11_sortDay 213 = .ok (.iaload, 1) := by decide +kernel
theorem dX11_sortDay_214 : decode cX11_sortDay 214 = .ok (.i2l, 1) := by decide +kernel
theorem dX11_sortDay_215 : decode cX11_sortDay 215 = .ok (.aload_n 0, 1) := by decide +kernel
theorem dX11_sortDay_216 : decode cX11_sortDay 216 = .ok (.getfield 235, 3) := by decide +kernel
theorem dX11_sortDay_219 : decode cX11_sortDay 219 = .ok (.iload_n 2, 1) := by decide +kernel
theorem dX11_sortDay_220 : decode cX11_sortDay 220 = .ok (.iaload, 1) := by decide +kernel
theorem dX11_sortDay_221 : decode cX11_sortDay 221 = .ok (.i2l, 1) := by decide +kernel
theorem dX11_sortDay_222 : decode cX11_sortDay 222 = .ok (.lmul, 1) := by decide +kernel
theorem dX11_sortDay_223 : decode cX11_sortDay 223 = .ok (.lreturn, 1) := by decide +kernel
theorem dX11_nightOf_0 : decode cX11_nightOf 0 = .ok (.aload_n 1, 1) := by decide +kernel
theorem dX11_nightOf_1 : decode cX11_nightOf 1 = .ok (.iconst 0, 1) := by decide +kernel
theorem dX11_nightOf_2 : decode cX11_nightOf 2 = .ok (.iload_n 2, 1) := by decide +kernel
theorem dX11_nightOf_3 : decode cX11_nightOf 3 = .ok (.iadd, 1) := by decide +kernel
theorem dX11_nightOf_4 : decode cX11_nightOf 4 = .ok (.iaload, 1) := by decide +kernel
theorem dX11_nightOf_5 : decode cX11_nightOf 5 = .ok (.aload_n 0, 1) := by decide +kernel
theorem dX11_nightOf_6 : decode cX11_nightOf 6 = .ok (.iload_n 3, 1) := by decide +kernel
theorem dX11_nightOf_7 : decode cX11_nightOf 7 = .ok (.invokevirtual 414, 3) := by decide +kernel
theorem dX11_nightOf_10 : decode cX11_nightOf 10 = .ok (.invokestatic 380, 3) := by decide +kernel
theorem dX11_nightOf_13 : decode cX11_nightOf 13 = .ok (.istore 4, 2) := by decide +kernel
theorem dX11_nightOf_15 : decode cX11_nightOf 15 = .ok (.aload_n 1, 1) := by decide +kernel
theorem dX11_nightOf_16 : decode cX11_nightOf 16 = .ok (.iconst 0, 1) := by decide +kernel
theorem dX11_nightOf_17 : decode cX11_nightOf 17 = .ok (.iload_n 2, 1) := by decide +kernel
theorem dX11_nightOf_18 : decode cX11_nightOf 18 = .ok (.iadd, 1) := by decide +kernel
theorem dX11_nightOf_19 : decode cX11_nightOf 19 = .ok (.aload_n 0, 1) := by decide +kernel
theorem dX11_nightOf_20 : decode cX11_nightOf 20 = .ok (.aload_n 1, 1) := by decide +kernel
theorem dX11_nightOf_21 : decode cX11_nightOf 21 = .ok (.iconst 0, 1) := by decide +kernel
theorem dX11_nightOf_22 : decode cX11_nightOf 22 = .ok (.iload_n 2, 1) := by decide +kernel
theorem dX11_nightOf_23 : decode cX11_nightOf 23 = .ok (.iadd, 1) := by decide +kernel
theorem dX11_nightOf_24 : decode cX11_nightOf 24 = .ok (.iaload, 1) := by decide +kernel
theorem dX11_nightOf_25 : decode cX11_nightOf 25 = .ok (.aload_n 1, 1) := by decide +kernel
theorem dX11_nightOf_26 : decode cX11_nightOf 26 = .ok (.iconst 4, 1) := by decide +kernel
theorem dX11_nightOf_27 : decode cX11_nightOf 27 = .ok (.iload_n 2, 1) := by decide +kernel
theorem dX11_nightOf_28 : decode cX11_nightOf 28 = .ok (.iadd, 1) := by decide +kernel
theorem dX11_nightOf_29 : decode cX11_nightOf 29 = .ok (.iaload, 1) := by decide +kernel
theorem dX11_nightOf_30 : decode cX11_nightOf 30 = .ok (.aload_n 0, 1) := by decide +kernel
theorem dX11_nightOf_31 : decode cX11_nightOf 31 = .ok (.iload_n 3, 1) := by decide +kernel
theorem dX11_nightOf_32 : decode cX11_nightOf 32 = .ok (.invokevirtual 414, 3) := by decide +kernel
theorem dX11_nightOf_35 : decode cX11_nightOf 35 = .ok (.invokevirtual 398, 3) := by decide +kernel
theorem dX11_nightOf_38 : decode cX11_nightOf 38 = .ok (.iastore, 1) := by decide +kernel
theorem dX11_nightOf_39 : decode cX11_nightOf 39 = .ok (.aload_n 1, 1) := by decide +kernel
theorem dX11_nightOf_40 : decode cX11_nightOf 40 = .ok (.bipush 12, 2) := by decide +kernel
theorem dX11_nightOf_42 : decode cX11_nightOf 42 = .ok (.iload_n 2, 1) := by decide +kernel
theorem dX11_nightOf_43 : decode cX11_nightOf 43 = .ok (.iadd, 1) := by decide +kernel
theorem dX11_nightOf_44 : decode cX11_nightOf 44 = .ok (.dup2, 1) := by decide +kernel
theorem dX11_nightOf_45 : decode cX11_nightOf 45 = .ok (.iaload, 1) := by decide +kernel
theorem dX11_nightOf_46 : decode cX11_nightOf 46 = .ok (.iload 4, 2) := by decide +kernel
theorem dX11_nightOf_48 : decode cX11_nightOf 48 = .ok (.aload_n 0, 1) := by decide +kernel
theorem dX11_nightOf_49 : decode cX11_nightOf 49 = .ok (.getfield 235, 3) := by decide +kernel
theorem dX11_nightOf_52 : decode cX11_nightOf 52 = .ok (.iload_n 2, 1) := by decide +kernel
theorem dX11_nightOf_53 : decode cX11_nightOf 53 = .ok (.iaload, 1) := by decide +kernel
theorem dX11_nightOf_54 : decode cX11_nightOf 54 = .ok (.imul, 1) := by decide +kernel
theorem dX11_nightOf_55 : decode cX11_nightOf 55 = .ok (.iadd, 1) := by decide +kernel
theorem dX11_nightOf_56 : decode cX11_nightOf 56 = .ok (.iastore, 1) := by decide +kernel
theorem dX11_nightOf_57 : decode cX11_nightOf 57 = .ok (.aload_n 1, 1) := by decide +kernel
theorem dX11_nightOf_58 : decode cX11_nightOf 58 = .ok (.bipush 32, 2) := by decide +kernel
theorem dX11_nightOf_60 : decode cX11_nightOf 60 = .ok (.dup2, 1) := by decide +kernel
theorem dX11_nightOf_61 : decode cX11_nightOf 61 = .ok (.iaload, 1) := by decide +kernel
theorem dX11_nightOf_62 : decode cX11_nightOf 62 = .ok (.iload 4, 2) := by decide +kernel
theorem dX11_nightOf_64 : decode cX11_nightOf 64 = .ok (.aload_n 0, 1) := by decide +kernel
theorem dX11_nightOf_65 : decode cX11_nightOf 65 = .ok (.getfield 235, 3) := by decide +kernel
theorem dX11_nightOf_68 : decode cX11_nightOf 68 = .ok (.iload_n 2, 1) := by decide +kernel
theorem dX11_nightOf_69 : decode cX11_nightOf 69 = .ok (.iaload, 1) := by decide +kernel
theorem dX11_nightOf_70 : decode cX11_nightOf 70 = .ok (.imul, 1) := by decide +kernel
theorem dX11_nightOf_71 : decode cX11_nightOf 71 = .ok (.iadd, 1) := by decide +kernel
theorem dX11_nightOf_72 : decode cX11_nightOf 72 = .ok (.iastore, 1) := by decide +kernel
theorem dX11_nightOf_73 : decode cX11_nightOf 73 = .ok (.aload_n 0, 1) := by decide +kernel
theorem dX11_nightOf_74 : decode cX11_nightOf 74 = .ok (.aload_n 1, 1) := by decide +kernel
theorem dX11_nightOf_75 : decode cX11_nightOf 75 = .ok (.iconst 4, 1) := by decide +kernel
theorem dX11_nightOf_76 : decode cX11_nightOf 76 = .ok (.iload_n 2, 1) := by decide +kernel
theorem dX11_nightOf_77 : decode cX11_nightOf 77 = .ok (.iadd, 1) := by decide +kernel
theorem dX11_nightOf_78 : decode cX11_nightOf 78 = .ok (.iaload, 1) := by decide +kernel
theorem dX11_nightOf_79 : decode cX11_nightOf 79 = .ok (.invokevirtual 420, 3) := by decide +kernel
theorem dX11_nightOf_82 : decode cX11_nightOf 82 = .ok (.istore 5, 2) := by decide +kernel
theorem dX11_nightOf_84 : decode cX11_nightOf 84 = .ok (.aload_n 1, 1) := by decide +kernel
theorem dX11_nightOf_85 : decode cX11_nightOf 85 = .ok (.bipush 20, 2) := by decide +kernel
theorem dX11_nightOf_87 : decode cX11_nightOf 87 = .ok (.iload_n 2, 1) := by decide +kernel
theorem dX11_nightOf_88 : decode cX11_nightOf 88 = .ok (.iadd, 1) := by decide +kernel
theorem dX11_nightOf_89 : decode cX11_nightOf 89 = .ok (.dup2, 1) := by decide +kernel
theorem dX11_nightOf_90 : decode cX11_nightOf 90 = .ok (.iaload, 1) := by decide +kernel
theorem dX11_nightOf_91 : decode cX11_nightOf 91 = .ok (.aload_n 1, 1) := by decide +kernel
theorem dX11_nightOf_92 : decode cX11_nightOf 92 = .ok (.iconst 4, 1) := by decide +kernel
theorem dX11_nightOf_93 : decode cX11_nightOf 93 = .ok (.iload_n 2, 1) := by decide +kernel
theorem dX11_nightOf_94 : decode cX11_nightOf 94 = .ok (.iadd, 1) := by decide +kernel
theorem dX11_nightOf_95 : decode cX11_nightOf 95 = .ok (.iaload, 1) := by decide +kernel
theorem dX11_nightOf_96 : decode cX11_nightOf 96 = .ok (.iload 5, 2) := by decide +kernel
theorem dX11_nightOf_98 : decode cX11_nightOf 98 = .ok (.isub, 1) := by decide +kernel
theorem dX11_nightOf_99 : decode cX11_nightOf 99 = .ok (.aload_n 0, 1) := by decide +kernel
theorem dX11_nightOf_100 : decode cX11_nightOf 100 = .ok (.getfield 235, 3) := by decide +kernel
theorem dX11_nightOf_103 : decode cX11_nightOf 103 = .ok (.iload_n 2, 1) := by decide +kernel
theorem dX11_nightOf_104 : decode cX11_nightOf 104 = .ok (.iaload, 1) := by decide +kernel
theorem dX11_nightOf_105 : decode cX11_nightOf 105 = .ok (.imul, 1) := by decide +kernel
theorem dX11_nightOf_106 : decode cX11_nightOf 106 = .ok (.iadd, 1) := by decide +kernel
theorem dX11_nightOf_107 : decode cX11_nightOf 107 = .ok (.iastore, 1) := by decide +kernel
theorem dX11_nightOf_108 : decode cX11_nightOf 108 = .ok (.aload_n 1, 1) := by decide +kernel
theorem dX11_nightOf_109 : decode cX11_nightOf 109 = .ok (.iconst 4, 1) := by decide +kernel
theorem dX11_nightOf_110 : decode cX11_nightOf 110 = .ok (.iload_n 2, 1) := by decide +kernel
theorem dX11_nightOf_111 : decode cX11_nightOf 111 = .ok (.iadd, 1) := by decide +kernel
theorem dX11_nightOf_112 : decode cX11_nightOf 112 = .ok (.iload 5, 2) := by decide +kernel
theorem dX11_nightOf_114 : decode cX11_nightOf 114 = .ok (.iastore, 1) := by decide +kernel
theorem dX11_nightOf_115 : decode cX11_nightOf 115 = .ok (.return_, 1) := by decide +kernel
theorem dX11_dayOf_0 : decode cX11_dayOf 0 = .ok (.aload_n 1, 1) := by decide +kernel
theorem dX11_dayOf_1 : decode cX11_dayOf 1 = .ok (.bipush 33, 2) := by decide +kernel
theorem dX11_dayOf_3 : decode cX11_dayOf 3 = .ok (.iaload, 1) := by decide +kernel
theorem dX11_dayOf_4 : decode cX11_dayOf 4 = .ok (.bipush 7, 2) := by decide +kernel
theorem dX11_dayOf_6 : decode cX11_dayOf 6 = .ok (.irem, 1) := by decide +kernel
theorem dX11_dayOf_7 : decode cX11_dayOf 7 = .ok (.istore_n 2, 1) := by decide +kernel
theorem dX11_dayOf_8 : decode cX11_dayOf 8 = .ok (.lconst 0, 1) := by decide +kernel
theorem dX11_dayOf_9 : decode cX11_dayOf 9 = .ok (.lstore_n 3, 1) := by decide +kernel
theorem dX11_dayOf_10 : decode cX11_dayOf 10 = .ok (.iload_n 2, 1) := by decide +kernel
theorem dX11_dayOf_11 : decode cX11_dayOf 11 = .ok (.ifCond .ne 8, 3) := by decide +kernel
theorem dX11_dayOf_14 : decode cX11_dayOf 14 = .ok (.aload_n 0, 1) := by decide +kernel
theorem dX11_dayOf_15 : decode cX11_dayOf 15 = .ok (.aload_n 1, 1) := by decide +kernel
theorem dX11_dayOf_16 : decode cX11_dayOf 16 = .ok (.invokevirtual 467, 3) := by decide +kernel
theorem dX11_dayOf_19 : decode cX11_dayOf 19 = .ok (.iconst 0, 1) := by decide +kernel
theorem dX11_dayOf_20 : decode cX11_dayOf 20 = .ok (.istore 5, 2) := by decide +kernel
theorem dX11_dayOf_22 : decode cX11_dayOf 22 = .ok (.iload 5, 2) := by decide +kernel
theorem dX11_dayOf_24 : decode cX11_dayOf 24 = .ok (.aload_n 0, 1) := by decide +kernel
theorem dX11_dayOf_25 : decode cX11_dayOf 25 = .ok (.getfield 332, 3) := by decide +kernel
theorem dX11_dayOf_28 : decode cX11_dayOf 28 = .ok (.if_icmp .ge 57, 3) := by decide +kernel
theorem dX11_dayOf_31 : decode cX11_dayOf 31 = .ok (.aload_n 0, 1) := by decide +kernel
theorem dX11_dayOf_32 : decode cX11_dayOf 32 = .ok (.getfield 289, 3) := by decide +kernel
theorem dX11_dayOf_35 : decode cX11_dayOf 35 = .ok (.iload 5, 2) := by decide +kernel
theorem dX11_dayOf_37 : decode cX11_dayOf 37 = .ok (.aload_n 0, 1) := by decide +kernel
theorem dX11_dayOf_38 : decode cX11_dayOf 38 = .ok (.getfield 470, 3) := by decide +kernel
theorem dX11_dayOf_41 : decode cX11_dayOf 41 = .ok (.ifCond .ne 19, 3) := by decide +kernel
theorem dX11_dayOf_44 : decode cX11_dayOf 44 = .ok (.aload_n 0, 1) := by decide +kernel
theorem dX11_dayOf_45 : decode cX11_dayOf 45 = .ok (.getfield 259, 3) := by decide +kernel
theorem dX11_dayOf_48 : decode cX11_dayOf 48 = .ok (.bipush 7, 2) := by decide +kernel
theorem dX11_dayOf_50 : decode cX11_dayOf 50 = .ok (.iload 5, 2) := by decide +kernel
theorem dX11_dayOf_52 : decode cX11_dayOf 52 = .ok (.imul, 1) := by decide +kernel
theorem dX11_dayOf_53 : decode cX11_dayOf 53 = .ok (.iload_n 2, 1) := by decide +kernel
theorem dX11_dayOf_54 : decode cX11_dayOf 54 = .ok (.iadd, 1) := by decide +kernel
theorem dX11_dayOf_55 : decode cX11_dayOf 55 = .ok (.iaload, 1) := by decide +kernel
theorem dX11_dayOf_56 : decode cX11_dayOf 56 = .ok (.iconst (-1), 1) := by decide +kernel
theorem dX11_dayOf_57 : decode cX11_dayOf 57 = .ok (.if_icmp .ne 9, 3) := by decide +kernel
theorem dX11_dayOf_60 : decode cX11_dayOf 60 = .ok (.ldc_w 460, 3) := by decide +kernel
theorem dX11_dayOf_63 : decode cX11_dayOf 63 = .ok (.goto 15, 3) := by decide +kernel
theorem dX11_dayOf_66 : decode cX11_dayOf 66 = .ok (.aload_n 0, 1) := by decide +kernel
theorem dX11_dayOf_67 : decode cX11_dayOf 67 = .ok (.getfield 259, 3) := by decide +kernel
theorem dX11_dayOf_70 : decode cX11_dayOf 70 = .ok (.bipush 7, 2) := by decide +kernel
theorem dX11_dayOf_72 : decode cX11_dayOf 72 = .ok (.iload 5, 2) := by decide +kernel
theorem dX11_dayOf_74 : decode cX11_dayOf 74 = .ok (.imul, 1) := by decide +kernel
theorem dX11_dayOf_75 : decode cX11_dayOf 75 = .ok (.iload_n 2, 1) := by decide +kernel
theorem dX11_dayOf_76 : decode cX11_dayOf 76 = .ok (.iadd, 1) := by decide +kernel
theorem dX11_dayOf_77 : decode cX11_dayOf 77 = .ok (.iaload, 1) := by decide +kernel
theorem dX11_dayOf_78 : decode cX11_dayOf 78 = .ok (.iastore, 1) := by decide +kernel
theorem dX11_dayOf_79 : decode cX11_dayOf 79 = .ok (.iinc 5 1, 3) := by decide +kernel
theorem dX11_dayOf_82 : decode cX11_dayOf 82 = .ok (.goto (-60), 3) := by decide +kernel
theorem dX11_dayOf_85 : decode cX11_dayOf 85 = .ok (.iconst 0, 1) := by decide +kernel
theorem dX11_dayOf_86 : decode cX11_dayOf 86 = .ok (.istore 5, 2) := by decide +kernel
theorem dX11_dayOf_88 : decode cX11_dayOf 88 = .ok (.iload 5, 2) := by decide +kernel
theorem dX11_dayOf_90 : decode cX11_dayOf 90 = .ok (.aload_n 0, 1) := by decide +kernel
theorem dX11_dayOf_91 : decode cX11_dayOf 91 = .ok (.getfield 329, 3) := by decide +kernel
theorem dX11_dayOf_94 : decode cX11_dayOf 94 = .ok (.if_icmp .ge 20, 3) := by decide +kernel
theorem dX11_dayOf_97 : decode cX11_dayOf 97 = .ok (.lload_n 3, 1) := by decide +kernel
theorem dX11_dayOf_98 : decode cX11_dayOf 98 = .ok (.aload_n 0, 1) := by decide +kernel
theorem dX11_dayOf_99 : decode cX11_dayOf 99 = .ok (.aload_n 1, 1) := by decide +kernel
theorem dX11_dayOf_100 : decode cX11_dayOf 100 = .ok (.iload 5, 2) := by decide +kernel
theorem dX11_dayOf_102 : decode cX11_dayOf 102 = .ok (.iload_n 2, 1) := by decide +kernel
theorem dX11_dayOf_103 : decode cX11_dayOf 103 = .ok (.invokevirtual 474, 3) := by decide +kernel
theorem dX11_dayOf_106 : decode cX11_dayOf 106 = .ok (.ladd, 1) := by decide +kernel
theorem dX11_dayOf_107 : decode cX11_dayOf 107 = .ok (.lstore_n 3, 1) := by decide +kernel
theorem dX11_dayOf_108 : decode cX11_dayOf 108 = .ok (.iinc 5 1, 3) := by decide +kernel
theorem dX11_dayOf_111 : decode cX11_dayOf 111 = .ok (.goto (-23), 3) := by decide +kernel
theorem dX11_dayOf_114 : decode cX11_dayOf 114 = .ok (.iconst 0, 1) := by decide +kernel
theorem dX11_dayOf_115 : decode cX11_dayOf 115 = .ok (.istore 5, 2) := by decide +kernel
theorem dX11_dayOf_117 : decode cX11_dayOf 117 = .ok (.iload 5, 2) := by decide +kernel
theorem dX11_dayOf_119 : decode cX11_dayOf 119 = .ok (.aload_n 0, 1) := by decide +kernel
theorem dX11_dayOf_120 : decode cX11_dayOf 120 = .ok (.getfield 329, 3) := by decide +kernel
theorem dX11_dayOf_123 : decode cX11_dayOf 123 = .ok (.if_icmp .ge 17, 3) := by decide +kernel
theorem dX11_dayOf_126 : decode cX11_dayOf 126 = .ok (.aload_n 0, 1) := by decide +kernel
theorem dX11_dayOf_127 : decode cX11_dayOf 127 = .ok (.aload_n 1, 1) := by decide +kernel
theorem dX11_dayOf_128 : decode cX11_dayOf 128 = .ok (.iload 5, 2) := by decide +kernel
theorem dX11_dayOf_130 : decode cX11_dayOf 130 = .ok (.iload_n 2, 1) := by decide +kernel
theorem dX11_dayOf_131 : decode cX11_dayOf 131 = .ok (.invokevirtual 478, 3) := by decide +kernel
theorem dX11_dayOf_134 : decode cX11_dayOf 134 = .ok (.iinc 5 1, 3) := by decide +kernel
theorem dX11_dayOf_137 : decode cX11_dayOf 137 = .ok (.goto (-20), 3) := by decide +kernel
theorem dX11_dayOf_140 : decode cX11_dayOf 140 = .ok (.aload_n 1, 1) := by decide +kernel
theorem dX11_dayOf_141 : decode cX11_dayOf 141 = .ok (.bipush 33, 2) := by decide +kernel
theorem dX11_dayOf_143 : decode cX11_dayOf 143 = .ok (.dup2, 1) := by decide +kernel
theorem dX11_dayOf_144 : decode cX11_dayOf 144 = .ok (.iaload, 1) := by decide +kernel
theorem dX11_dayOf_145 : decode cX11_dayOf 145 = .ok (.iconst 1, 1) := by decide +kernel
theorem dX11_dayOf_146 : decode cX11_dayOf 146 = .ok (.iadd, 1) := by decide +kernel
theorem dX11_dayOf_147 : decode cX11_dayOf 147 = .ok (.iastore, 1) := by decide +kernel
theorem dX11_dayOf_148 : decode cX11_dayOf 148 = .ok (.lload_n 3, 1) := by decide +kernel
theorem dX11_dayOf_149 : decode cX11_dayOf 149 = .ok (.lreturn, 1) := by decide +kernel
theorem dX11_way_0 : decode cX11_way 0 = .ok (.aload_n 0, 1) := by decide +kernel
theorem dX11_way_1 : decode cX11_way 1 = .ok (.iload_n 1, 1) := by decide +kernel
theorem dX11_way_2 : decode cX11_way 2 = .ok (.invokevirtual 367, 3) := by decide +kernel
theorem dX11_way_5 : decode cX11_way 5 = .ok (.ifCond .eq 10, 3) := by decide +kernel
theorem dX11_way_8 : decode cX11_way 8 = .ok (.iload_n 2, 1) := by decide +kernel
theorem dX11_way_9 : decode cX11_way 9 = .ok (.invokestatic 454, 3) := by decide +kernel
theorem dX11_way_12 : decode cX11_way 12 = .ok (.ifCond .ne 6, 3) := by decide +kernel
theorem dX11_way_15 : decode cX11_way 15 = .ok (.bipush (-2), 2) := by decide +kernel
theorem dX11_way_17 : decode cX11_way 17 = .ok (.ireturn, 1) := by decide +kernel
theorem dX11_way_18 : decode cX11_way 18 = .ok (.aload_n 0, 1) := by decide +kernel
theorem dX11_way_19 : decode cX11_way 19 = .ok (.getfield 283, 3) := by decide +kernel
theorem dX11_way_22 : decode cX11_way 22 = .ok (.bipush 28, 2) := by decide +kernel
theorem dX11_way_24 : decode cX11_way 24 = .ok (.iload_n 1, 1) := by decide +kernel
theorem dX11_way_25 : decode cX11_way 25 = .ok (.iadd, 1) := by decide +kernel
theorem dX11_way_26 : decode cX11_way 26 = .ok (.iaload, 1) := by decide +kernel
theorem dX11_way_27 : decode cX11_way 27 = .ok (.istore_n 3, 1) := by decide +kernel
theorem dX11_way_28 : decode cX11_way 28 = .ok (.aload_n 0, 1) := by decide +kernel
theorem dX11_way_29 : decode cX11_way 29 = .ok (.getfield 283, 3) := by decide +kernel
theorem dX11_way_32 : decode cX11_way 32 = .ok (.bipush 28, 2) := by decide +kernel
theorem dX11_way_34 : decode cX11_way 34 = .ok (.iload_n 1, 1) := by decide +kernel
theorem dX11_way_35 : decode cX11_way 35 = .ok (.iadd, 1) := by decide +kernel
theorem dX11_way_36 : decode cX11_way 36 = .ok (.iload_n 2, 1) := by decide +kernel
theorem dX11_way_37 : decode cX11_way 37 = .ok (.iastore, 1) := by decide +kernel
theorem dX11_way_38 : decode cX11_way 38 = .ok (.iload_n 3, 1) := by decide +kernel
theorem dX11_way_39 : decode cX11_way 39 = .ok (.ireturn, 1) := by decide +kernel
theorem dX11_pass_0 : decode cX11_pass 0 = .ok (.iload_n 1, 1) := by decide +kernel
theorem dX11_pass_1 : decode cX11_pass 1 = .ok (.i2l, 1) := by decide +kernel
theorem dX11_pass_2 : decode cX11_pass 2 = .ok (.lconst 0, 1) := by decide +kernel
theorem dX11_pass_3 : decode cX11_pass 3 = .ok (.ldc2_w 482, 3) := by decide +kernel
theorem dX11_pass_6 : decode cX11_pass 6 = .ok (.invokestatic 52, 3) := by decide +kernel
theorem dX11_pass_9 : decode cX11_pass 9 = .ok (.ifCond .ne 6, 3) := by decide +kernel
theorem dX11_pass_12 : decode cX11_pass 12 = .ok (.bipush (-2), 2) := by decide +kernel
theorem dX11_pass_14 : decode cX11_pass 14 = .ok (.ireturn, 1) := by decide +kernel
theorem dX11_pass_15 : decode cX11_pass 15 = .ok (.iconst 0, 1) := by decide +kernel
theorem dX11_pass_16 : decode cX11_pass 16 = .ok (.istore_n 2, 1) := by decide +kernel
theorem dX11_pass_17 : decode cX11_pass 17 = .ok (.iload_n 2, 1) := by decide +kernel
theorem dX11_pass_18 : decode cX11_pass 18 = .ok (.iload_n 1, 1) := by decide +kernel
theorem dX11_pass_19 : decode cX11_pass 19 = .ok (.if_icmp .ge 26, 3) := by decide +kernel
theorem dX11_pass_22 : decode cX11_pass 22 = .ok (.aload_n 0, 1) := by decide +kernel
theorem dX11_pass_23 : decode cX11_pass 23 = .ok (.dup, 1) := by decide +kernel
theorem dX11_pass_24 : decode cX11_pass 24 = .ok (.getfield 346, 3) := by decide +kernel
theorem dX11_pass_27 : decode cX11_pass 27 = .ok (.aload_n 0, 1) := by decide +kernel
theorem dX11_pass_28 : decode cX11_pass 28 = .ok (.aload_n 0, 1) := by decide +kernel
theorem dX11_pass_29 : decode cX11_pass 29 = .ok (.getfield 283, 3) := by decide +kernel
theorem dX11_pass_32 : decode cX11_pass 32 = .ok (.invokevirtual 484, 3) := by decide +kernel
theorem dX11_pass_35 : decode cX11_pass 35 = .ok (.ladd, 1) := by decide +kernel
theorem dX11_pass_36 : decode cX11_pass 36 = .ok (.putfield 346, 3) := by decide +kernel
theorem dX11_pass_39 : decode cX11_pass 39 = .ok (.iinc 2 1, 3) := by decide +kernel
theorem dX11_pass_42 : decode cX11_pass 42 = .ok (.goto (-25), 3) := by decide +kernel
theorem dX11_pass_45 : decode cX11_pass 45 = .ok (.aload_n 0, 1) := by decide +kernel
theorem dX11_pass_46 : decode cX11_pass 46 = .ok (.getfield 283, 3) := by decide +kernel
theorem dX11_pass_49 : decode cX11_pass 49 = .ok (.bipush 33, 2) := by decide +kernel
theorem dX11_pass_51 : decode cX11_pass 51 = .ok (.iaload, 1) := by decide +kernel
theorem dX11_pass_52 : decode cX11_pass 52 = .ok (.ireturn, 1) := by decide +kernel
theorem dX11_run_0 : decode cX11_run 0 = .ok (.aload_n 0, 1) := by decide +kernel
theorem dX11_run_1 : decode cX11_run 1 = .ok (.iload_n 1, 1) := by decide +kernel
theorem dX11_run_2 : decode cX11_run 2 = .ok (.invokevirtual 367, 3) := by decide +kernel
theorem dX11_run_5 : decode cX11_run 5 = .ok (.ifCond .eq 15, 3) := by decide +kernel
theorem dX11_run_8 : decode cX11_run 8 = .ok (.iload_n 2, 1) := by decide +kernel
theorem dX11_run_9 : decode cX11_run 9 = .ok (.i2l, 1) := by decide +kernel
theorem dX11_run_10 : decode cX11_run 10 = .ok (.lconst 0, 1) := by decide +kernel
theorem dX11_run_11 : decode cX11_run 11 = .ok (.ldc2_w 365, 3) := by decide +kernel
theorem dX11_run_14 : decode cX11_run 14 = .ok (.invokestatic 52, 3) := by decide +kernel
theorem dX11_run_17 : decode cX11_run 17 = .ok (.ifCond .ne 6, 3) := by decide +kernel
theorem dX11_run_20 : decode cX11_run 20 = .ok (.bipush (-2), 2) := by decide +kernel
theorem dX11_run_22 : decode cX11_run 22 = .ok (.ireturn, 1) := by decide +kernel
theorem dX11_run_23 : decode cX11_run 23 = .ok (.aload_n 0, 1) := by decide +kernel
theorem dX11_run_24 : decode cX11_run 24 = .ok (.getfield 283, 3) := by decide +kernel
theorem dX11_run_27 : decode cX11_run 27 = .ok (.iconst 4, 1) := by decide +kernel
theorem dX11_run_28 : decode cX11_run 28 = .ok (.iload_n 2, 1) := by decide +kernel
theorem dX11_run_29 : decode cX11_run 29 = .ok (.imul, 1) := by decide +kernel
theorem dX11_run_30 : decode cX11_run 30 = .ok (.iload_n 1, 1) := by decide +kernel
theorem dX11_run_31 : decode cX11_run 31 = .ok (.iadd, 1) := by decide +kernel
theorem dX11_run_32 : decode cX11_run 32 = .ok (.iaload, 1) := by decide +kernel
theorem dX11_run_33 : decode cX11_run 33 = .ok (.ireturn, 1) := by decide +kernel
theorem dX11_paidByAll_0 : decode cX11_paidByAll 0 = .ok (.iconst 0, 1) := by decide +kernel
theorem dX11_paidByAll_1 : decode cX11_paidByAll 1 = .ok (.istore_n 2, 1) := by decide +kernel
theorem dX11_paidByAll_2 : decode cX11_paidByAll 2 = .ok (.iconst 0, 1) := by decide +kernel
theorem dX11_paidByAll_3 : decode cX11_paidByAll 3 = .ok (.istore_n 3, 1) := by decide +kernel
theorem dX11_paidByAll_4 : decode cX11_paidByAll 4 = .ok (.iload_n 3, 1) := by decide +kernel
theorem dX11_paidByAll_5 : decode cX11_paidByAll 5 = .ok (.aload_n 0, 1) := by decide +kernel
theorem dX11_paidByAll_6 : decode cX11_paidByAll 6 = .ok (.getfield 329, 3) := by decide +kernel
theorem dX11_paidByAll_9 : decode cX11_paidByAll 9 = .ok (.if_icmp .ge 18, 3) := by decide +kernel
theorem dX11_paidByAll_12 : decode cX11_paidByAll 12 = .ok (.iload_n 2, 1) := by decide +kernel
theorem dX11_paidByAll_13 : decode cX11_paidByAll 13 = .ok (.aload_n 1, 1) := by decide +kernel
theorem dX11_paidByAll_14 : decode cX11_paidByAll 14 = .ok (.bipush 8, 2) := by decide +kernel
theorem dX11_paidByAll_16 : decode cX11_paidByAll 16 = .ok (.iload_n 3, 1) := by decide +kernel
theorem dX11_paidByAll_17 : decode cX11_paidByAll 17 = .ok (.iadd, 1) := by decide +kernel
theorem dX11_paidByAll_18 : decode cX11_paidByAll 18 = .ok (.iaload, 1) := by decide +kernel
theorem dX11_paidByAll_19 : decode cX11_paidByAll 19 = .ok (.iadd, 1) := by decide +kernel
theorem dX11_paidByAll_20 : decode cX11_paidByAll 20 = .ok (.istore_n 2, 1) := by decide +kernel
theorem dX11_paidByAll_21 : decode cX11_paidByAll 21 = .ok (.iinc 3 1, 3) := by decide +kernel
theorem dX11_paidByAll_24 : decode cX11_paidByAll 24 = .ok (.goto (-20), 3) := by decide +kernel
theorem dX11_paidByAll_27 : decode cX11_paidByAll 27 = .ok (.iload_n 2, 1) := by decide +kernel
theorem dX11_paidByAll_28 : decode cX11_paidByAll 28 = .ok (.ireturn, 1) := by decide +kernel
theorem dX11_all_0 : decode cX11_all 0 = .ok (.iload_n 1, 1) := by decide +kernel
theorem dX11_all_1 : decode cX11_all 1 = .ok (.tableswitch 88 0 3 #[31, 39, 47, 80], 31) := by decide +kernel
theorem dX11_all_32 : decode cX11_all 32 = .ok (.aload_n 0, 1) := by decide +kernel
theorem dX11_all_33 : decode cX11_all 33 = .ok (.getfield 283, 3) := by decide +kernel
theorem dX11_all_36 : decode cX11_all 36 = .ok (.bipush 32, 2) := by decide +kernel
theorem dX11_all_38 : decode cX11_all 38 = .ok (.iaload, 1) := by decide +kernel
theorem dX11_all_39 : decode cX11_all 39 = .ok (.ireturn, 1) := by decide +kernel
theorem dX11_all_40 : decode cX11_all 40 = .ok (.aload_n 0, 1) := by decide +kernel
theorem dX11_all_41 : decode cX11_all 41 = .ok (.getfield 283, 3) := by decide +kernel
theorem dX11_all_44 : decode cX11_all 44 = .ok (.bipush 33, 2) := by decide +kernel
theorem dX11_all_46 : decode cX11_all 46 = .ok (.iaload, 1) := by decide +kernel
theorem dX11_all_47 : decode cX11_all 47 = .ok (.ireturn, 1) := by decide +kernel
theorem dX11_all_48 : decode cX11_all 48 = .ok (.aload_n 0, 1) := by decide +kernel
theorem dX11_all_49 : decode cX11_all 49 = .ok (.getfield 346, 3) := by decide +kernel
theorem dX11_all_52 : decode cX11_all 52 = .ok (.lconst 0, 1) := by decide +kernel
theorem dX11_all_53 : decode cX11_all 53 = .ok (.lcmp, 1) := by decide +kernel
theorem dX11_all_54 : decode cX11_all 54 = .ok (.ifCond .ne 7, 3) := by decide +kernel
theorem dX11_all_57 : decode cX11_all 57 = .ok (.iconst (-1), 1) := by decide +kernel
theorem dX11_all_58 : decode cX11_all 58 = .ok (.goto 22, 3) := by decide +kernel
theorem dX11_all_61 : decode cX11_all 61 = .ok (.ldc2_w 488, 3) := by decide +kernel
theorem dX11_all_64 : decode cX11_all 64 = .ok (.aload_n 0, 1) := by decide +kernel
theorem dX11_all_65 : decode cX11_all 65 = .ok (.aload_n 0, 1) := by decide +kernel
theorem dX11_all_66 : decode cX11_all 66 = .ok (.getfield 283, 3) := by decide +kernel
theorem dX11_all_69 : decode cX11_all 69 = .ok (.invokevirtual 490, 3) := by decide +kernel
theorem dX11_all_72 : decode cX11_all 72 = .ok (.i2l, 1) := by decide +kernel
theorem dX11_all_73 : decode cX11_all 73 = .ok (.lmul, 1) := by decide +kernel
theorem dX11_all_74 : decode cX11_all 74 = .ok (.aload_n 0, 1) := by decide +kernel
theorem dX11_all_75 : decode cX11_all 75 = .ok (.getfield 346, 3) := by decide +kernel
theorem dX11_all_78 : decode cX11_all 78 = .ok (.ldiv, 1) := by decide +kernel
theorem dX11_all_79 : decode cX11_all 79 = .ok (.l2i, 1) := by decide +kernel
theorem dX11_all_80 : decode cX11_all 80 = .ok (.ireturn, 1) := by decide +kernel
theorem dX11_all_81 : decode cX11_all 81 = .ok (.aload_n 0, 1) := by decide +kernel
theorem dX11_all_82 : decode cX11_all 82 = .ok (.getfield 283, 3) := by decide +kernel
theorem dX11_all_85 : decode cX11_all 85 = .ok (.bipush 34, 2) := by decide +kernel
theorem dX11_all_87 : decode cX11_all 87 = .ok (.iaload, 1) := by decide +kernel
theorem dX11_all_88 : decode cX11_all 88 = .ok (.ireturn, 1) := by decide +kernel
theorem dX11_all_89 : decode cX11_all 89 = .ok (.iconst (-1), 1) := by decide +kernel
theorem dX11_all_90 : decode cX11_all 90 = .ok (.ireturn, 1) := by decide +kernel
theorem dX11_anew_0 : decode cX11_anew 0 = .ok (.aload_n 0, 1) := by decide +kernel
theorem dX11_anew_1 : decode cX11_anew 1 = .ok (.getfield 283, 3) := by decide +kernel
theorem dX11_anew_4 : decode cX11_anew 4 = .ok (.bipush 33, 2) := by decide +kernel
theorem dX11_anew_6 : decode cX11_anew 6 = .ok (.iaload, 1) := by decide +kernel
theorem dX11_anew_7 : decode cX11_anew 7 = .ok (.istore_n 1, 1) := by decide +kernel
theorem dX11_anew_8 : decode cX11_anew 8 = .ok (.aload_n 0, 1) := by decide +kernel
theorem dX11_anew_9 : decode cX11_anew 9 = .ok (.aload_n 0, 1) := by decide +kernel
theorem dX11_anew_10 : decode cX11_anew 10 = .ok (.getfield 283, 3) := by decide +kernel
theorem dX11_anew_13 : decode cX11_anew 13 = .ok (.invokevirtual 342, 3) := by decide +kernel
theorem dX11_anew_16 : decode cX11_anew 16 = .ok (.aload_n 0, 1) := by decide +kernel
theorem dX11_anew_17 : decode cX11_anew 17 = .ok (.lconst 0, 1) := by decide +kernel
theorem dX11_anew_18 : decode cX11_anew 18 = .ok (.putfield 346, 3) := by decide +kernel
theorem dX11_anew_21 : decode cX11_anew 21 = .ok (.iload_n 1, 1) := by decide +kernel
theorem dX11_anew_22 : decode cX11_anew 22 = .ok (.ireturn, 1) := by decide +kernel
theorem dX11_isSlot_0 : decode cX11_isSlot 0 = .ok (.iload_n 0, 1) := by decide +kernel
theorem dX11_isSlot_1 : decode cX11_isSlot 1 = .ok (.i2l, 1) := by decide +kernel
theorem dX11_isSlot_2 : decode cX11_isSlot 2 = .ok (.lconst 0, 1) := by decide +kernel
theorem dX11_isSlot_3 : decode cX11_isSlot 3 = .ok (.ldc2_w 376, 3) := by decide +kernel
theorem dX11_isSlot_6 : decode cX11_isSlot 6 = .ok (.invokestatic 52, 3) := by decide +kernel
theorem dX11_isSlot_9 : decode cX11_isSlot 9 = .ok (.ireturn, 1) := by decide +kernel
theorem dX11_keep_0 : decode cX11_keep 0 = .ok (.iload_n 1, 1) := by decide +kernel
theorem dX11_keep_1 : decode cX11_keep 1 = .ok (.invokestatic 494, 3) := by decide +kernel
theorem dX11_keep_4 : decode cX11_keep 4 = .ok (.ifCond .ne 6, 3) := by decide +kernel
theorem dX11_keep_7 : decode cX11_keep 7 = .ok (.bipush (-2), 2) := by decide +kernel
theorem dX11_keep_9 : decode cX11_keep 9 = .ok (.ireturn, 1) := by decide +kernel
theorem dX11_keep_10 : decode cX11_keep 10 = .ok (.iconst 0, 1) := by decide +kernel
theorem dX11_keep_11 : decode cX11_keep 11 = .ok (.istore_n 2, 1) := by decide +kernel
theorem dX11_keep_12 : decode cX11_keep 12 = .ok (.iload_n 2, 1) := by decide +kernel
theorem dX11_keep_13 : decode cX11_keep 13 = .ok (.bipush 35, 2) := by decide +kernel
theorem dX11_keep_15 : decode cX11_keep 15 = .ok (.if_icmp .ge 26, 3) := by decide +kernel
theorem dX11_keep_18 : decode cX11_keep 18 = .ok (.aload_n 0, 1) := by decide +kernel
theorem dX11_keep_19 : decode cX11_keep 19 = .ok (.getfield 295, 3) := by decide +kernel
theorem dX11_keep_22 : decode cX11_keep 22 = .ok (.bipush 35, 2) := by decide +kernel
theorem dX11_keep_24 : decode cX11_keep 24 = .ok (.iload_n 1, 1) := by decide +kernel
theorem dX11_keep_25 : decode cX11_keep 25 = .ok (.imul, 1) := by decide +kernel
theorem dX11_keep_26 : decode cX11_keep 26 = .ok (.iload_n 2, 1) := by decide +kernel
theorem dX11_keep_27 : decode cX11_keep 27 = .ok (.iadd, 1) := by decide +kernel
theorem dX11_keep_28 : decode cX11_keep 28 = .ok (.aload_n 0, 1) := by decide +kernel
theorem dX11_keep_29 : decode cX11_keep 29 = .ok (.getfield 283, 3) := by decide +kernel
theorem dX11_keep_32 : decode cX11_keep 32 = .ok (.iload_n 2, 1) := by decide +kernel
theorem dX11_keep_33 : decode cX11_keep 33 = .ok (.iaload, 1) := by decide +kernel
theorem dX11_keep_34 : decode cX11_keep 34 = .ok (.iastore, 1) := by decide +kernel
theorem dX11_keep_35 : decode cX11_keep 35 = .ok (.iinc 2 1, 3) := by decide +kernel
theorem dX11_keep_38 : decode cX11_keep 38 = .ok (.goto (-26), 3) := by decide +kernel
theorem dX11_keep_41 : decode cX11_keep 41 = .ok (.aload_n 0, 1) := by decide +kernel
theorem dX11_keep_42 : decode cX11_keep 42 = .ok (.getfield 298, 3) := by decide +kernel
theorem dX11_keep_45 : decode cX11_keep 45 = .ok (.iload_n 1, 1) := by decide +kernel
theorem dX11_keep_46 : decode cX11_keep 46 = .ok (.aload_n 0, 1) := by decide +kernel
theorem dX11_keep_47 : decode cX11_keep 47 = .ok (.getfield 346, 3) := by decide +kernel
theorem dX11_keep_50 : decode cX11_keep 50 = .ok (.lastore, 1) := by decide +kernel
theorem dX11_keep_51 : decode cX11_keep 51 = .ok (.aload_n 0, 1) := by decide +kernel
theorem dX11_keep_52 : decode cX11_keep 52 = .ok (.getfield 301, 3) := by decide +kernel
theorem dX11_keep_55 : decode cX11_keep 55 = .ok (.iload_n 1, 1) := by decide +kernel
theorem dX11_keep_56 : decode cX11_keep 56 = .ok (.iconst 1, 1) := by decide +kernel
theorem dX11_keep_57 : decode cX11_keep 57 = .ok (.bastore, 1) := by decide +kernel
theorem dX11_keep_58 : decode cX11_keep 58 = .ok (.aload_n 0, 1) := by decide +kernel
theorem dX11_keep_59 : decode cX11_keep 59 = .ok (.getfield 283, 3) := by decide +kernel
theorem dX11_keep_62 : decode cX11_keep 62 = .ok (.bipush 33, 2) := by decide +kernel
theorem dX11_keep_64 : decode cX11_keep 64 = .ok (.iaload, 1) := by decide +kernel
theorem dX11_keep_65 : decode cX11_keep 65 = .ok (.ireturn, 1) := by decide +kernel
theorem dX11_take_0 : decode cX11_take 0 = .ok (.iload_n 1, 1) := by decide +kernel
theorem dX11_take_1 : decode cX11_take 1 = .ok (.invokestatic 494, 3) := by decide +kernel
theorem dX11_take_4 : decode cX11_take 4 = .ok (.ifCond .ne 6, 3) := by decide +kernel
theorem dX11_take_7 : decode cX11_take 7 = .ok (.bipush (-2), 2) := by decide +kernel
theorem dX11_take_9 : decode cX11_take 9 = .ok (.ireturn, 1) := by decide +kernel
theorem dX11_take_10 : decode cX11_take 10 = .ok (.aload_n 0, 1) := by decide +kernel
theorem dX11_take_11 : decode cX11_take 11 = .ok (.getfield 301, 3) := by decide +kernel
theorem dX11_take_14 : decode cX11_take 14 = .ok (.iload_n 1, 1) := by decide +kernel
theorem dX11_take_15 : decode cX11_take 15 = .ok (.baload, 1) := by decide +kernel
theorem dX11_take_16 : decode cX11_take 16 = .ok (.ifCond .ne 6, 3) := by decide +kernel
theorem dX11_take_19 : decode cX11_take 19 = .ok (.bipush (-4), 2) := by decide +kernel
theorem dX11_take_21 : decode cX11_take 21 = .ok (.ireturn, 1) := by decide +kernel
theorem dX11_take_22 : decode cX11_take 22 = .ok (.iconst 0, 1) := by decide +kernel
theorem dX11_take_23 : decode cX11_take 23 = .ok (.istore_n 2, 1) := by decide +kernel
theorem dX11_take_24 : decode cX11_take 24 = .ok (.iload_n 2, 1) := by decide +kernel
theorem dX11_take_25 : decode cX11_take 25 = .ok (.bipush 35, 2) := by decide +kernel
theorem dX11_take_27 : decode cX11_take 27 = .ok (.if_icmp .ge 26, 3) := by decide +kernel
theorem dX11_take_30 : decode cX11_take 30 = .ok (.aload_n 0, 1) := by decide +kernel
theorem dX11_take_31 : decode cX11_take 31 = .ok (.getfield 283, 3) := by decide +kernel
theorem dX11_take_34 : decode cX11_take 34 = .ok (.iload_n 2, 1) := by decide +kernel
theorem dX11_take_35 : decode cX11_take 35 = .ok (.aload_n 0, 1) := by decide +kernel
theorem dX11_take_36 : decode cX11_take 36 = .ok (.getfield 295, 3) := by decide +kernel
theorem dX11_take_39 : decode cX11_take 39 = .ok (.bipush 35, 2) := by decide +kernel
theorem dX11_take_41 : decode cX11_take 41 = .ok (.iload_n 1, 1) := by decide +kernel
theorem dX11_take_42 : decode cX11_take 42 = .ok (.imul, 1) := by decide +kernel
theorem dX11_take_43 : decode cX11_take 43 = .ok (.iload_n 2, 1) := by decide +kernel
theorem dX11_take_44 : decode cX11_take 44 = .ok (.iadd, 1) := by decide +kernel
theorem dX11_take_45 : decode cX11_take 45 = .ok (.iaload, 1) := by decide +kernel
theorem dX11_take_46 : decode cX11_take 46 = .ok (.iastore, 1) := by decide +kernel
theorem dX11_take_47 : decode cX11_take 47 = .ok (.iinc 2 1, 3) := by decide +kernel
theorem dX11_take_50 : decode cX11_take 50 = .ok (.goto (-26), 3) := by decide +kernel
theorem dX11_take_53 : decode cX11_take 53 = .ok (.aload_n 0, 1) := by decide +kernel
theorem dX11_take_54 : decode cX11_take 54 = .ok (.aload_n 0, 1) := by decide +kernel
theorem dX11_take_55 : decode cX11_take 55 = .ok (.getfield 298, 3) := by decide +kernel
theorem dX11_take_58 : decode cX11_take 58 = .ok (.iload_n 1, 1) := by decide +kernel
theorem dX11_take_59 : decode cX11_take 59 = .ok (.laload, 1) := by decide +kernel
theorem dX11_take_60 : decode cX11_take 60 = .ok (.putfield 346, 3) := by decide +kernel
theorem dX11_take_63 : decode cX11_take 63 = .ok (.aload_n 0, 1) := by decide +kernel
theorem dX11_take_64 : decode cX11_take 64 = .ok (.getfield 283, 3) := by decide +kernel
theorem dX11_take_67 : decode cX11_take 67 = .ok (.bipush 33, 2) := by decide +kernel
theorem dX11_take_69 : decode cX11_take 69 = .ok (.iaload, 1) := by decide +kernel
theorem dX11_take_70 : decode cX11_take 70 = .ok (.ireturn, 1) := by decide +kernel
theorem dX11_runTrial_0 : decode cX11_runTrial 0 = .ok (.iconst 0, 1) := by decide +kernel
theorem dX11_runTrial_1 : decode cX11_runTrial 1 = .ok (.istore_n 2, 1) := by decide +kernel
theorem dX11_runTrial_2 : decode cX11_runTrial 2 = .ok (.iload_n 2, 1) := by decide +kernel
theorem dX11_runTrial_3 : decode cX11_runTrial 3 = .ok (.bipush 35, 2) := by decide +kernel
theorem dX11_runTrial_5 : decode cX11_runTrial 5 = .ok (.if_icmp .ge 21, 3) := by decide +kernel
theorem dX11_runTrial_8 : decode cX11_runTrial 8 = .ok (.aload_n 0, 1) := by decide +kernel
theorem dX11_runTrial_9 : decode cX11_runTrial 9 = .ok (.getfield 286, 3) := by decide +kernel
theorem dX11_runTrial_12 : decode cX11_runTrial 12 = .ok (.iload_n 2, 1) := by decide +kernel
theorem dX11_runTrial_13 : decode cX11_runTrial 13 = .ok (.aload_n 0, 1) := by decide +kernel
theorem dX11_runTrial_14 : decode cX11_runTrial 14 = .ok (.getfield 283, 3) := by decide +kernel
theorem dX11_runTrial_17 : decode cX11_runTrial 17 = .ok (.iload_n 2, 1) := by decide +kernel
theorem dX11_runTrial_18 : decode cX11_runTrial 18 = .ok (.iaload, 1) := by decide +kernel
theorem dX11_runTrial_19 : decode cX11_runTrial 19 = .ok (.iastore, 1) := by decide +kernel
theorem dX11_runTrial_20 : decode cX11_runTrial 20 = .ok (.iinc 2 1, 3) := by decide +kernel
theorem dX11_runTrial_23 : decode cX11_runTrial 23 = .ok (.goto (-21), 3) := by decide +kernel
theorem dX11_runTrial_26 : decode cX11_runTrial 26 = .ok (.aload_n 0, 1) := by decide +kernel
theorem dX11_runTrial_27 : decode cX11_runTrial 27 = .ok (.aload_n 0, 1) := by decide +kernel
theorem dX11_runTrial_28 : decode cX11_runTrial 28 = .ok (.getfield 286, 3) := by decide +kernel
theorem dX11_runTrial_31 : decode cX11_runTrial 31 = .ok (.invokevirtual 342, 3) := by decide +kernel
theorem dX11_runTrial_34 : decode cX11_runTrial 34 = .ok (.iconst 0, 1) := by decide +kernel
theorem dX11_runTrial_35 : decode cX11_runTrial 35 = .ok (.istore_n 2, 1) := by decide +kernel
theorem dX11_runTrial_36 : decode cX11_runTrial 36 = .ok (.iload_n 2, 1) := by decide +kernel
theorem dX11_runTrial_37 : decode cX11_runTrial 37 = .ok (.aload_n 0, 1) := by decide +kernel
theorem dX11_runTrial_38 : decode cX11_runTrial 38 = .ok (.getfield 292, 3) := by decide +kernel
theorem dX11_runTrial_41 : decode cX11_runTrial 41 = .ok (.arraylength, 1) := by decide +kernel
theorem dX11_runTrial_42 : decode cX11_runTrial 42 = .ok (.if_icmp .ge 16, 3) := by decide +kernel
theorem dX11_runTrial_45 : decode cX11_runTrial 45 = .ok (.aload_n 0, 1) := by decide +kernel
theorem dX11_runTrial_46 : decode cX11_runTrial 46 = .ok (.getfield 292, 3) := by decide +kernel
theorem dX11_runTrial_49 : decode cX11_runTrial 49 = .ok (.iload_n 2, 1) := by decide +kernel
theorem dX11_runTrial_50 : decode cX11_runTrial 50 = .ok (.iconst 0, 1) := by decide +kernel
theorem dX11_runTrial_51 : decode cX11_runTrial 51 = .ok (.iastore, 1) := by decide +kernel
theorem dX11_runTrial_52 : decode cX11_runTrial 52 = .ok (.iinc 2 1, 3) := by decide +kernel
theorem dX11_runTrial_55 : decode cX11_runTrial 55 = .ok (.goto (-19), 3) := by decide +kernel
theorem dX11_runTrial_58 : decode cX11_runTrial 58 = .ok (.iconst 0, 1) := by decide +kernel
theorem dX11_runTrial_59 : decode cX11_runTrial 59 = .ok (.istore_n 2, 1) := by decide +kernel
theorem dX11_runTrial_60 : decode cX11_runTrial 60 = .ok (.iload_n 2, 1) := by decide +kernel
theorem dX11_runTrial_61 : decode cX11_runTrial 61 = .ok (.iload_n 1, 1) := by decide +kernel
theorem dX11_runTrial_62 : decode cX11_runTrial 62 = .ok (.if_icmp .ge 18, 3) := by decide +kernel
theorem dX11_runTrial_65 : decode cX11_runTrial 65 = .ok (.aload_n 0, 1) := by decide +kernel
theorem dX11_runTrial_66 : decode cX11_runTrial 66 = .ok (.aload_n 0, 1) := by decide +kernel
theorem dX11_runTrial_67 : decode cX11_runTrial 67 = .ok (.getfield 286, 3) := by decide +kernel
theorem dX11_runTrial_70 : decode cX11_runTrial 70 = .ok (.invokevirtual 484, 3) := by decide +kernel
theorem dX11_runTrial_73 : decode cX11_runTrial 73 = .ok (.pop2, 1) := by decide +kernel
theorem dX11_runTrial_74 : decode cX11_runTrial 74 = .ok (.iinc 2 1, 3) := by decide +kernel
theorem dX11_runTrial_77 : decode cX11_runTrial 77 = .ok (.goto (-17), 3) := by decide +kernel
theorem dX11_runTrial_80 : decode cX11_runTrial 80 = .ok (.return_, 1) := by decide +kernel
theorem dX11_worthOf_0 : decode cX11_worthOf 0 = .ok (.aload_n 0, 1) := by decide +kernel
theorem dX11_worthOf_1 : decode cX11_worthOf 1 = .ok (.bipush 50, 2) := by decide +kernel
theorem dX11_worthOf_3 : decode cX11_worthOf 3 = .ok (.iload_n 1, 1) := by decide +kernel
theorem dX11_worthOf_4 : decode cX11_worthOf 4 = .ok (.imul, 1) := by decide +kernel
theorem dX11_worthOf_5 : decode cX11_worthOf 5 = .ok (.putfield 273, 3) := by decide +kernel
theorem dX11_worthOf_8 : decode cX11_worthOf 8 = .ok (.aload_n 0, 1) := by decide +kernel
theorem dX11_worthOf_9 : decode cX11_worthOf 9 = .ok (.invokevirtual 350, 3) := by decide +kernel
theorem dX11_worthOf_12 : decode cX11_worthOf 12 = .ok (.aload_n 0, 1) := by decide +kernel
theorem dX11_worthOf_13 : decode cX11_worthOf 13 = .ok (.bipush 7, 2) := by decide +kernel
theorem dX11_worthOf_15 : decode cX11_worthOf 15 = .ok (.iload_n 2, 1) := by decide +kernel
theorem dX11_worthOf_16 : decode cX11_worthOf 16 = .ok (.imul, 1) := by decide +kernel
theorem dX11_worthOf_17 : decode cX11_worthOf 17 = .ok (.invokevirtual 497, 3) := by decide +kernel
theorem dX11_worthOf_20 : decode cX11_worthOf 20 = .ok (.aload_n 0, 1) := by decide +kernel
theorem dX11_worthOf_21 : decode cX11_worthOf 21 = .ok (.iconst (-1), 1) := by decide +kernel
theorem dX11_worthOf_22 : decode cX11_worthOf 22 = .ok (.putfield 273, 3) := by decide +kernel
theorem dX11_worthOf_25 : decode cX11_worthOf 25 = .ok (.aload_n 0, 1) := by decide +kernel
theorem dX11_worthOf_26 : decode cX11_worthOf 26 = .ok (.invokevirtual 350, 3) := by decide +kernel
theorem dX11_worthOf_29 : decode cX11_worthOf 29 = .ok (.iconst 0, 1) := by decide +kernel
theorem dX11_worthOf_30 : decode cX11_worthOf 30 = .ok (.istore_n 3, 1) := by decide +kernel
theorem dX11_worthOf_31 : decode cX11_worthOf 31 = .ok (.iconst 0, 1) := by decide +kernel
theorem dX11_worthOf_32 : decode cX11_worthOf 32 = .ok (.istore 4, 2) := by decide +kernel
theorem dX11_worthOf_34 : decode cX11_worthOf 34 = .ok (.iload 4, 2) := by decide +kernel
theorem dX11_worthOf_36 : decode cX11_worthOf 36 = .ok (.aload_n 0, 1) := by decide +kernel
theorem dX11_worthOf_37 : decode cX11_worthOf 37 = .ok (.getfield 329, 3) := by decide +kernel
theorem dX11_worthOf_40 : decode cX11_worthOf 40 = .ok (.if_icmp .ge 22, 3) := by decide +kernel
theorem dX11_worthOf_43 : decode cX11_worthOf 43 = .ok (.iload_n 3, 1) := by decide +kernel
theorem dX11_worthOf_44 : decode cX11_worthOf 44 = .ok (.aload_n 0, 1) := by decide +kernel
theorem dX11_worthOf_45 : decode cX11_worthOf 45 = .ok (.getfield 286, 3) := by decide +kernel
theorem dX11_worthOf_48 : decode cX11_worthOf 48 = .ok (.bipush 16, 2) := by decide +kernel
theorem dX11_worthOf_50 : decode cX11_worthOf 50 = .ok (.iload 4, 2) := by decide +kernel
theorem dX11_worthOf_52 : decode cX11_worthOf 52 = .ok (.iadd, 1) := by decide +kernel
theorem dX11_worthOf_53 : decode cX11_worthOf 53 = .ok (.iaload, 1) := by decide +kernel
theorem dX11_worthOf_54 : decode cX11_worthOf 54 = .ok (.iadd, 1) := by decide +kernel
theorem dX11_worthOf_55 : decode cX11_worthOf 55 = .ok (.istore_n 3, 1) := by decide +kernel
theorem dX11_worthOf_56 : decode cX11_worthOf 56 = .ok (.iinc 4 1, 3) := by decide +kernel
theorem dX11_worthOf_59 : decode cX11_worthOf 59 = .ok (.goto (-25), 3) := by decide +kernel
theorem dX11_worthOf_62 : decode cX11_worthOf 62 = .ok (.iload_n 3, 1) := by decide +kernel
theorem dX11_worthOf_63 : decode cX11_worthOf 63 = .ok (.ireturn, 1) := by decide +kernel
theorem dX11_worthAt_0 : decode cX11_worthAt 0 = .ok (.iload_n 1, 1) := by decide +kernel
theorem dX11_worthAt_1 : decode cX11_worthAt 1 = .ok (.i2l, 1) := by decide +kernel
theorem dX11_worthAt_2 : decode cX11_worthAt 2 = .ok (.lconst 0, 1) := by decide +kernel
theorem dX11_worthAt_3 : decode cX11_worthAt 3 = .ok (.ldc2_w 500, 3) := by decide +kernel
theorem dX11_worthAt_6 : decode cX11_worthAt 6 = .ok (.invokestatic 52, 3) := by decide +kernel
theorem dX11_worthAt_9 : decode cX11_worthAt 9 = .ok (.ifCond .eq 24, 3) := by decide +kernel
theorem dX11_worthAt_12 : decode cX11_worthAt 12 = .ok (.iload_n 2, 1) := by decide +kernel
theorem dX11_worthAt_13 : decode cX11_worthAt 13 = .ok (.i2l, 1) := by decide +kernel
theorem dX11_worthAt_14 : decode cX11_worthAt 14 = .ok (.lconst 1, 1) := by decide +kernel
theorem dX11_worthAt_15 : decode cX11_worthAt 15 = .ok (.ldc2_w 452, 3) := by decide +kernel
theorem dX11_worthAt_18 : decode cX11_worthAt 18 = .ok (.invokestatic 52, 3) := by decide +kernel
theorem dX11_worthAt_21 : decode cX11_worthAt 21 = .ok (.ifCond .eq 12, 3) := by decide +kernel
theorem dX11_worthAt_24 : decode cX11_worthAt 24 = .ok (.aload_n 0, 1) := by decide +kernel
theorem dX11_worthAt_25 : decode cX11_worthAt 25 = .ok (.iload_n 1, 1) := by decide +kernel
theorem dX11_worthAt_26 : decode cX11_worthAt 26 = .ok (.iload_n 2, 1) := by decide +kernel
theorem dX11_worthAt_27 : decode cX11_worthAt 27 = .ok (.invokevirtual 502, 3) := by decide +kernel
theorem dX11_worthAt_30 : decode cX11_worthAt 30 = .ok (.goto 5, 3) := by decide +kernel
theorem dX11_worthAt_33 : decode cX11_worthAt 33 = .ok (.bipush (-2), 2) := by decide +kernel
theorem dX11_worthAt_35 : decode cX11_worthAt 35 = .ok (.ireturn, 1) := by decide +kernel
theorem dX11_rate_0 : decode cX11_rate 0 = .ok (.iload_n 1, 1) := by decide +kernel
theorem dX11_rate_1 : decode cX11_rate 1 = .ok (.i2l, 1) := by decide +kernel
theorem dX11_rate_2 : decode cX11_rate 2 = .ok (.lconst 1, 1) := by decide +kernel
theorem dX11_rate_3 : decode cX11_rate 3 = .ok (.ldc2_w 452, 3) := by decide +kernel
theorem dX11_rate_6 : decode cX11_rate 6 = .ok (.invokestatic 52, 3) := by decide +kernel
theorem dX11_rate_9 : decode cX11_rate 9 = .ok (.ifCond .ne 6, 3) := by decide +kernel
theorem dX11_rate_12 : decode cX11_rate 12 = .ok (.bipush (-2), 2) := by decide +kernel
theorem dX11_rate_14 : decode cX11_rate 14 = .ok (.ireturn, 1) := by decide +kernel
theorem dX11_rate_15 : decode cX11_rate 15 = .ok (.iconst 0, 1) := by decide +kernel
theorem dX11_rate_16 : decode cX11_rate 16 = .ok (.istore_n 2, 1) := by decide +kernel
theorem dX11_rate_17 : decode cX11_rate 17 = .ok (.iconst (-1), 1) := by decide +kernel
theorem dX11_rate_18 : decode cX11_rate 18 = .ok (.istore_n 3, 1) := by decide +kernel
theorem dX11_rate_19 : decode cX11_rate 19 = .ok (.iconst 0, 1) := by decide +kernel
theorem dX11_rate_20 : decode cX11_rate 20 = .ok (.istore 4, 2) := by decide +kernel
theorem dX11_rate_22 : decode cX11_rate 22 = .ok (.iload 4, 2) := by decide +kernel
theorem dX11_rate_24 : decode cX11_rate 24 = .ok (.bipush 19, 2) := by decide +kernel
theorem dX11_rate_26 : decode cX11_rate 26 = .ok (.if_icmp .ge 33, 3) := by decide +kernel
theorem dX11_rate_29 : decode cX11_rate 29 = .ok (.aload_n 0, 1) := by decide +kernel
theorem dX11_rate_30 : decode cX11_rate 30 = .ok (.iload 4, 2) := by decide +kernel
theorem dX11_rate_32 : decode cX11_rate 32 = .ok (.iload_n 1, 1) := by decide +kernel
theorem dX11_rate_33 : decode cX11_rate 33 = .ok (.invokevirtual 502, 3) := by decide +kernel
theorem dX11_rate_36 : decode cX11_rate 36 = .ok (.istore 5, 2) := by decide +kernel
theorem dX11_rate_38 : decode cX11_rate 38 = .ok (.iload 5, 2) := by decide +kernel
theorem dX11_rate_40 : decode cX11_rate 40 = .ok (.iload_n 3, 1) := by decide +kernel
theorem dX11_rate_41 : decode cX11_rate 41 = .ok (.if_icmp .gt 6, 3) := by decide +kernel
theorem dX11_rate_44 : decode cX11_rate 44 = .ok (.goto 9, 3) := by decide +kernel
theorem dX11_rate_47 : decode cX11_rate 47 = .ok (.iload 5, 2) := by decide +kernel
theorem dX11_rate_49 : decode cX11_rate 49 = .ok (.istore_n 3, 1) := by decide +kernel
theorem dX11_rate_50 : decode cX11_rate 50 = .ok (.iload 4, 2) := by decide +kernel
theorem dX11_rate_52 : decode cX11_rate 52 = .ok (.istore_n 2, 1) := by decide +kernel
theorem dX11_rate_53 : decode cX11_rate 53 = .ok (.iinc 4 1, 3) := by decide +kernel
theorem dX11_rate_56 : decode cX11_rate 56 = .ok (.goto (-34), 3) := by decide +kernel
theorem dX11_rate_59 : decode cX11_rate 59 = .ok (.iload_n 2, 1) := by decide +kernel
theorem dX11_rate_60 : decode cX11_rate 60 = .ok (.ireturn, 1) := by decide +kernel
theorem dX11_turn_0 : decode cX11_turn 0 = .ok (.aload_n 0, 1) := by decide +kernel
theorem dX11_turn_1 : decode cX11_turn 1 = .ok (.iconst 1, 1) := by decide +kernel
theorem dX11_turn_2 : decode cX11_turn 2 = .ok (.putfield 470, 3) := by decide +kernel
theorem dX11_turn_5 : decode cX11_turn 5 = .ok (.aload_n 0, 1) := by decide +kernel
theorem dX11_turn_6 : decode cX11_turn 6 = .ok (.bipush 7, 2) := by decide +kernel
theorem dX11_turn_8 : decode cX11_turn 8 = .ok (.invokevirtual 497, 3) := by decide +kernel
theorem dX11_turn_11 : decode cX11_turn 11 = .ok (.aload_n 0, 1) := by decide +kernel
theorem dX11_turn_12 : decode cX11_turn 12 = .ok (.iconst 0, 1) := by decide +kernel
theorem dX11_turn_13 : decode cX11_turn 13 = .ok (.putfield 470, 3) := by decide +kernel
theorem dX11_turn_16 : decode cX11_turn 16 = .ok (.iconst 0, 1) := by decide +kernel
theorem dX11_turn_17 : decode cX11_turn 17 = .ok (.istore_n 1, 1) := by decide +kernel
theorem dX11_turn_18 : decode cX11_turn 18 = .ok (.iconst 0, 1) := by decide +kernel
theorem dX11_turn_19 : decode cX11_turn 19 = .ok (.istore_n 2, 1) := by decide +kernel
theorem dX11_turn_20 : decode cX11_turn 20 = .ok (.iload_n 2, 1) := by decide +kernel
theorem dX11_turn_21 : decode cX11_turn 21 = .ok (.bipush 7, 2) := by decide +kernel
theorem dX11_turn_23 : decode cX11_turn 23 = .ok (.aload_n 0, 1) := by decide +kernel
theorem dX11_turn_24 : decode cX11_turn 24 = .ok (.getfield 332, 3) := by decide +kernel
theorem dX11_turn_27 : decode cX11_turn 27 = .ok (.imul, 1) := by decide +kernel
theorem dX11_turn_28 : decode cX11_turn 28 = .ok (.if_icmp .ge 117, 3) := by decide +kernel
theorem dX11_turn_31 : decode cX11_turn 31 = .ok (.aload_n 0, 1) := by decide +kernel
theorem dX11_turn_32 : decode cX11_turn 32 = .ok (.getfield 259, 3) := by decide +kernel
theorem dX11_turn_35 : decode cX11_turn 35 = .ok (.iload_n 2, 1) := by decide +kernel
theorem dX11_turn_36 : decode cX11_turn 36 = .ok (.iaload, 1) := by decide +kernel
theorem dX11_turn_37 : decode cX11_turn 37 = .ok (.iconst (-1), 1) := by decide +kernel
theorem dX11_turn_38 : decode cX11_turn 38 = .ok (.if_icmp .ne 6, 3) := by decide +kernel
theorem dX11_turn_41 : decode cX11_turn 41 = .ok (.goto 98, 3) := by decide +kernel
theorem dX11_turn_44 : decode cX11_turn 44 = .ok (.aload_n 0, 1) := by decide +kernel
theorem dX11_turn_45 : decode cX11_turn 45 = .ok (.getfield 292, 3) := by decide +kernel
theorem dX11_turn_48 : decode cX11_turn 48 = .ok (.iload_n 2, 1) := by decide +kernel
theorem dX11_turn_49 : decode cX11_turn 49 = .ok (.iaload, 1) := by decide +kernel
theorem dX11_turn_50 : decode cX11_turn 50 = .ok (.aload_n 0, 1) := by decide +kernel
theorem dX11_turn_51 : decode cX11_turn 51 = .ok (.getfield 259, 3) := by decide +kernel
theorem dX11_turn_54 : decode cX11_turn 54 = .ok (.iload_n 2, 1) := by decide +kernel
theorem dX11_turn_55 : decode cX11_turn 55 = .ok (.iaload, 1) := by decide +kernel
theorem dX11_turn_56 : decode cX11_turn 56 = .ok (.if_icmp .le 19, 3) := by decide +kernel
theorem dX11_turn_59 : decode cX11_turn 59 = .ok (.bipush 20, 2) := by decide +kernel
theorem dX11_turn_61 : decode cX11_turn 61 = .ok (.aload_n 0, 1) := by decide +kernel
theorem dX11_turn_62 : decode cX11_turn 62 = .ok (.getfield 257, 3) := by decide +kernel
theorem dX11_turn_65 : decode cX11_turn 65 = .ok (.iload_n 2, 1) := by decide +kernel
theorem dX11_turn_66 : decode cX11_turn 66 = .ok (.iaload, 1) := by decide +kernel
theorem dX11_turn_67 : decode cX11_turn 67 = .ok (.iconst 1, 1) := by decide +kernel
theorem dX11_turn_68 : decode cX11_turn 68 = .ok (.iadd, 1) := by decide +kernel
theorem dX11_turn_69 : decode cX11_turn 69 = .ok (.invokestatic 417, 3) := by decide +kernel
theorem dX11_turn_72 : decode cX11_turn 72 = .ok (.goto 39, 3) := by decide +kernel
theorem dX11_turn_75 : decode cX11_turn 75 = .ok (.aload_n 0, 1) := by decide +kernel
theorem dX11_turn_76 : decode cX11_turn 76 = .ok (.getfield 292, 3) := by decide +kernel
theorem dX11_turn_79 : decode cX11_turn 79 = .ok (.iload_n 2, 1) := by decide +kernel
theorem dX11_turn_80 : decode cX11_turn 80 = .ok (.iaload, 1) := by decide +kernel
theorem dX11_turn_81 : decode cX11_turn 81 = .ok (.aload_n 0, 1) := by decide +kernel
theorem dX11_turn_82 : decode cX11_turn 82 = .ok (.getfield 259, 3) := by decide +kernel
theorem dX11_turn_85 : decode cX11_turn 85 = .ok (.iload_n 2, 1) := by decide +kernel
theorem dX11_turn_86 : decode cX11_turn 86 = .ok (.iaload, 1) := by decide +kernel
theorem dX11_turn_87 : decode cX11_turn 87 = .ok (.if_icmp .ge 18, 3) := by decide +kernel
theorem dX11_turn_90 : decode cX11_turn 90 = .ok (.iconst 1, 1) := by decide +kernel
theorem dX11_turn_91 : decode cX11_turn 91 = .ok (.aload_n 0, 1) := by decide +kernel
theorem dX11_turn_92 : decode cX11_turn 92 = .ok (.getfield 257, 3) := by decide +kernel
theorem dX11_turn_95 : decode cX11_turn 95 = .ok (.iload_n 2, 1) := by decide +kernel
theorem dX11_turn_96 : decode cX11_turn 96 = .ok (.iaload, 1) := by decide +kernel
theorem dX11_turn_97 : decode cX11_turn 97 = .ok (.iconst 1, 1) := by decide +kernel
theorem dX11_turn_98 : decode cX11_turn 98 = .ok (.isub, 1) := by decide +kernel
theorem dX11_turn_99 : decode cX11_turn 99 = .ok (.invokestatic 387, 3) := by decide +kernel
theorem dX11_turn_102 : decode cX11_turn 102 = .ok (.goto 9, 3) := by decide +kernel
theorem dX11_turn_105 : decode cX11_turn 105 = .ok (.aload_n 0, 1) := by decide +kernel
theorem dX11_turn_106 : decode cX11_turn 106 = .ok (.getfield 257, 3) := by decide +kernel
theorem dX11_turn_109 : decode cX11_turn 109 = .ok (.iload_n 2, 1) := by decide +kernel
theorem dX11_turn_110 : decode cX11_turn 110 = .ok (.iaload, 1) := by decide +kernel
theorem dX11_turn_111 : decode cX11_turn 111 = .ok (.istore_n 3, 1) := by decide +kernel
theorem dX11_turn_112 : decode cX11_turn 112 = .ok (.iload_n 1, 1) := by decide +kernel
theorem dX11_turn_113 : decode cX11_turn 113 = .ok (.ifCond .ne 13, 3) := by decide +kernel
theorem dX11_turn_116 : decode cX11_turn 116 = .ok (.iload_n 3, 1) := by decide +kernel
theorem dX11_turn_117 : decode cX11_turn 117 = .ok (.aload_n 0, 1) := by decide +kernel
theorem dX11_turn_118 : decode cX11_turn 118 = .ok (.getfield 257, 3) := by decide +kernel
theorem dX11_turn_121 : decode cX11_turn 121 = .ok (.iload_n 2, 1) := by decide +kernel
theorem dX11_turn_122 : decode cX11_turn 122 = .ok (.iaload, 1) := by decide +kernel
theorem dX11_turn_123 : decode cX11_turn 123 = .ok (.if_icmp .eq 7, 3) := by decide +kernel
theorem dX11_turn_126 : decode cX11_turn 126 = .ok (.iconst 1, 1) := by decide +kernel
theorem dX11_turn_127 : decode cX11_turn 127 = .ok (.goto 4, 3) := by decide +kernel
theorem dX11_turn_130 : decode cX11_turn 130 = .ok (.iconst 0, 1) := by decide +kernel
theorem dX11_turn_131 : decode cX11_turn 131 = .ok (.istore_n 1, 1) := by decide +kernel
theorem dX11_turn_132 : decode cX11_turn 132 = .ok (.aload_n 0, 1) := by decide +kernel
theorem dX11_turn_133 : decode cX11_turn 133 = .ok (.getfield 257, 3) := by decide +kernel
theorem dX11_turn_136 : decode cX11_turn 136 = .ok (.iload_n 2, 1) := by decide +kernel
theorem dX11_turn_137 : decode cX11_turn 137 = .ok (.iload_n 3, 1) := by decide +kernel
theorem dX11_turn_138 : decode cX11_turn 138 = .ok (.iastore, 1) := by decide +kernel
theorem dX11_turn_139 : decode cX11_turn 139 = .ok (.iinc 2 1, 3) := by decide +kernel
theorem dX11_turn_142 : decode cX11_turn 142 = .ok (.goto (-122), 3) := by decide +kernel
theorem dX11_turn_145 : decode cX11_turn 145 = .ok (.aload_n 0, 1) := by decide +kernel
theorem dX11_turn_146 : decode cX11_turn 146 = .ok (.invokevirtual 350, 3) := by decide +kernel
theorem dX11_turn_149 : decode cX11_turn 149 = .ok (.iload_n 1, 1) := by decide +kernel
theorem dX11_turn_150 : decode cX11_turn 150 = .ok (.ireturn, 1) := by decide +kernel
theorem dX11_rest_0 : decode cX11_rest 0 = .ok (.iload_n 1, 1) := by decide +kernel
theorem dX11_rest_1 : decode cX11_rest 1 = .ok (.i2l, 1) := by decide +kernel
theorem dX11_rest_2 : decode cX11_rest 2 = .ok (.lconst 0, 1) := by decide +kernel
theorem dX11_rest_3 : decode cX11_rest 3 = .ok (.lconst 1, 1) := by decide +kernel
theorem dX11_rest_4 : decode cX11_rest 4 = .ok (.invokestatic 52, 3) := by decide +kernel
theorem dX11_rest_7 : decode cX11_rest 7 = .ok (.ifCond .ne 6, 3) := by decide +kernel
theorem dX11_rest_10 : decode cX11_rest 10 = .ok (.bipush (-2), 2) := by decide +kernel
theorem dX11_rest_12 : decode cX11_rest 12 = .ok (.ireturn, 1) := by decide +kernel
theorem dX11_rest_13 : decode cX11_rest 13 = .ok (.iconst 0, 1) := by decide +kernel
theorem dX11_rest_14 : decode cX11_rest 14 = .ok (.istore_n 2, 1) := by decide +kernel
theorem dX11_rest_15 : decode cX11_rest 15 = .ok (.iload_n 2, 1) := by decide +kernel
theorem dX11_rest_16 : decode cX11_rest 16 = .ok (.bipush 7, 2) := by decide +kernel
theorem dX11_rest_18 : decode cX11_rest 18 = .ok (.aload_n 0, 1) := by decide +kernel
theorem dX11_rest_19 : decode cX11_rest 19 = .ok (.getfield 332, 3) := by decide +kernel
theorem dX11_rest_22 : decode cX11_rest 22 = .ok (.imul, 1) := by decide +kernel
theorem dX11_rest_23 : decode cX11_rest 23 = .ok (.if_icmp .ge 26, 3) := by decide +kernel
theorem dX11_rest_26 : decode cX11_rest 26 = .ok (.iload_n 1, 1) := by decide +kernel
theorem dX11_rest_27 : decode cX11_rest 27 = .ok (.iconst 1, 1) := by decide +kernel
theorem dX11_rest_28 : decode cX11_rest 28 = .ok (.if_icmp .ne 21, 3) := by decide +kernel
theorem dX11_rest_31 : decode cX11_rest 31 = .ok (.aload_n 0, 1) := by decide +kernel
theorem dX11_rest_32 : decode cX11_rest 32 = .ok (.getfield 257, 3) := by decide +kernel
theorem dX11_rest_35 : decode cX11_rest 35 = .ok (.iload_n 2, 1) := by decide +kernel
theorem dX11_rest_36 : decode cX11_rest 36 = .ok (.aload_n 0, 1) := by decide +kernel
theorem dX11_rest_37 : decode cX11_rest 37 = .ok (.getfield 254, 3) := by decide +kernel
theorem dX11_rest_40 : decode cX11_rest 40 = .ok (.iload_n 2, 1) := by decide +kernel
theorem dX11_rest_41 : decode cX11_rest 41 = .ok (.iaload, 1) := by decide +kernel
theorem dX11_rest_42 : decode cX11_rest 42 = .ok (.iastore, 1) := by decide +kernel
theorem dX11_rest_43 : decode cX11_rest 43 = .ok (.iinc 2 1, 3) := by decide +kernel
theorem dX11_rest_46 : decode cX11_rest 46 = .ok (.goto (-31), 3) := by decide +kernel
theorem dX11_rest_49 : decode cX11_rest 49 = .ok (.aload_n 0, 1) := by decide +kernel
theorem dX11_rest_50 : decode cX11_rest 50 = .ok (.invokevirtual 350, 3) := by decide +kernel
theorem dX11_rest_53 : decode cX11_rest 53 = .ok (.aload_n 0, 1) := by decide +kernel
theorem dX11_rest_54 : decode cX11_rest 54 = .ok (.iconst 0, 1) := by decide +kernel
theorem dX11_rest_55 : decode cX11_rest 55 = .ok (.putfield 304, 3) := by decide +kernel
theorem dX11_rest_58 : decode cX11_rest 58 = .ok (.iconst 1, 1) := by decide +kernel
theorem dX11_rest_59 : decode cX11_rest 59 = .ok (.istore_n 2, 1) := by decide +kernel
theorem dX11_rest_60 : decode cX11_rest 60 = .ok (.iload_n 2, 1) := by decide +kernel
theorem dX11_rest_61 : decode cX11_rest 61 = .ok (.ifCond .eq 30, 3) := by decide +kernel
theorem dX11_rest_64 : decode cX11_rest 64 = .ok (.aload_n 0, 1) := by decide +kernel
theorem dX11_rest_65 : decode cX11_rest 65 = .ok (.getfield 304, 3) := by decide +kernel
theorem dX11_rest_68 : decode cX11_rest 68 = .ok (.bipush 60, 2) := by decide +kernel
theorem dX11_rest_70 : decode cX11_rest 70 = .ok (.if_icmp .ge 21, 3) := by decide +kernel
theorem dX11_rest_73 : decode cX11_rest 73 = .ok (.aload_n 0, 1) := by decide +kernel
theorem dX11_rest_74 : decode cX11_rest 74 = .ok (.invokevirtual 505, 3) := by decide +kernel
theorem dX11_rest_77 : decode cX11_rest 77 = .ok (.istore_n 2, 1) := by decide +kernel
theorem dX11_rest_78 : decode cX11_rest 78 = .ok (.aload_n 0, 1) := by decide +kernel
theorem dX11_rest_79 : decode cX11_rest 79 = .ok (.dup, 1) := by decide +kernel
theorem dX11_rest_80 : decode cX11_rest 80 = .ok (.getfield 304, 3) := by decide +kernel
theorem dX11_rest_83 : decode cX11_rest 83 = .ok (.iconst 1, 1) := by decide +kernel
theorem dX11_rest_84 : decode cX11_rest 84 = .ok (.iadd, 1) := by decide +kernel
theorem dX11_rest_85 : decode cX11_rest 85 = .ok (.putfield 304, 3) := by decide +kernel
theorem dX11_rest_88 : decode cX11_rest 88 = .ok (.goto (-28), 3) := by decide +kernel
theorem dX11_rest_91 : decode cX11_rest 91 = .ok (.iload_n 2, 1) := by decide +kernel
theorem dX11_rest_92 : decode cX11_rest 92 = .ok (.ifCond .eq 7, 3) := by decide +kernel
theorem dX11_rest_95 : decode cX11_rest 95 = .ok (.iconst 0, 1) := by decide +kernel
theorem dX11_rest_96 : decode cX11_rest 96 = .ok (.goto 4, 3) := by decide +kernel
theorem dX11_rest_99 : decode cX11_rest 99 = .ok (.iconst 1, 1) := by decide +kernel
theorem dX11_rest_100 : decode cX11_rest 100 = .ok (.ireturn, 1) := by decide +kernel
theorem dX11_restTurns_0 : decode cX11_restTurns 0 = .ok (.aload_n 0, 1) := by decide +kernel
theorem dX11_restTurns_1 : decode cX11_restTurns 1 = .ok (.getfield 304, 3) := by decide +kernel
theorem dX11_restTurns_4 : decode cX11_restTurns 4 = .ok (.ireturn, 1) := by decide +kernel
theorem dX11_follow_0 : decode cX11_follow 0 = .ok (.aload_n 0, 1) := by decide +kernel
theorem dX11_follow_1 : decode cX11_follow 1 = .ok (.getfield 307, 3) := by decide +kernel
theorem dX11_follow_4 : decode cX11_follow 4 = .ok (.bipush 100, 2) := by decide +kernel
theorem dX11_follow_6 : decode cX11_follow 6 = .ok (.iload_n 1, 1) := by decide +kernel
theorem dX11_follow_7 : decode cX11_follow 7 = .ok (.imul, 1) := by decide +kernel
theorem dX11_follow_8 : decode cX11_follow 8 = .ok (.bipush 10, 2) := by decide +kernel
theorem dX11_follow_10 : decode cX11_follow 10 = .ok (.iload_n 2, 1) := by decide +kernel
theorem dX11_follow_11 : decode cX11_follow 11 = .ok (.ifCond .le 18, 3) := by decide +kernel
theorem dX11_follow_14 : decode cX11_follow 14 = .ok (.iload_n 1, 1) := by decide +kernel
theorem dX11_follow_15 : decode cX11_follow 15 = .ok (.iconst 1, 1) := by decide +kernel
theorem dX11_follow_16 : decode cX11_follow 16 = .ok (.iadd, 1) := by decide +kernel
theorem dX11_follow_17 : decode cX11_follow 17 = .ok (.iload 4, 2) := by decide +kernel
theorem dX11_follow_19 : decode cX11_follow 19 = .ok (.irem, 1) := by decide +kernel
theorem dX11_follow_20 : decode cX11_follow 20 = .ok (.ifCond .ne 9, 3) := by decide +kernel
theorem dX11_follow_23 : decode cX11_follow 23 = .ok (.iload_n 2, 1) := by decide +kernel
theorem dX11_follow_24 : decode cX11_follow 24 = .ok (.iconst 1, 1) := by decide +kernel
theorem dX11_follow_25 : decode cX11_follow 25 = .ok (.isub, 1) := by decide +kernel
theorem dX11_follow_26 : decode cX11_follow 26 = .ok (.goto 4, 3) := by decide +kernel
theorem dX11_follow_29 : decode cX11_follow 29 = .ok (.iload_n 2, 1) := by decide +kernel
theorem dX11_follow_30 : decode cX11_follow 30 = .ok (.imul, 1) := by decide +kernel
theorem dX11_follow_31 : decode cX11_follow 31 = .ok (.iadd, 1) := by decide +kernel
theorem dX11_follow_32 : decode cX11_follow 32 = .ok (.iload_n 3, 1) := by decide +kernel
theorem dX11_follow_33 : decode cX11_follow 33 = .ok (.iadd, 1) := by decide +kernel
theorem dX11_follow_34 : decode cX11_follow 34 = .ok (.iaload, 1) := by decide +kernel
theorem dX11_follow_35 : decode cX11_follow 35 = .ok (.ireturn, 1) := by decide +kernel
theorem dX11_offer_0 : decode cX11_offer 0 = .ok (.aload_n 0, 1) := by decide +kernel
theorem dX11_offer_1 : decode cX11_offer 1 = .ok (.iload_n 1, 1) := by decide +kernel
theorem dX11_offer_2 : decode cX11_offer 2 = .ok (.iconst 1, 1) := by decide +kernel
theorem dX11_offer_3 : decode cX11_offer 3 = .ok (.isub, 1) := by decide +kernel
theorem dX11_offer_4 : decode cX11_offer 4 = .ok (.iload_n 2, 1) := by decide +kernel
theorem dX11_offer_5 : decode cX11_offer 5 = .ok (.iload_n 3, 1) := by decide +kernel
theorem dX11_offer_6 : decode cX11_offer 6 = .ok (.iload 6, 2) := by decide +kernel
theorem dX11_offer_8 : decode cX11_offer 8 = .ok (.invokevirtual 508, 3) := by decide +kernel
theorem dX11_offer_11 : decode cX11_offer 11 = .ok (.istore 7, 2) := by decide +kernel
theorem dX11_offer_13 : decode cX11_offer 13 = .ok (.iload_n 2, 1) := by decide +kernel
theorem dX11_offer_14 : decode cX11_offer 14 = .ok (.ifCond .ne 7, 3) := by decide +kernel
theorem dX11_offer_17 : decode cX11_offer 17 = .ok (.iconst (-1), 1) := by decide +kernel
theorem dX11_offer_18 : decode cX11_offer 18 = .ok (.goto 35, 3) := by decide +kernel
theorem dX11_offer_21 : decode cX11_offer 21 = .ok (.iload 4, 2) := by decide +kernel
theorem dX11_offer_23 : decode cX11_offer 23 = .ok (.sipush 1000, 3) := by decide +kernel
theorem dX11_offer_26 : decode cX11_offer 26 = .ok (.aload_n 0, 1) := by decide +kernel
theorem dX11_offer_27 : decode cX11_offer 27 = .ok (.iload_n 1, 1) := by decide +kernel
theorem dX11_offer_28 : decode cX11_offer 28 = .ok (.iconst 1, 1) := by decide +kernel
theorem dX11_offer_29 : decode cX11_offer 29 = .ok (.isub, 1) := by decide +kernel
theorem dX11_offer_30 : decode cX11_offer 30 = .ok (.iload_n 2, 1) := by decide +kernel
theorem dX11_offer_31 : decode cX11_offer 31 = .ok (.iconst 1, 1) := by decide +kernel
theorem dX11_offer_32 : decode cX11_offer 32 = .ok (.isub, 1) := by decide +kernel
theorem dX11_offer_33 : decode cX11_offer 33 = .ok (.iload_n 3, 1) := by decide +kernel
theorem dX11_offer_34 : decode cX11_offer 34 = .ok (.iload 6, 2) := by decide +kernel
theorem dX11_offer_36 : decode cX11_offer 36 = .ok (.invokevirtual 508, 3) := by decide +kernel
theorem dX11_offer_39 : decode cX11_offer 39 = .ok (.iadd, 1) := by decide +kernel
theorem dX11_offer_40 : decode cX11_offer 40 = .ok (.imul, 1) := by decide +kernel
theorem dX11_offer_41 : decode cX11_offer 41 = .ok (.bipush 100, 2) := by decide +kernel
theorem dX11_offer_43 : decode cX11_offer 43 = .ok (.iload 4, 2) := by decide +kernel
theorem dX11_offer_45 : decode cX11_offer 45 = .ok (.isub, 1) := by decide +kernel
theorem dX11_offer_46 : decode cX11_offer 46 = .ok (.iload 7, 2) := by decide +kernel
theorem dX11_offer_48 : decode cX11_offer 48 = .ok (.imul, 1) := by decide +kernel
theorem dX11_offer_49 : decode cX11_offer 49 = .ok (.iadd, 1) := by decide +kernel
theorem dX11_offer_50 : decode cX11_offer 50 = .ok (.bipush 100, 2) := by decide +kernel
theorem dX11_offer_52 : decode cX11_offer 52 = .ok (.idiv, 1) := by decide +kernel
theorem dX11_offer_53 : decode cX11_offer 53 = .ok (.istore 8, 2) := by decide +kernel
theorem dX11_offer_55 : decode cX11_offer 55 = .ok (.iload_n 3, 1) := by decide +kernel
theorem dX11_offer_56 : decode cX11_offer 56 = .ok (.ifCond .ne 7, 3) := by decide +kernel
theorem dX11_offer_59 : decode cX11_offer 59 = .ok (.iconst (-1), 1) := by decide +kernel
theorem dX11_offer_60 : decode cX11_offer 60 = .ok (.goto 35, 3) := by decide +kernel
theorem dX11_offer_63 : decode cX11_offer 63 = .ok (.iload 5, 2) := by decide +kernel
theorem dX11_offer_65 : decode cX11_offer 65 = .ok (.sipush 1000, 3) := by decide +kernel
theorem dX11_offer_68 : decode cX11_offer 68 = .ok (.aload_n 0, 1) := by decide +kernel
theorem dX11_offer_69 : decode cX11_offer 69 = .ok (.iload_n 1, 1) := by decide +kernel
theorem dX11_offer_70 : decode cX11_offer 70 = .ok (.iconst 1, 1) := by decide +kernel
theorem dX11_offer_71 : decode cX11_offer 71 = .ok (.isub, 1) := by decide +kernel
theorem dX11_offer_72 : decode cX11_offer 72 = .ok (.iload_n 2, 1) := by decide +kernel
theorem dX11_offer_73 : decode cX11_offer 73 = .ok (.iload_n 3, 1) := by decide +kernel
theorem dX11_offer_74 : decode cX11_offer 74 = .ok (.iconst 1, 1) := by decide +kernel
theorem dX11_offer_75 : decode cX11_offer 75 = .ok (.isub, 1) := by decide +kernel
theorem dX11_offer_76 : decode cX11_offer 76 = .ok (.iload 6, 2) := by decide +kernel
theorem dX11_offer_78 : decode cX11_offer 78 = .ok (.invokevirtual 508, 3) := by decide +kernel
theorem dX11_offer_81 : decode cX11_offer 81 = .ok (.iadd, 1) := by decide +kernel
theorem dX11_offer_82 : decode cX11_offer 82 = .ok (.imul, 1) := by decide +kernel
theorem dX11_offer_83 : decode cX11_offer 83 = .ok (.bipush 100, 2) := by decide +kernel
theorem dX11_offer_85 : decode cX11_offer 85 = .ok (.iload 5, 2) := by decide +kernel
theorem dX11_offer_87 : decode cX11_offer 87 = .ok (.isub, 1) := by decide +kernel
theorem dX11_offer_88 : decode cX11_offer 88 = .ok (.iload 7, 2) := by decide +kernel
theorem dX11_offer_90 : decode cX11_offer 90 = .ok (.imul, 1) := by decide +kernel
theorem dX11_offer_91 : decode cX11_offer 91 = .ok (.iadd, 1) := by decide +kernel
theorem dX11_offer_92 : decode cX11_offer 92 = .ok (.bipush 100, 2) := by decide +kernel
theorem dX11_offer_94 : decode cX11_offer 94 = .ok (.idiv, 1) := by decide +kernel
theorem dX11_offer_95 : decode cX11_offer 95 = .ok (.istore 9, 2) := by decide +kernel
theorem dX11_offer_97 : decode cX11_offer 97 = .ok (.aload_n 0, 1) := by decide +kernel
theorem dX11_offer_98 : decode cX11_offer 98 = .ok (.iload 8, 2) := by decide +kernel
theorem dX11_offer_100 : decode cX11_offer 100 = .ok (.iload 9, 2) := by decide +kernel
theorem dX11_offer_102 : decode cX11_offer 102 = .ok (.if_icmp .lt 7, 3) := by decide +kernel
theorem dX11_offer_105 : decode cX11_offer 105 = .ok (.iconst 1, 1) := by decide +kernel
theorem dX11_offer_106 : decode cX11_offer 106 = .ok (.goto 4, 3) := by decide +kernel
theorem dX11_offer_109 : decode cX11_offer 109 = .ok (.iconst 0, 1) := by decide +kernel
theorem dX11_offer_110 : decode cX11_offer 110 = .ok (.putfield 512, 3) := by decide +kernel
theorem dX11_offer_113 : decode cX11_offer 113 = .ok (.iconst 0, 1) := by decide +kernel
theorem dX11_offer_114 : decode cX11_offer 114 = .ok (.iload 8, 2) := by decide +kernel
theorem dX11_offer_116 : decode cX11_offer 116 = .ok (.iload 9, 2) := by decide +kernel
theorem dX11_offer_118 : decode cX11_offer 118 = .ok (.invokestatic 387, 3) := by decide +kernel
theorem dX11_offer_121 : decode cX11_offer 121 = .ok (.invokestatic 387, 3) := by decide +kernel
theorem dX11_offer_124 : decode cX11_offer 124 = .ok (.ireturn, 1) := by decide +kernel
theorem dX11_two_0 : decode cX11_two 0 = .ok (.iload_n 1, 1) := by decide +kernel
theorem dX11_two_1 : decode cX11_two 1 = .ok (.i2l, 1) := by decide +kernel
theorem dX11_two_2 : decode cX11_two 2 = .ok (.lconst 0, 1) := by decide +kernel
theorem dX11_two_3 : decode cX11_two 3 = .ok (.ldc2_w 515, 3) := by decide +kernel
theorem dX11_two_6 : decode cX11_two 6 = .ok (.invokestatic 52, 3) := by decide +kernel
theorem dX11_two_9 : decode cX11_two 9 = .ok (.ifCond .eq 77, 3) := by decide +kernel
theorem dX11_two_12 : decode cX11_two 12 = .ok (.iload_n 2, 1) := by decide +kernel
theorem dX11_two_13 : decode cX11_two 13 = .ok (.i2l, 1) := by decide +kernel
theorem dX11_two_14 : decode cX11_two 14 = .ok (.lconst 0, 1) := by decide +kernel
theorem dX11_two_15 : decode cX11_two 15 = .ok (.ldc2_w 515, 3) := by decide +kernel
theorem dX11_two_18 : decode cX11_two 18 = .ok (.invokestatic 52, 3) := by decide +kernel
theorem dX11_two_21 : decode cX11_two 21 = .ok (.ifCond .eq 65, 3) := by decide +kernel
theorem dX11_two_24 : decode cX11_two 24 = .ok (.iload_n 3, 1) := by decide +kernel
theorem dX11_two_25 : decode cX11_two 25 = .ok (.i2l, 1) := by decide +kernel
theorem dX11_two_26 : decode cX11_two 26 = .ok (.lconst 0, 1) := by decide +kernel
theorem dX11_two_27 : decode cX11_two 27 = .ok (.ldc2_w 517, 3) := by decide +kernel
theorem dX11_two_30 : decode cX11_two 30 = .ok (.invokestatic 52, 3) := by decide +kernel
theorem dX11_two_33 : decode cX11_two 33 = .ok (.ifCond .eq 53, 3) := by decide +kernel
theorem dX11_two_36 : decode cX11_two 36 = .ok (.iload 4, 2) := by decide +kernel
theorem dX11_two_38 : decode cX11_two 38 = .ok (.i2l, 1) := by decide +kernel
theorem dX11_two_39 : decode cX11_two 39 = .ok (.lconst 0, 1) := by decide +kernel
theorem dX11_two_40 : decode cX11_two 40 = .ok (.ldc2_w 517, 3) := by decide +kernel
theorem dX11_two_43 : decode cX11_two 43 = .ok (.invokestatic 52, 3) := by decide +kernel
theorem dX11_two_46 : decode cX11_two 46 = .ok (.ifCond .eq 40, 3) := by decide +kernel
theorem dX11_two_49 : decode cX11_two 49 = .ok (.iload 5, 2) := by decide +kernel
theorem dX11_two_51 : decode cX11_two 51 = .ok (.i2l, 1) := by decide +kernel
theorem dX11_two_52 : decode cX11_two 52 = .ok (.lconst 0, 1) := by decide +kernel
theorem dX11_two_53 : decode cX11_two 53 = .ok (.ldc2_w 357, 3) := by decide +kernel
theorem dX11_two_56 : decode cX11_two 56 = .ok (.invokestatic 52, 3) := by decide +kernel
theorem dX11_two_59 : decode cX11_two 59 = .ok (.ifCond .eq 27, 3) := by decide +kernel
theorem dX11_two_62 : decode cX11_two 62 = .ok (.iload 6, 2) := by decide +kernel
theorem dX11_two_64 : decode cX11_two 64 = .ok (.i2l, 1) := by decide +kernel
theorem dX11_two_65 : decode cX11_two 65 = .ok (.lconst 1, 1) := by decide +kernel
theorem dX11_two_66 : decode cX11_two 66 = .ok (.ldc2_w 357, 3) := by decide +kernel
theorem dX11_two_69 : decode cX11_two 69 = .ok (.invokestatic 52, 3) := by decide +kernel
theorem dX11_two_72 : decode cX11_two 72 = .ok (.ifCond .eq 14, 3) := by decide +kernel
theorem dX11_two_75 : decode cX11_two 75 = .ok (.iload 7, 2) := by decide +kernel
theorem dX11_two_77 : decode cX11_two 77 = .ok (.i2l, 1) := by decide +kernel
theorem dX11_two_78 : decode cX11_two 78 = .ok (.lconst 0, 1) := by decide +kernel
theorem dX11_two_79 : decode cX11_two 79 = .ok (.lconst 1, 1) := by decide +kernel
theorem dX11_two_80 : decode cX11_two 80 = .ok (.invokestatic 52, 3) := by decide +kernel
theorem dX11_two_83 : decode cX11_two 83 = .ok (.ifCond .ne 6, 3) := by decide +kernel
theorem dX11_two_86 : decode cX11_two 86 = .ok (.bipush (-2), 2) := by decide +kernel
theorem dX11_two_88 : decode cX11_two 88 = .ok (.ireturn, 1) := by decide +kernel
theorem dX11_two_89 : decode cX11_two 89 = .ok (.iconst 0, 1) := by decide +kernel
theorem dX11_two_90 : decode cX11_two 90 = .ok (.istore 8, 2) := by decide +kernel
theorem dX11_two_92 : decode cX11_two 92 = .ok (.iload 8, 2) := by decide +kernel
theorem dX11_two_94 : decode cX11_two 94 = .ok (.bipush 100, 2) := by decide +kernel
theorem dX11_two_96 : decode cX11_two 96 = .ok (.if_icmp .ge 17, 3) := by decide +kernel
theorem dX11_two_99 : decode cX11_two 99 = .ok (.aload_n 0, 1) := by decide +kernel
theorem dX11_two_100 : decode cX11_two 100 = .ok (.getfield 307, 3) := by decide +kernel
theorem dX11_two_103 : decode cX11_two 103 = .ok (.iload 8, 2) := by decide +kernel
theorem dX11_two_105 : decode cX11_two 105 = .ok (.iconst 0, 1) := by decide +kernel
theorem dX11_two_106 : decode cX11_two 106 = .ok (.iastore, 1) := by decide +kernel
theorem dX11_two_107 : decode cX11_two 107 = .ok (.iinc 8 1, 3) := by decide +kernel
theorem dX11_two_110 : decode cX11_two 110 = .ok (.goto (-18), 3) := by decide +kernel
theorem dX11_two_113 : decode cX11_two 113 = .ok (.iconst 1, 1) := by decide +kernel
theorem dX11_two_114 : decode cX11_two 114 = .ok (.istore 8, 2) := by decide +kernel
theorem dX11_two_116 : decode cX11_two 116 = .ok (.iload 8, 2) := by decide +kernel
theorem dX11_two_118 : decode cX11_two 118 = .ok (.iload 5, 2) := by decide +kernel
theorem dX11_two_120 : decode cX11_two 120 = .ok (.if_icmp .gt 59, 3) := by decide +kernel
theorem dX11_two_123 : decode cX11_two 123 = .ok (.iconst 0, 1) := by decide +kernel
theorem dX11_two_124 : decode cX11_two 124 = .ok (.istore 9, 2) := by decide +kernel
theorem dX11_two_126 : decode cX11_two 126 = .ok (.iload 9, 2) := by decide +kernel
theorem dX11_two_128 : decode cX11_two 128 = .ok (.bipush 100, 2) := by decide +kernel
theorem dX11_two_130 : decode cX11_two 130 = .ok (.if_icmp .ge 43, 3) := by decide +kernel
theorem dX11_two_133 : decode cX11_two 133 = .ok (.aload_n 0, 1) := by decide +kernel
theorem dX11_two_134 : decode cX11_two 134 = .ok (.getfield 307, 3) := by decide +kernel
theorem dX11_two_137 : decode cX11_two 137 = .ok (.bipush 100, 2) := by decide +kernel
theorem dX11_two_139 : decode cX11_two 139 = .ok (.iload 8, 2) := by decide +kernel
theorem dX11_two_141 : decode cX11_two 141 = .ok (.imul, 1) := by decide +kernel
theorem dX11_two_142 : decode cX11_two 142 = .ok (.iload 9, 2) := by decide +kernel
theorem dX11_two_144 : decode cX11_two 144 = .ok (.iadd, 1) := by decide +kernel
theorem dX11_two_145 : decode cX11_two 145 = .ok (.aload_n 0, 1) := by decide +kernel
theorem dX11_two_146 : decode cX11_two 146 = .ok (.iload 8, 2) := by decide +kernel
theorem dX11_two_148 : decode cX11_two 148 = .ok (.iload 9, 2) := by decide +kernel
theorem dX11_two_150 : decode cX11_two 150 = .ok (.bipush 10, 2) := by decide +kernel
theorem dX11_two_152 : decode cX11_two 152 = .ok (.idiv, 1) := by decide +kernel
theorem dX11_two_153 : decode cX11_two 153 = .ok (.iload 9, 2) := by decide +kernel
theorem dX11_two_155 : decode cX11_two 155 = .ok (.bipush 10, 2) := by decide +kernel
theorem dX11_two_157 : decode cX11_two 157 = .ok (.irem, 1) := by decide +kernel
theorem dX11_two_158 : decode cX11_two 158 = .ok (.iload_n 3, 1) := by decide +kernel
theorem dX11_two_159 : decode cX11_two 159 = .ok (.iload 4, 2) := by decide +kernel
theorem dX11_two_161 : decode cX11_two 161 = .ok (.iload 6, 2) := by decide +kernel
theorem dX11_two_163 : decode cX11_two 163 = .ok (.invokevirtual 519, 3) := by decide +kernel
theorem dX11_two_166 : decode cX11_two 166 = .ok (.iastore, 1) := by decide +kernel
theorem dX11_two_167 : decode cX11_two 167 = .ok (.iinc 9 1, 3) := by decide +kernel
theorem dX11_two_170 : decode cX11_two 170 = .ok (.goto (-44), 3) := by decide +kernel
theorem dX11_two_173 : decode cX11_two 173 = .ok (.iinc 8 1, 3) := by decide +kernel
theorem dX11_two_176 : decode cX11_two 176 = .ok (.goto (-60), 3) := by decide +kernel
theorem dX11_two_179 : decode cX11_two 179 = .ok (.iload 7, 2) := by decide +kernel
theorem dX11_two_181 : decode cX11_two 181 = .ok (.ifCond .ne 21, 3) := by decide +kernel
theorem dX11_two_184 : decode cX11_two 184 = .ok (.aload_n 0, 1) := by decide +kernel
theorem dX11_two_185 : decode cX11_two 185 = .ok (.getfield 307, 3) := by decide +kernel
theorem dX11_two_188 : decode cX11_two 188 = .ok (.bipush 100, 2) := by decide +kernel
theorem dX11_two_190 : decode cX11_two 190 = .ok (.iload 5, 2) := by decide +kernel
theorem dX11_two_192 : decode cX11_two 192 = .ok (.imul, 1) := by decide +kernel
theorem dX11_two_193 : decode cX11_two 193 = .ok (.bipush 10, 2) := by decide +kernel
theorem dX11_two_195 : decode cX11_two 195 = .ok (.iload_n 1, 1) := by decide +kernel
theorem dX11_two_196 : decode cX11_two 196 = .ok (.imul, 1) := by decide +kernel
theorem dX11_two_197 : decode cX11_two 197 = .ok (.iadd, 1) := by decide +kernel
theorem dX11_two_198 : decode cX11_two 198 = .ok (.iload_n 2, 1) := by decide +kernel
theorem dX11_two_199 : decode cX11_two 199 = .ok (.iadd, 1) := by decide +kernel
theorem dX11_two_200 : decode cX11_two 200 = .ok (.iaload, 1) := by decide +kernel
theorem dX11_two_201 : decode cX11_two 201 = .ok (.ireturn, 1) := by decide +kernel
theorem dX11_two_202 : decode cX11_two 202 = .ok (.iload 5, 2) := by decide +kernel
theorem dX11_two_204 : decode cX11_two 204 = .ok (.ifCond .eq 9, 3) := by decide +kernel
theorem dX11_two_207 : decode cX11_two 207 = .ok (.iload_n 1, 1) := by decide +kernel
theorem dX11_two_208 : decode cX11_two 208 = .ok (.iload_n 2, 1) := by decide +kernel
theorem dX11_two_209 : decode cX11_two 209 = .ok (.iadd, 1) := by decide +kernel
theorem dX11_two_210 : decode cX11_two 210 = .ok (.ifCond .ne 5, 3) := by decide +kernel
theorem dX11_two_213 : decode cX11_two 213 = .ok (.iconst (-1), 1) := by decide +kernel
theorem dX11_two_214 : decode cX11_two 214 = .ok (.ireturn, 1) := by decide +kernel
theorem dX11_two_215 : decode cX11_two 215 = .ok (.aload_n 0, 1) := by decide +kernel
theorem dX11_two_216 : decode cX11_two 216 = .ok (.iload 5, 2) := by decide +kernel
theorem dX11_two_218 : decode cX11_two 218 = .ok (.iload_n 1, 1) := by decide +kernel
theorem dX11_two_219 : decode cX11_two 219 = .ok (.iload_n 2, 1) := by decide +kernel
theorem dX11_two_220 : decode cX11_two 220 = .ok (.iload_n 3, 1) := by decide +kernel
theorem dX11_two_221 : decode cX11_two 221 = .ok (.iload 4, 2) := by decide +kernel
theorem dX11_two_223 : decode cX11_two 223 = .ok (.iload 6, 2) := by decide +kernel
theorem dX11_two_225 : decode cX11_two 225 = .ok (.invokevirtual 519, 3) := by decide +kernel
theorem dX11_two_228 : decode cX11_two 228 = .ok (.pop, 1) := by decide +kernel
theorem dX11_two_229 : decode cX11_two 229 = .ok (.aload_n 0, 1) := by decide +kernel
theorem dX11_two_230 : decode cX11_two 230 = .ok (.getfield 512, 3) := by decide +kernel
theorem dX11_two_233 : decode cX11_two 233 = .ok (.ifCond .eq 7, 3) := by decide +kernel
theorem dX11_two_236 : decode cX11_two 236 = .ok (.iconst 0, 1) := by decide +kernel
theorem dX11_two_237 : decode cX11_two 237 = .ok (.goto 4, 3) := by decide +kernel
theorem dX11_two_240 : decode cX11_two 240 = .ok (.iconst 1, 1) := by decide +kernel
theorem dX11_two_241 : decode cX11_two 241 = .ok (.ireturn, 1) := by decide +kernel
theorem dX11_lend_0 : decode cX11_lend 0 = .ok (.iload_n 1, 1) := by decide +kernel
theorem dX11_lend_1 : decode cX11_lend 1 = .ok (.i2l, 1) := by decide +kernel
theorem dX11_lend_2 : decode cX11_lend 2 = .ok (.lconst 0, 1) := by decide +kernel
theorem dX11_lend_3 : decode cX11_lend 3 = .ok (.ldc2_w 523, 3) := by decide +kernel
theorem dX11_lend_6 : decode cX11_lend 6 = .ok (.invokestatic 52, 3) := by decide +kernel
theorem dX11_lend_9 : decode cX11_lend 9 = .ok (.ifCond .eq 38, 3) := by decide +kernel
theorem dX11_lend_12 : decode cX11_lend 12 = .ok (.iload_n 2, 1) := by decide +kernel
theorem dX11_lend_13 : decode cX11_lend 13 = .ok (.i2l, 1) := by decide +kernel
theorem dX11_lend_14 : decode cX11_lend 14 = .ok (.lconst 0, 1) := by decide +kernel
theorem dX11_lend_15 : decode cX11_lend 15 = .ok (.ldc2_w 525, 3) := by decide +kernel
theorem dX11_lend_18 : decode cX11_lend 18 = .ok (.invokestatic 52, 3) := by decide +kernel
theorem dX11_lend_21 : decode cX11_lend 21 = .ok (.ifCond .eq 26, 3) := by decide +kernel
theorem dX11_lend_24 : decode cX11_lend 24 = .ok (.iload_n 3, 1) := by decide +kernel
theorem dX11_lend_25 : decode cX11_lend 25 = .ok (.i2l, 1) := by decide +kernel
theorem dX11_lend_26 : decode cX11_lend 26 = .ok (.lconst 0, 1) := by decide +kernel
theorem dX11_lend_27 : decode cX11_lend 27 = .ok (.ldc2_w 488, 3) := by decide +kernel
theorem dX11_lend_30 : decode cX11_lend 30 = .ok (.invokestatic 52, 3) := by decide +kernel
theorem dX11_lend_33 : decode cX11_lend 33 = .ok (.ifCond .eq 14, 3) := by decide +kernel
theorem dX11_lend_36 : decode cX11_lend 36 = .ok (.iload 4, 2) := by decide +kernel
theorem dX11_lend_38 : decode cX11_lend 38 = .ok (.i2l, 1) := by decide +kernel
theorem dX11_lend_39 : decode cX11_lend 39 = .ok (.lconst 0, 1) := by decide +kernel
theorem dX11_lend_40 : decode cX11_lend 40 = .ok (.lconst 1, 1) := by decide +kernel
theorem dX11_lend_41 : decode cX11_lend 41 = .ok (.invokestatic 52, 3) := by decide +kernel
theorem dX11_lend_44 : decode cX11_lend 44 = .ok (.ifCond .ne 6, 3) := by decide +kernel
theorem dX11_lend_47 : decode cX11_lend 47 = .ok (.bipush (-2), 2) := by decide +kernel
theorem dX11_lend_49 : decode cX11_lend 49 = .ok (.ireturn, 1) := by decide +kernel
theorem dX11_lend_50 : decode cX11_lend 50 = .ok (.iload_n 1, 1) := by decide +kernel
theorem dX11_lend_51 : decode cX11_lend 51 = .ok (.istore 5, 2) := by decide +kernel
theorem dX11_lend_53 : decode cX11_lend 53 = .ok (.iconst 0, 1) := by decide +kernel
theorem dX11_lend_54 : decode cX11_lend 54 = .ok (.istore 6, 2) := by decide +kernel
theorem dX11_lend_56 : decode cX11_lend 56 = .ok (.iload 6, 2) := by decide +kernel
theorem dX11_lend_58 : decode cX11_lend 58 = .ok (.iload_n 2, 1) := by decide +kernel
theorem dX11_lend_59 : decode cX11_lend 59 = .ok (.if_icmp .ge 28, 3) := by decide +kernel
theorem dX11_lend_62 : decode cX11_lend 62 = .ok (.iload 4, 2) := by decide +kernel
theorem dX11_lend_64 : decode cX11_lend 64 = .ok (.ifCond .ne 23, 3) := by decide +kernel
theorem dX11_lend_67 : decode cX11_lend 67 = .ok (.iload 5, 2) := by decide +kernel
theorem dX11_lend_69 : decode cX11_lend 69 = .ok (.sipush 1000, 3) := by decide +kernel
theorem dX11_lend_72 : decode cX11_lend 72 = .ok (.iload_n 3, 1) := by decide +kernel
theorem dX11_lend_73 : decode cX11_lend 73 = .ok (.isub, 1) := by decide +kernel
theorem dX11_lend_74 : decode cX11_lend 74 = .ok (.imul, 1) := by decide +kernel
theorem dX11_lend_75 : decode cX11_lend 75 = .ok (.sipush 1000, 3) := by decide +kernel
theorem dX11_lend_78 : decode cX11_lend 78 = .ok (.idiv, 1) := by decide +kernel
theorem dX11_lend_79 : decode cX11_lend 79 = .ok (.istore 5, 2) := by decide +kernel
theorem dX11_lend_81 : decode cX11_lend 81 = .ok (.iinc 6 1, 3) := by decide +kernel
theorem dX11_lend_84 : decode cX11_lend 84 = .ok (.goto (-28), 3) := by decide +kernel
theorem dX11_lend_87 : decode cX11_lend 87 = .ok (.iconst 0, 1) := by decide +kernel
theorem dX11_lend_88 : decode cX11_lend 88 = .ok (.istore 6, 2) := by decide +kernel
theorem dX11_lend_90 : decode cX11_lend 90 = .ok (.iload 6, 2) := by decide +kernel
theorem dX11_lend_92 : decode cX11_lend 92 = .ok (.bipush 7, 2) := by decide +kernel
theorem dX11_lend_94 : decode cX11_lend 94 = .ok (.iload_n 2, 1) := by decide +kernel
theorem dX11_lend_95 : decode cX11_lend 95 = .ok (.imul, 1) := by decide +kernel
theorem dX11_lend_96 : decode cX11_lend 96 = .ok (.if_icmp .ge 35, 3) := by decide +kernel
theorem dX11_lend_99 : decode cX11_lend 99 = .ok (.iload 4, 2) := by decide +kernel
theorem dX11_lend_101 : decode cX11_lend 101 = .ok (.iconst 1, 1) := by decide +kernel
theorem dX11_lend_102 : decode cX11_lend 102 = .ok (.if_icmp .ne 29, 3) := by decide +kernel
theorem dX11_lend_105 : decode cX11_lend 105 = .ok (.iload 5, 2) := by decide +kernel
theorem dX11_lend_107 : decode cX11_lend 107 = .ok (.iload 5, 2) := by decide +kernel
theorem dX11_lend_109 : decode cX11_lend 109 = .ok (.aload_n 0, 1) := by decide +kernel
theorem dX11_lend_110 : decode cX11_lend 110 = .ok (.getfield 233, 3) := by decide +kernel
theorem dX11_lend_113 : decode cX11_lend 113 = .ok (.iload 6, 2) := by decide +kernel
theorem dX11_lend_115 : decode cX11_lend 115 = .ok (.bipush 7, 2) := by decide +kernel
theorem dX11_lend_117 : decode cX11_lend 117 = .ok (.irem, 1) := by decide +kernel
theorem dX11_lend_118 : decode cX11_lend 118 = .ok (.iaload, 1) := by decide +kernel
theorem dX11_lend_119 : decode cX11_lend 119 = .ok (.invokestatic 380, 3) := by decide +kernel
theorem dX11_lend_122 : decode cX11_lend 122 = .ok (.isub, 1) := by decide +kernel
theorem dX11_lend_123 : decode cX11_lend 123 = .ok (.istore 5, 2) := by decide +kernel
theorem dX11_lend_125 : decode cX11_lend 125 = .ok (.iinc 6 1, 3) := by decide +kernel
theorem dX11_lend_128 : decode cX11_lend 128 = .ok (.goto (-38), 3) := by decide +kernel
theorem dX11_lend_131 : decode cX11_lend 131 = .ok (.iload 5, 2) := by decide +kernel
theorem dX11_lend_133 : decode cX11_lend 133 = .ok (.ireturn, 1) := by decide +kernel
theorem dX11_early_0 : decode cX11_early 0 = .ok (.iload_n 1, 1) := by decide +kernel
theorem dX11_early_1 : decode cX11_early 1 = .ok (.i2l, 1) := by decide +kernel
theorem dX11_early_2 : decode cX11_early 2 = .ok (.lconst 0, 1) := by decide +kernel
theorem dX11_early_3 : decode cX11_early 3 = .ok (.ldc2_w 523, 3) := by decide +kernel
theorem dX11_early_6 : decode cX11_early 6 = .ok (.invokestatic 52, 3) := by decide +kernel
theorem dX11_early_9 : decode cX11_early 9 = .ok (.ifCond .eq 22, 3) := by decide +kernel
theorem dX11_early_12 : decode cX11_early 12 = .ok (.iload_n 2, 1) := by decide +kernel
theorem dX11_early_13 : decode cX11_early 13 = .ok (.i2l, 1) := by decide +kernel
theorem dX11_early_14 : decode cX11_early 14 = .ok (.lconst 0, 1) := by decide +kernel
theorem dX11_early_15 : decode cX11_early 15 = .ok (.ldc2_w 361, 3) := by decide +kernel
theorem dX11_early_18 : decode cX11_early 18 = .ok (.invokestatic 52, 3) := by decide +kernel
theorem dX11_early_21 : decode cX11_early 21 = .ok (.ifCond .eq 10, 3) := by decide +kernel
theorem dX11_early_24 : decode cX11_early 24 = .ok (.iload_n 3, 1) := by decide +kernel
theorem dX11_early_25 : decode cX11_early 25 = .ok (.invokestatic 370, 3) := by decide +kernel
theorem dX11_early_28 : decode cX11_early 28 = .ok (.ifCond .ne 6, 3) := by decide +kernel
theorem dX11_early_31 : decode cX11_early 31 = .ok (.bipush (-2), 2) := by decide +kernel
theorem dX11_early_33 : decode cX11_early 33 = .ok (.ireturn, 1) := by decide +kernel
theorem dX11_early_34 : decode cX11_early 34 = .ok (.iconst 0, 1) := by decide +kernel
theorem dX11_early_35 : decode cX11_early 35 = .ok (.istore 4, 2) := by decide +kernel
theorem dX11_early_37 : decode cX11_early 37 = .ok (.iload 4, 2) := by decide +kernel
theorem dX11_early_39 : decode cX11_early 39 = .ok (.sipush 999, 3) := by decide +kernel
theorem dX11_early_42 : decode cX11_early 42 = .ok (.if_icmp .gt 59, 3) := by decide +kernel
theorem dX11_early_45 : decode cX11_early 45 = .ok (.iload 4, 2) := by decide +kernel
theorem dX11_early_47 : decode cX11_early 47 = .ok (.istore 5, 2) := by decide +kernel
theorem dX11_early_49 : decode cX11_early 49 = .ok (.iconst 0, 1) := by decide +kernel
theorem dX11_early_50 : decode cX11_early 50 = .ok (.istore 6, 2) := by decide +kernel
