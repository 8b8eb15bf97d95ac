theorem dX0_init_0 : decode cX0_init 0 = .ok (.aload_n 0, 1) := by decide +kernel
theorem dX0_init_1 : decode cX0_init 1 = .ok (.invokespecial 3, 3) := by decide +kernel
theorem dX0_init_4 : decode cX0_init 4 = .ok (.aload_n 0, 1) := by decide +kernel
theorem dX0_init_5 : decode cX0_init 5 = .ok (.bipush 21, 2) := by decide +kernel
theorem dX0_init_7 : decode cX0_init 7 = .ok (.newarray .int, 2) := by decide +kernel
theorem dX0_init_9 : decode cX0_init 9 = .ok (.putfield 9, 3) := by decide +kernel
theorem dX0_init_12 : decode cX0_init 12 = .ok (.aload_n 0, 1) := by decide +kernel
theorem dX0_init_13 : decode cX0_init 13 = .ok (.bipush 7, 2) := by decide +kernel
theorem dX0_init_15 : decode cX0_init 15 = .ok (.newarray .int, 2) := by decide +kernel
theorem dX0_init_17 : decode cX0_init 17 = .ok (.putfield 15, 3) := by decide +kernel
theorem dX0_init_20 : decode cX0_init 20 = .ok (.aload_n 0, 1) := by decide +kernel
theorem dX0_init_21 : decode cX0_init 21 = .ok (.sipush 427, 3) := by decide +kernel
theorem dX0_init_24 : decode cX0_init 24 = .ok (.newarray .int, 2) := by decide +kernel
theorem dX0_init_26 : decode cX0_init 26 = .ok (.putfield 18, 3) := by decide +kernel
theorem dX0_init_29 : decode cX0_init 29 = .ok (.aload_n 0, 1) := by decide +kernel
theorem dX0_init_30 : decode cX0_init 30 = .ok (.bipush 6, 2) := by decide +kernel
theorem dX0_init_32 : decode cX0_init 32 = .ok (.newarray .int, 2) := by decide +kernel
theorem dX0_init_34 : decode cX0_init 34 = .ok (.putfield 21, 3) := by decide +kernel
theorem dX0_init_37 : decode cX0_init 37 = .ok (.aload_n 0, 1) := by decide +kernel
theorem dX0_init_38 : decode cX0_init 38 = .ok (.bipush 6, 2) := by decide +kernel
theorem dX0_init_40 : decode cX0_init 40 = .ok (.newarray .int, 2) := by decide +kernel
theorem dX0_init_42 : decode cX0_init 42 = .ok (.putfield 24, 3) := by decide +kernel
theorem dX0_init_45 : decode cX0_init 45 = .ok (.aload_n 0, 1) := by decide +kernel
theorem dX0_init_46 : decode cX0_init 46 = .ok (.aload_n 1, 1) := by decide +kernel
theorem dX0_init_47 : decode cX0_init 47 = .ok (.putfield 27, 3) := by decide +kernel
theorem dX0_init_50 : decode cX0_init 50 = .ok (.return_, 1) := by decide +kernel
theorem dX0_open_0 : decode cX0_open 0 = .ok (.aload_n 0, 1) := by decide +kernel
theorem dX0_open_1 : decode cX0_open 1 = .ok (.getfield 27, 3) := by decide +kernel
theorem dX0_open_4 : decode cX0_open 4 = .ok (.getfield 31, 3) := by decide +kernel
theorem dX0_open_7 : decode cX0_open 7 = .ok (.iconst (-1), 1) := by decide +kernel
theorem dX0_open_8 : decode cX0_open 8 = .ok (.if_icmp .ne 7, 3) := by decide +kernel
theorem dX0_open_11 : decode cX0_open 11 = .ok (.iconst 0, 1) := by decide +kernel
theorem dX0_open_12 : decode cX0_open 12 = .ok (.goto 18, 3) := by decide +kernel
theorem dX0_open_15 : decode cX0_open 15 = .ok (.aload_n 0, 1) := by decide +kernel
theorem dX0_open_16 : decode cX0_open 16 = .ok (.getfield 27, 3) := by decide +kernel
theorem dX0_open_19 : decode cX0_open 19 = .ok (.getfield 37, 3) := by decide +kernel
theorem dX0_open_22 : decode cX0_open 22 = .ok (.aload_n 0, 1) := by decide +kernel
theorem dX0_open_23 : decode cX0_open 23 = .ok (.getfield 27, 3) := by decide +kernel
theorem dX0_open_26 : decode cX0_open 26 = .ok (.getfield 31, 3) := by decide +kernel
theorem dX0_open_29 : decode cX0_open 29 = .ok (.iaload, 1) := by decide +kernel
theorem dX0_open_30 : decode cX0_open 30 = .ok (.istore_n 1, 1) := by decide +kernel
theorem dX0_open_31 : decode cX0_open 31 = .ok (.aload_n 0, 1) := by decide +kernel
theorem dX0_open_32 : decode cX0_open 32 = .ok (.getfield 27, 3) := by decide +kernel
theorem dX0_open_35 : decode cX0_open 35 = .ok (.getfield 31, 3) := by decide +kernel
theorem dX0_open_38 : decode cX0_open 38 = .ok (.iconst (-1), 1) := by decide +kernel
theorem dX0_open_39 : decode cX0_open 39 = .ok (.if_icmp .ne 7, 3) := by decide +kernel
theorem dX0_open_42 : decode cX0_open 42 = .ok (.iconst 0, 1) := by decide +kernel
theorem dX0_open_43 : decode cX0_open 43 = .ok (.goto 18, 3) := by decide +kernel
theorem dX0_open_46 : decode cX0_open 46 = .ok (.aload_n 0, 1) := by decide +kernel
theorem dX0_open_47 : decode cX0_open 47 = .ok (.getfield 27, 3) := by decide +kernel
theorem dX0_open_50 : decode cX0_open 50 = .ok (.getfield 40, 3) := by decide +kernel
theorem dX0_open_53 : decode cX0_open 53 = .ok (.aload_n 0, 1) := by decide +kernel
theorem dX0_open_54 : decode cX0_open 54 = .ok (.getfield 27, 3) := by decide +kernel
theorem dX0_open_57 : decode cX0_open 57 = .ok (.getfield 31, 3) := by decide +kernel
theorem dX0_open_60 : decode cX0_open 60 = .ok (.iaload, 1) := by decide +kernel
theorem dX0_open_61 : decode cX0_open 61 = .ok (.istore_n 2, 1) := by decide +kernel
theorem dX0_open_62 : decode cX0_open 62 = .ok (.iconst 0, 1) := by decide +kernel
theorem dX0_open_63 : decode cX0_open 63 = .ok (.istore_n 3, 1) := by decide +kernel
theorem dX0_open_64 : decode cX0_open 64 = .ok (.iload_n 3, 1) := by decide +kernel
theorem dX0_open_65 : decode cX0_open 65 = .ok (.bipush 6, 2) := by decide +kernel
theorem dX0_open_67 : decode cX0_open 67 = .ok (.if_icmp .ge 33, 3) := by decide +kernel
theorem dX0_open_70 : decode cX0_open 70 = .ok (.aload_n 0, 1) := by decide +kernel
theorem dX0_open_71 : decode cX0_open 71 = .ok (.getfield 21, 3) := by decide +kernel
theorem dX0_open_74 : decode cX0_open 74 = .ok (.iload_n 3, 1) := by decide +kernel
theorem dX0_open_75 : decode cX0_open 75 = .ok (.iload_n 3, 1) := by decide +kernel
theorem dX0_open_76 : decode cX0_open 76 = .ok (.iload_n 1, 1) := by decide +kernel
theorem dX0_open_77 : decode cX0_open 77 = .ok (.imul, 1) := by decide +kernel
theorem dX0_open_78 : decode cX0_open 78 = .ok (.iastore, 1) := by decide +kernel
theorem dX0_open_79 : decode cX0_open 79 = .ok (.aload_n 0, 1) := by decide +kernel
theorem dX0_open_80 : decode cX0_open 80 = .ok (.getfield 24, 3) := by decide +kernel
theorem dX0_open_83 : decode cX0_open 83 = .ok (.iload_n 3, 1) := by decide +kernel
theorem dX0_open_84 : decode cX0_open 84 = .ok (.iload_n 3, 1) := by decide +kernel
theorem dX0_open_85 : decode cX0_open 85 = .ok (.iload_n 3, 1) := by decide +kernel
theorem dX0_open_86 : decode cX0_open 86 = .ok (.iload_n 2, 1) := by decide +kernel
theorem dX0_open_87 : decode cX0_open 87 = .ok (.imul, 1) := by decide +kernel
theorem dX0_open_88 : decode cX0_open 88 = .ok (.sipush 1000, 3) := by decide +kernel
theorem dX0_open_91 : decode cX0_open 91 = .ok (.idiv, 1) := by decide +kernel
theorem dX0_open_92 : decode cX0_open 92 = .ok (.isub, 1) := by decide +kernel
theorem dX0_open_93 : decode cX0_open 93 = .ok (.iastore, 1) := by decide +kernel
theorem dX0_open_94 : decode cX0_open 94 = .ok (.iinc 3 1, 3) := by decide +kernel
theorem dX0_open_97 : decode cX0_open 97 = .ok (.goto (-33), 3) := by decide +kernel
theorem dX0_open_100 : decode cX0_open 100 = .ok (.aload_n 0, 1) := by decide +kernel
theorem dX0_open_101 : decode cX0_open 101 = .ok (.invokevirtual 43, 3) := by decide +kernel
theorem dX0_open_104 : decode cX0_open 104 = .ok (.aload_n 0, 1) := by decide +kernel
theorem dX0_open_105 : decode cX0_open 105 = .ok (.invokevirtual 46, 3) := by decide +kernel
theorem dX0_open_108 : decode cX0_open 108 = .ok (.return_, 1) := by decide +kernel
theorem dX0_pricesAsTold_0 : decode cX0_pricesAsTold 0 = .ok (.aload_n 0, 1) := by decide +kernel
theorem dX0_pricesAsTold_1 : decode cX0_pricesAsTold 1 = .ok (.getfield 27, 3) := by decide +kernel
theorem dX0_pricesAsTold_4 : decode cX0_pricesAsTold 4 = .ok (.getfield 49, 3) := by decide +kernel
theorem dX0_pricesAsTold_7 : decode cX0_pricesAsTold 7 = .ok (.iconst 0, 1) := by decide +kernel
theorem dX0_pricesAsTold_8 : decode cX0_pricesAsTold 8 = .ok (.aload_n 0, 1) := by decide +kernel
theorem dX0_pricesAsTold_9 : decode cX0_pricesAsTold 9 = .ok (.getfield 9, 3) := by decide +kernel
theorem dX0_pricesAsTold_12 : decode cX0_pricesAsTold 12 = .ok (.iconst 0, 1) := by decide +kernel
theorem dX0_pricesAsTold_13 : decode cX0_pricesAsTold 13 = .ok (.aload_n 0, 1) := by decide +kernel
theorem dX0_pricesAsTold_14 : decode cX0_pricesAsTold 14 = .ok (.getfield 9, 3) := by decide +kernel
theorem dX0_pricesAsTold_17 : decode cX0_pricesAsTold 17 = .ok (.arraylength, 1) := by decide +kernel
theorem dX0_pricesAsTold_18 : decode cX0_pricesAsTold 18 = .ok (.invokestatic 50, 3) := by decide +kernel
theorem dX0_pricesAsTold_21 : decode cX0_pricesAsTold 21 = .ok (.return_, 1) := by decide +kernel
theorem dX0_lossesAsTold_0 : decode cX0_lossesAsTold 0 = .ok (.aload_n 0, 1) := by decide +kernel
theorem dX0_lossesAsTold_1 : decode cX0_lossesAsTold 1 = .ok (.getfield 27, 3) := by decide +kernel
theorem dX0_lossesAsTold_4 : decode cX0_lossesAsTold 4 = .ok (.getfield 56, 3) := by decide +kernel
theorem dX0_lossesAsTold_7 : decode cX0_lossesAsTold 7 = .ok (.iconst 0, 1) := by decide +kernel
theorem dX0_lossesAsTold_8 : decode cX0_lossesAsTold 8 = .ok (.aload_n 0, 1) := by decide +kernel
theorem dX0_lossesAsTold_9 : decode cX0_lossesAsTold 9 = .ok (.getfield 15, 3) := by decide +kernel
theorem dX0_lossesAsTold_12 : decode cX0_lossesAsTold 12 = .ok (.iconst 0, 1) := by decide +kernel
theorem dX0_lossesAsTold_13 : decode cX0_lossesAsTold 13 = .ok (.bipush 7, 2) := by decide +kernel
theorem dX0_lossesAsTold_15 : decode cX0_lossesAsTold 15 = .ok (.invokestatic 50, 3) := by decide +kernel
theorem dX0_lossesAsTold_18 : decode cX0_lossesAsTold 18 = .ok (.aload_n 0, 1) := by decide +kernel
theorem dX0_lossesAsTold_19 : decode cX0_lossesAsTold 19 = .ok (.invokevirtual 57, 3) := by decide +kernel
theorem dX0_lossesAsTold_22 : decode cX0_lossesAsTold 22 = .ok (.return_, 1) := by decide +kernel
theorem dX0_lossesAt_0 : decode cX0_lossesAt 0 = .ok (.iconst 0, 1) := by decide +kernel
theorem dX0_lossesAt_1 : decode cX0_lossesAt 1 = .ok (.istore_n 2, 1) := by decide +kernel
theorem dX0_lossesAt_2 : decode cX0_lossesAt 2 = .ok (.iload_n 2, 1) := by decide +kernel
theorem dX0_lossesAt_3 : decode cX0_lossesAt 3 = .ok (.bipush 7, 2) := by decide +kernel
theorem dX0_lossesAt_5 : decode cX0_lossesAt 5 = .ok (.if_icmp .ge 32, 3) := by decide +kernel
theorem dX0_lossesAt_8 : decode cX0_lossesAt 8 = .ok (.aload_n 0, 1) := by decide +kernel
theorem dX0_lossesAt_9 : decode cX0_lossesAt 9 = .ok (.getfield 15, 3) := by decide +kernel
theorem dX0_lossesAt_12 : decode cX0_lossesAt 12 = .ok (.iload_n 2, 1) := by decide +kernel
theorem dX0_lossesAt_13 : decode cX0_lossesAt 13 = .ok (.aload_n 0, 1) := by decide +kernel
theorem dX0_lossesAt_14 : decode cX0_lossesAt 14 = .ok (.getfield 27, 3) := by decide +kernel
theorem dX0_lossesAt_17 : decode cX0_lossesAt 17 = .ok (.getfield 56, 3) := by decide +kernel
theorem dX0_lossesAt_20 : decode cX0_lossesAt 20 = .ok (.iload_n 2, 1) := by decide +kernel
theorem dX0_lossesAt_21 : decode cX0_lossesAt 21 = .ok (.iaload, 1) := by decide +kernel
theorem dX0_lossesAt_22 : decode cX0_lossesAt 22 = .ok (.ifCond .le 7, 3) := by decide +kernel
theorem dX0_lossesAt_25 : decode cX0_lossesAt 25 = .ok (.iload_n 1, 1) := by decide +kernel
theorem dX0_lossesAt_26 : decode cX0_lossesAt 26 = .ok (.goto 4, 3) := by decide +kernel
theorem dX0_lossesAt_29 : decode cX0_lossesAt 29 = .ok (.iconst 0, 1) := by decide +kernel
theorem dX0_lossesAt_30 : decode cX0_lossesAt 30 = .ok (.iastore, 1) := by decide +kernel
theorem dX0_lossesAt_31 : decode cX0_lossesAt 31 = .ok (.iinc 2 1, 3) := by decide +kernel
theorem dX0_lossesAt_34 : decode cX0_lossesAt 34 = .ok (.goto (-32), 3) := by decide +kernel
theorem dX0_lossesAt_37 : decode cX0_lossesAt 37 = .ok (.aload_n 0, 1) := by decide +kernel
theorem dX0_lossesAt_38 : decode cX0_lossesAt 38 = .ok (.invokevirtual 57, 3) := by decide +kernel
theorem dX0_lossesAt_41 : decode cX0_lossesAt 41 = .ok (.return_, 1) := by decide +kernel
theorem dX0_stampAll_0 : decode cX0_stampAll 0 = .ok (.iconst 0, 1) := by decide +kernel
theorem dX0_stampAll_1 : decode cX0_stampAll 1 = .ok (.istore_n 1, 1) := by decide +kernel
theorem dX0_stampAll_2 : decode cX0_stampAll 2 = .ok (.iload_n 1, 1) := by decide +kernel
theorem dX0_stampAll_3 : decode cX0_stampAll 3 = .ok (.bipush 7, 2) := by decide +kernel
theorem dX0_stampAll_5 : decode cX0_stampAll 5 = .ok (.if_icmp .ge 46, 3) := by decide +kernel
theorem dX0_stampAll_8 : decode cX0_stampAll 8 = .ok (.iconst 0, 1) := by decide +kernel
theorem dX0_stampAll_9 : decode cX0_stampAll 9 = .ok (.istore_n 2, 1) := by decide +kernel
theorem dX0_stampAll_10 : decode cX0_stampAll 10 = .ok (.iload_n 2, 1) := by decide +kernel
theorem dX0_stampAll_11 : decode cX0_stampAll 11 = .ok (.bipush 61, 2) := by decide +kernel
theorem dX0_stampAll_13 : decode cX0_stampAll 13 = .ok (.if_icmp .ge 32, 3) := by decide +kernel
theorem dX0_stampAll_16 : decode cX0_stampAll 16 = .ok (.aload_n 0, 1) := by decide +kernel
theorem dX0_stampAll_17 : decode cX0_stampAll 17 = .ok (.getfield 18, 3) := by decide +kernel
theorem dX0_stampAll_20 : decode cX0_stampAll 20 = .ok (.iload_n 1, 1) := by decide +kernel
theorem dX0_stampAll_21 : decode cX0_stampAll 21 = .ok (.bipush 61, 2) := by decide +kernel
theorem dX0_stampAll_23 : decode cX0_stampAll 23 = .ok (.imul, 1) := by decide +kernel
theorem dX0_stampAll_24 : decode cX0_stampAll 24 = .ok (.iload_n 2, 1) := by decide +kernel
theorem dX0_stampAll_25 : decode cX0_stampAll 25 = .ok (.iadd, 1) := by decide +kernel
theorem dX0_stampAll_26 : decode cX0_stampAll 26 = .ok (.iload_n 2, 1) := by decide +kernel
theorem dX0_stampAll_27 : decode cX0_stampAll 27 = .ok (.iload_n 2, 1) := by decide +kernel
theorem dX0_stampAll_28 : decode cX0_stampAll 28 = .ok (.aload_n 0, 1) := by decide +kernel
theorem dX0_stampAll_29 : decode cX0_stampAll 29 = .ok (.getfield 15, 3) := by decide +kernel
theorem dX0_stampAll_32 : decode cX0_stampAll 32 = .ok (.iload_n 1, 1) := by decide +kernel
theorem dX0_stampAll_33 : decode cX0_stampAll 33 = .ok (.iaload, 1) := by decide +kernel
theorem dX0_stampAll_34 : decode cX0_stampAll 34 = .ok (.invokestatic 60, 3) := by decide +kernel
theorem dX0_stampAll_37 : decode cX0_stampAll 37 = .ok (.isub, 1) := by decide +kernel
theorem dX0_stampAll_38 : decode cX0_stampAll 38 = .ok (.iastore, 1) := by decide +kernel
theorem dX0_stampAll_39 : decode cX0_stampAll 39 = .ok (.iinc 2 1, 3) := by decide +kernel
theorem dX0_stampAll_42 : decode cX0_stampAll 42 = .ok (.goto (-32), 3) := by decide +kernel
theorem dX0_stampAll_45 : decode cX0_stampAll 45 = .ok (.iinc 1 1, 3) := by decide +kernel
theorem dX0_stampAll_48 : decode cX0_stampAll 48 = .ok (.goto (-46), 3) := by decide +kernel
theorem dX0_stampAll_51 : decode cX0_stampAll 51 = .ok (.return_, 1) := by decide +kernel
theorem dX0_earned_0 : decode cX0_earned 0 = .ok (.bipush 60, 2) := by decide +kernel
theorem dX0_earned_2 : decode cX0_earned 2 = .ok (.iload_n 3, 1) := by decide +kernel
theorem dX0_earned_3 : decode cX0_earned 3 = .ok (.aload_n 0, 1) := by decide +kernel
theorem dX0_earned_4 : decode cX0_earned 4 = .ok (.getfield 27, 3) := by decide +kernel
theorem dX0_earned_7 : decode cX0_earned 7 = .ok (.getfield 64, 3) := by decide +kernel
theorem dX0_earned_10 : decode cX0_earned 10 = .ok (.iload_n 1, 1) := by decide +kernel
theorem dX0_earned_11 : decode cX0_earned 11 = .ok (.bipush 7, 2) := by decide +kernel
theorem dX0_earned_13 : decode cX0_earned 13 = .ok (.imul, 1) := by decide +kernel
theorem dX0_earned_14 : decode cX0_earned 14 = .ok (.iload_n 2, 1) := by decide +kernel
theorem dX0_earned_15 : decode cX0_earned 15 = .ok (.iadd, 1) := by decide +kernel
theorem dX0_earned_16 : decode cX0_earned 16 = .ok (.iaload, 1) := by decide +kernel
theorem dX0_earned_17 : decode cX0_earned 17 = .ok (.iadd, 1) := by decide +kernel
theorem dX0_earned_18 : decode cX0_earned 18 = .ok (.invokestatic 67, 3) := by decide +kernel
theorem dX0_earned_21 : decode cX0_earned 21 = .ok (.ireturn, 1) := by decide +kernel
theorem dX0_coinsBehind_0 : decode cX0_coinsBehind 0 = .ok (.aload_n 0, 1) := by decide +kernel
theorem dX0_coinsBehind_1 : decode cX0_coinsBehind 1 = .ok (.getfield 18, 3) := by decide +kernel
theorem dX0_coinsBehind_4 : decode cX0_coinsBehind 4 = .ok (.iload_n 3, 1) := by decide +kernel
theorem dX0_coinsBehind_5 : decode cX0_coinsBehind 5 = .ok (.bipush 61, 2) := by decide +kernel
theorem dX0_coinsBehind_7 : decode cX0_coinsBehind 7 = .ok (.imul, 1) := by decide +kernel
theorem dX0_coinsBehind_8 : decode cX0_coinsBehind 8 = .ok (.iload_n 1, 1) := by decide +kernel
theorem dX0_coinsBehind_9 : decode cX0_coinsBehind 9 = .ok (.iadd, 1) := by decide +kernel
theorem dX0_coinsBehind_10 : decode cX0_coinsBehind 10 = .ok (.iaload, 1) := by decide +kernel
theorem dX0_coinsBehind_11 : decode cX0_coinsBehind 11 = .ok (.aload_n 0, 1) := by decide +kernel
theorem dX0_coinsBehind_12 : decode cX0_coinsBehind 12 = .ok (.getfield 21, 3) := by decide +kernel
theorem dX0_coinsBehind_15 : decode cX0_coinsBehind 15 = .ok (.iload_n 2, 1) := by decide +kernel
theorem dX0_coinsBehind_16 : decode cX0_coinsBehind 16 = .ok (.iaload, 1) := by decide +kernel
theorem dX0_coinsBehind_17 : decode cX0_coinsBehind 17 = .ok (.isub, 1) := by decide +kernel
theorem dX0_coinsBehind_18 : decode cX0_coinsBehind 18 = .ok (.istore 4, 2) := by decide +kernel
theorem dX0_coinsBehind_20 : decode cX0_coinsBehind 20 = .ok (.iload 4, 2) := by decide +kernel
theorem dX0_coinsBehind_22 : decode cX0_coinsBehind 22 = .ok (.ifCond .ge 7, 3) := by decide +kernel
theorem dX0_coinsBehind_25 : decode cX0_coinsBehind 25 = .ok (.iconst 0, 1) := by decide +kernel
theorem dX0_coinsBehind_26 : decode cX0_coinsBehind 26 = .ok (.goto 5, 3) := by decide +kernel
theorem dX0_coinsBehind_29 : decode cX0_coinsBehind 29 = .ok (.iload 4, 2) := by decide +kernel
theorem dX0_coinsBehind_31 : decode cX0_coinsBehind 31 = .ok (.ireturn, 1) := by decide +kernel
theorem dX0_heldForWeek_0 : decode cX0_heldForWeek 0 = .ok (.iload_n 1, 1) := by decide +kernel
theorem dX0_heldForWeek_1 : decode cX0_heldForWeek 1 = .ok (.istore_n 2, 1) := by decide +kernel
theorem dX0_heldForWeek_2 : decode cX0_heldForWeek 2 = .ok (.iconst 0, 1) := by decide +kernel
theorem dX0_heldForWeek_3 : decode cX0_heldForWeek 3 = .ok (.istore_n 3, 1) := by decide +kernel
theorem dX0_heldForWeek_4 : decode cX0_heldForWeek 4 = .ok (.iload_n 3, 1) := by decide +kernel
theorem dX0_heldForWeek_5 : decode cX0_heldForWeek 5 = .ok (.bipush 7, 2) := by decide +kernel
theorem dX0_heldForWeek_7 : decode cX0_heldForWeek 7 = .ok (.if_icmp .ge 22, 3) := by decide +kernel
theorem dX0_heldForWeek_10 : decode cX0_heldForWeek 10 = .ok (.iload_n 2, 1) := by decide +kernel
theorem dX0_heldForWeek_11 : decode cX0_heldForWeek 11 = .ok (.iload_n 2, 1) := by decide +kernel
theorem dX0_heldForWeek_12 : decode cX0_heldForWeek 12 = .ok (.aload_n 0, 1) := by decide +kernel
theorem dX0_heldForWeek_13 : decode cX0_heldForWeek 13 = .ok (.getfield 15, 3) := by decide +kernel
theorem dX0_heldForWeek_16 : decode cX0_heldForWeek 16 = .ok (.iload_n 3, 1) := by decide +kernel
theorem dX0_heldForWeek_17 : decode cX0_heldForWeek 17 = .ok (.iaload, 1) := by decide +kernel
theorem dX0_heldForWeek_18 : decode cX0_heldForWeek 18 = .ok (.invokestatic 60, 3) := by decide +kernel
theorem dX0_heldForWeek_21 : decode cX0_heldForWeek 21 = .ok (.isub, 1) := by decide +kernel
theorem dX0_heldForWeek_22 : decode cX0_heldForWeek 22 = .ok (.istore_n 2, 1) := by decide +kernel
theorem dX0_heldForWeek_23 : decode cX0_heldForWeek 23 = .ok (.iinc 3 1, 3) := by decide +kernel
theorem dX0_heldForWeek_26 : decode cX0_heldForWeek 26 = .ok (.goto (-22), 3) := by decide +kernel
theorem dX0_heldForWeek_29 : decode cX0_heldForWeek 29 = .ok (.iload_n 2, 1) := by decide +kernel
theorem dX0_heldForWeek_30 : decode cX0_heldForWeek 30 = .ok (.ireturn, 1) := by decide +kernel
theorem dX0_neededAhead_0 : decode cX0_neededAhead 0 = .ok (.sipush 1000, 3) := by decide +kernel
theorem dX0_neededAhead_3 : decode cX0_neededAhead 3 = .ok (.aload_n 0, 1) := by decide +kernel
theorem dX0_neededAhead_4 : decode cX0_neededAhead 4 = .ok (.getfield 15, 3) := by decide +kernel
theorem dX0_neededAhead_7 : decode cX0_neededAhead 7 = .ok (.iload_n 2, 1) := by decide +kernel
theorem dX0_neededAhead_8 : decode cX0_neededAhead 8 = .ok (.iaload, 1) := by decide +kernel
theorem dX0_neededAhead_9 : decode cX0_neededAhead 9 = .ok (.isub, 1) := by decide +kernel
theorem dX0_neededAhead_10 : decode cX0_neededAhead 10 = .ok (.istore_n 3, 1) := by decide +kernel
theorem dX0_neededAhead_11 : decode cX0_neededAhead 11 = .ok (.iload_n 3, 1) := by decide +kernel
theorem dX0_neededAhead_12 : decode cX0_neededAhead 12 = .ok (.iconst 1, 1) := by decide +kernel
theorem dX0_neededAhead_13 : decode cX0_neededAhead 13 = .ok (.if_icmp .ge 8, 3) := by decide +kernel
theorem dX0_neededAhead_21 : decode cX0_neededAhead 21 = .ok (.iload_n 1, 1) := by decide +kernel
theorem dX0_neededAhead_22 : decode cX0_neededAhead 22 = .ok (.sipush 1000, 3) := by decide +kernel
theorem dX0_neededAhead_25 : decode cX0_neededAhead 25 = .ok (.imul, 1) := by decide +kernel
theorem dX0_neededAhead_26 : decode cX0_neededAhead 26 = .ok (.iload_n 3, 1) := by decide +kernel
theorem dX0_neededAhead_27 : decode cX0_neededAhead 27 = .ok (.iadd, 1) := by decide +kernel
theorem dX0_neededAhead_28 : decode cX0_neededAhead 28 = .ok (.iconst 1, 1) := by decide +kernel
theorem dX0_neededAhead_29 : decode cX0_neededAhead 29 = .ok (.isub, 1) := by decide +kernel
theorem dX0_neededAhead_30 : decode cX0_neededAhead 30 = .ok (.iload_n 3, 1) := by decide +kernel
theorem dX0_neededAhead_31 : decode cX0_neededAhead 31 = .ok (.idiv, 1) := by decide +kernel
theorem dX0_neededAhead_32 : decode cX0_neededAhead 32 = .ok (.ireturn, 1) := by decide +kernel
theorem dX0_movePrices_0 : decode cX0_movePrices 0 = .ok (.iconst 0, 1) := by decide +kernel
theorem dX0_movePrices_1 : decode cX0_movePrices 1 = .ok (.istore_n 2, 1) := by decide +kernel
theorem dX0_movePrices_2 : decode cX0_movePrices 2 = .ok (.iconst 0, 1) := by decide +kernel
theorem dX0_movePrices_3 : decode cX0_movePrices 3 = .ok (.istore_n 3, 1) := by decide +kernel
theorem dX0_movePrices_4 : decode cX0_movePrices 4 = .ok (.iload_n 3, 1) := by decide +kernel
theorem dX0_movePrices_5 : decode cX0_movePrices 5 = .ok (.aload_n 0, 1) := by decide +kernel
theorem dX0_movePrices_6 : decode cX0_movePrices 6 = .ok (.getfield 27, 3) := by decide +kernel
theorem dX0_movePrices_9 : decode cX0_movePrices 9 = .ok (.getfield 73, 3) := by decide +kernel
theorem dX0_movePrices_12 : decode cX0_movePrices 12 = .ok (.bipush 7, 2) := by decide +kernel
theorem dX0_movePrices_14 : decode cX0_movePrices 14 = .ok (.imul, 1) := by decide +kernel
theorem dX0_movePrices_15 : decode cX0_movePrices 15 = .ok (.if_icmp .ge 96, 3) := by decide +kernel
theorem dX0_movePrices_18 : decode cX0_movePrices 18 = .ok (.aload_n 0, 1) := by decide +kernel
theorem dX0_movePrices_19 : decode cX0_movePrices 19 = .ok (.getfield 27, 3) := by decide +kernel
theorem dX0_movePrices_22 : decode cX0_movePrices 22 = .ok (.getfield 76, 3) := by decide +kernel
theorem dX0_movePrices_25 : decode cX0_movePrices 25 = .ok (.iload_n 3, 1) := by decide +kernel
theorem dX0_movePrices_26 : decode cX0_movePrices 26 = .ok (.iaload, 1) := by decide +kernel
theorem dX0_movePrices_27 : decode cX0_movePrices 27 = .ok (.istore 4, 2) := by decide +kernel
theorem dX0_movePrices_29 : decode cX0_movePrices 29 = .ok (.iload 4, 2) := by decide +kernel
theorem dX0_movePrices_31 : decode cX0_movePrices 31 = .ok (.iconst (-1), 1) := by decide +kernel
theorem dX0_movePrices_32 : decode cX0_movePrices 32 = .ok (.if_icmp .eq 37, 3) := by decide +kernel
theorem dX0_movePrices_35 : decode cX0_movePrices 35 = .ok (.aload_n 1, 1) := by decide +kernel
theorem dX0_movePrices_36 : decode cX0_movePrices 36 = .ok (.iload_n 3, 1) := by decide +kernel
theorem dX0_movePrices_37 : decode cX0_movePrices 37 = .ok (.iaload, 1) := by decide +kernel
theorem dX0_movePrices_38 : decode cX0_movePrices 38 = .ok (.iload 4, 2) := by decide +kernel
theorem dX0_movePrices_40 : decode cX0_movePrices 40 = .ok (.if_icmp .le 29, 3) := by decide +kernel
theorem dX0_movePrices_43 : decode cX0_movePrices 43 = .ok (.aload_n 0, 1) := by decide +kernel
theorem dX0_movePrices_44 : decode cX0_movePrices 44 = .ok (.getfield 9, 3) := by decide +kernel
theorem dX0_movePrices_47 : decode cX0_movePrices 47 = .ok (.iload_n 3, 1) := by decide +kernel
theorem dX0_movePrices_48 : decode cX0_movePrices 48 = .ok (.iaload, 1) := by decide +kernel
theorem dX0_movePrices_49 : decode cX0_movePrices 49 = .ok (.bipush 20, 2) := by decide +kernel
theorem dX0_movePrices_51 : decode cX0_movePrices 51 = .ok (.if_icmp .ge 18, 3) := by decide +kernel
theorem dX0_movePrices_54 : decode cX0_movePrices 54 = .ok (.aload_n 0, 1) := by decide +kernel
theorem dX0_movePrices_55 : decode cX0_movePrices 55 = .ok (.getfield 9, 3) := by decide +kernel
theorem dX0_movePrices_58 : decode cX0_movePrices 58 = .ok (.iload_n 3, 1) := by decide +kernel
theorem dX0_movePrices_59 : decode cX0_movePrices 59 = .ok (.dup2, 1) := by decide +kernel
theorem dX0_movePrices_60 : decode cX0_movePrices 60 = .ok (.iaload, 1) := by decide +kernel
theorem dX0_movePrices_61 : decode cX0_movePrices 61 = .ok (.iconst 1, 1) := by decide +kernel
theorem dX0_movePrices_62 : decode cX0_movePrices 62 = .ok (.iadd, 1) := by decide +kernel
theorem dX0_movePrices_63 : decode cX0_movePrices 63 = .ok (.iastore, 1) := by decide +kernel
theorem dX0_movePrices_64 : decode cX0_movePrices 64 = .ok (.iconst 1, 1) := by decide +kernel
theorem dX0_movePrices_65 : decode cX0_movePrices 65 = .ok (.istore_n 2, 1) := by decide +kernel
theorem dX0_movePrices_66 : decode cX0_movePrices 66 = .ok (.goto 39, 3) := by decide +kernel
theorem dX0_movePrices_69 : decode cX0_movePrices 69 = .ok (.iload 4, 2) := by decide +kernel
theorem dX0_movePrices_71 : decode cX0_movePrices 71 = .ok (.iconst (-1), 1) := by decide +kernel
theorem dX0_movePrices_72 : decode cX0_movePrices 72 = .ok (.if_icmp .eq 33, 3) := by decide +kernel
theorem dX0_movePrices_75 : decode cX0_movePrices 75 = .ok (.aload_n 1, 1) := by decide +kernel
theorem dX0_movePrices_76 : decode cX0_movePrices 76 = .ok (.iload_n 3, 1) := by decide +kernel
theorem dX0_movePrices_77 : decode cX0_movePrices 77 = .ok (.iaload, 1) := by decide +kernel
theorem dX0_movePrices_78 : decode cX0_movePrices 78 = .ok (.iload 4, 2) := by decide +kernel
theorem dX0_movePrices_80 : decode cX0_movePrices 80 = .ok (.if_icmp .ge 25, 3) := by decide +kernel
theorem dX0_movePrices_83 : decode cX0_movePrices 83 = .ok (.aload_n 0, 1) := by decide +kernel
theorem dX0_movePrices_84 : decode cX0_movePrices 84 = .ok (.getfield 9, 3) := by decide +kernel
theorem dX0_movePrices_87 : decode cX0_movePrices 87 = .ok (.iload_n 3, 1) := by decide +kernel
theorem dX0_movePrices_88 : decode cX0_movePrices 88 = .ok (.iaload, 1) := by decide +kernel
theorem dX0_movePrices_89 : decode cX0_movePrices 89 = .ok (.iconst 1, 1) := by decide +kernel
theorem dX0_movePrices_90 : decode cX0_movePrices 90 = .ok (.if_icmp .le 15, 3) := by decide +kernel
theorem dX0_movePrices_93 : decode cX0_movePrices 93 = .ok (.aload_n 0, 1) := by decide +kernel
theorem dX0_movePrices_94 : decode cX0_movePrices 94 = .ok (.getfield 9, 3) := by decide +kernel
theorem dX0_movePrices_97 : decode cX0_movePrices 97 = .ok (.iload_n 3, 1) := by decide +kernel
theorem dX0_movePrices_98 : decode cX0_movePrices 98 = .ok (.dup2, 1) := by decide +kernel
theorem dX0_movePrices_99 : decode cX0_movePrices 99 = .ok (.iaload, 1) := by decide +kernel
theorem dX0_movePrices_100 : decode cX0_movePrices 100 = .ok (.iconst 1, 1) := by decide +kernel
theorem dX0_movePrices_101 : decode cX0_movePrices 101 = .ok (.isub, 1) := by decide +kernel
theorem dX0_movePrices_102 : decode cX0_movePrices 102 = .ok (.iastore, 1) := by decide +kernel
theorem dX0_movePrices_103 : decode cX0_movePrices 103 = .ok (.iconst 1, 1) := by decide +kernel
theorem dX0_movePrices_104 : decode cX0_movePrices 104 = .ok (.istore_n 2, 1) := by decide +kernel
theorem dX0_movePrices_105 : decode cX0_movePrices 105 = .ok (.iinc 3 1, 3) := by decide +kernel
theorem dX0_movePrices_108 : decode cX0_movePrices 108 = .ok (.goto (-104), 3) := by decide +kernel
theorem dX0_movePrices_111 : decode cX0_movePrices 111 = .ok (.iload_n 2, 1) := by decide +kernel
theorem dX0_movePrices_112 : decode cX0_movePrices 112 = .ok (.ireturn, 1) := by decide +kernel
theorem dX1_init_0 : decode cX1_init 0 = .ok (.aload_n 0, 1) := by decide +kernel
theorem dX1_init_1 : decode cX1_init 1 = .ok (.invokespecial 3, 3) := by decide +kernel
theorem dX1_init_4 : decode cX1_init 4 = .ok (.aload_n 0, 1) := by decide +kernel
theorem dX1_init_5 : decode cX1_init 5 = .ok (.bipush 8, 2) := by decide +kernel
theorem dX1_init_7 : decode cX1_init 7 = .ok (.newarray .int, 2) := by decide +kernel
theorem dX1_init_9 : decode cX1_init 9 = .ok (.putfield 9, 3) := by decide +kernel
theorem dX1_init_12 : decode cX1_init 12 = .ok (.aload_n 0, 1) := by decide +kernel
theorem dX1_init_13 : decode cX1_init 13 = .ok (.bipush 8, 2) := by decide +kernel
theorem dX1_init_15 : decode cX1_init 15 = .ok (.newarray .int, 2) := by decide +kernel
theorem dX1_init_17 : decode cX1_init 17 = .ok (.putfield 15, 3) := by decide +kernel
theorem dX1_init_20 : decode cX1_init 20 = .ok (.aload_n 0, 1) := by decide +kernel
theorem dX1_init_21 : decode cX1_init 21 = .ok (.iconst 0, 1) := by decide +kernel
theorem dX1_init_22 : decode cX1_init 22 = .ok (.putfield 18, 3) := by decide +kernel
theorem dX1_init_25 : decode cX1_init 25 = .ok (.return_, 1) := by decide +kernel
theorem dX1_forget_0 : decode cX1_forget 0 = .ok (.aload_n 0, 1) := by decide +kernel
theorem dX1_forget_1 : decode cX1_forget 1 = .ok (.getfield 15, 3) := by decide +kernel
theorem dX1_forget_4 : decode cX1_forget 4 = .ok (.iconst 0, 1) := by decide +kernel
theorem dX1_forget_5 : decode cX1_forget 5 = .ok (.invokestatic 22, 3) := by decide +kernel
theorem dX1_forget_8 : decode cX1_forget 8 = .ok (.return_, 1) := by decide +kernel
theorem dX1_takeDraft_0 : decode cX1_takeDraft 0 = .ok (.aload_n 0, 1) := by decide +kernel
theorem dX1_takeDraft_1 : decode cX1_takeDraft 1 = .ok (.getfield 9, 3) := by decide +kernel
theorem dX1_takeDraft_4 : decode cX1_takeDraft 4 = .ok (.iconst 0, 1) := by decide +kernel
theorem dX1_takeDraft_5 : decode cX1_takeDraft 5 = .ok (.aload_n 0, 1) := by decide +kernel
theorem dX1_takeDraft_6 : decode cX1_takeDraft 6 = .ok (.getfield 15, 3) := by decide +kernel
theorem dX1_takeDraft_9 : decode cX1_takeDraft 9 = .ok (.iconst 0, 1) := by decide +kernel
theorem dX1_takeDraft_10 : decode cX1_takeDraft 10 = .ok (.aload_n 0, 1) := by decide +kernel
theorem dX1_takeDraft_11 : decode cX1_takeDraft 11 = .ok (.getfield 15, 3) := by decide +kernel
theorem dX1_takeDraft_14 : decode cX1_takeDraft 14 = .ok (.arraylength, 1) := by decide +kernel
theorem dX1_takeDraft_15 : decode cX1_takeDraft 15 = .ok (.invokestatic 28, 3) := by decide +kernel
theorem dX1_takeDraft_18 : decode cX1_takeDraft 18 = .ok (.return_, 1) := by decide +kernel
theorem dX1_start_0 : decode cX1_start 0 = .ok (.iconst 0, 1) := by decide +kernel
theorem dX1_start_1 : decode cX1_start 1 = .ok (.istore 4, 2) := by decide +kernel
theorem dX1_start_3 : decode cX1_start 3 = .ok (.iconst 0, 1) := by decide +kernel
theorem dX1_start_4 : decode cX1_start 4 = .ok (.istore 5, 2) := by decide +kernel
theorem dX1_start_6 : decode cX1_start 6 = .ok (.iconst 0, 1) := by decide +kernel
theorem dX1_start_7 : decode cX1_start 7 = .ok (.istore 6, 2) := by decide +kernel
theorem dX1_start_9 : decode cX1_start 9 = .ok (.iload 6, 2) := by decide +kernel
theorem dX1_start_11 : decode cX1_start 11 = .ok (.aload_n 1, 1) := by decide +kernel
theorem dX1_start_12 : decode cX1_start 12 = .ok (.getfield 34, 3) := by decide +kernel
theorem dX1_start_15 : decode cX1_start 15 = .ok (.if_icmp .ge 40, 3) := by decide +kernel
theorem dX1_start_18 : decode cX1_start 18 = .ok (.iload 5, 2) := by decide +kernel
theorem dX1_start_20 : decode cX1_start 20 = .ok (.aload_n 1, 1) := by decide +kernel
theorem dX1_start_21 : decode cX1_start 21 = .ok (.getfield 37, 3) := by decide +kernel
theorem dX1_start_24 : decode cX1_start 24 = .ok (.iload 6, 2) := by decide +kernel
theorem dX1_start_26 : decode cX1_start 26 = .ok (.iaload, 1) := by decide +kernel
theorem dX1_start_27 : decode cX1_start 27 = .ok (.iadd, 1) := by decide +kernel
theorem dX1_start_28 : decode cX1_start 28 = .ok (.istore 5, 2) := by decide +kernel
theorem dX1_start_30 : decode cX1_start 30 = .ok (.iload 4, 2) := by decide +kernel
theorem dX1_start_32 : decode cX1_start 32 = .ok (.iload_n 2, 1) := by decide +kernel
theorem dX1_start_33 : decode cX1_start 33 = .ok (.iload 6, 2) := by decide +kernel
theorem dX1_start_35 : decode cX1_start 35 = .ok (.ishr, 1) := by decide +kernel
theorem dX1_start_36 : decode cX1_start 36 = .ok (.iconst 1, 1) := by decide +kernel
theorem dX1_start_37 : decode cX1_start 37 = .ok (.iand, 1) := by decide +kernel
theorem dX1_start_38 : decode cX1_start 38 = .ok (.aload_n 1, 1) := by decide +kernel
theorem dX1_start_39 : decode cX1_start 39 = .ok (.getfield 37, 3) := by decide +kernel
theorem dX1_start_42 : decode cX1_start 42 = .ok (.iload 6, 2) := by decide +kernel
theorem dX1_start_44 : decode cX1_start 44 = .ok (.iaload, 1) := by decide +kernel
theorem dX1_start_45 : decode cX1_start 45 = .ok (.imul, 1) := by decide +kernel
theorem dX1_start_46 : decode cX1_start 46 = .ok (.iadd, 1) := by decide +kernel
theorem dX1_start_47 : decode cX1_start 47 = .ok (.istore 4, 2) := by decide +kernel
theorem dX1_start_49 : decode cX1_start 49 = .ok (.iinc 6 1, 3) := by decide +kernel
theorem dX1_start_52 : decode cX1_start 52 = .ok (.goto (-43), 3) := by decide +kernel
theorem dX1_start_55 : decode cX1_start 55 = .ok (.aload_n 0, 1) := by decide +kernel
theorem dX1_start_56 : decode cX1_start 56 = .ok (.aload_n 1, 1) := by decide +kernel
theorem dX1_start_57 : decode cX1_start 57 = .ok (.getfield 34, 3) := by decide +kernel
theorem dX1_start_60 : decode cX1_start 60 = .ok (.putfield 18, 3) := by decide +kernel
theorem dX1_start_63 : decode cX1_start 63 = .ok (.aload_n 0, 1) := by decide +kernel
theorem dX1_start_64 : decode cX1_start 64 = .ok (.iload_n 2, 1) := by decide +kernel
theorem dX1_start_65 : decode cX1_start 65 = .ok (.putfield 40, 3) := by decide +kernel
theorem dX1_start_68 : decode cX1_start 68 = .ok (.aload_n 0, 1) := by decide +kernel
theorem dX1_start_69 : decode cX1_start 69 = .ok (.bipush 10, 2) := by decide +kernel
theorem dX1_start_71 : decode cX1_start 71 = .ok (.iload_n 3, 1) := by decide +kernel
theorem dX1_start_72 : decode cX1_start 72 = .ok (.imul, 1) := by decide +kernel
theorem dX1_start_73 : decode cX1_start 73 = .ok (.i2l, 1) := by decide +kernel
theorem dX1_start_74 : decode cX1_start 74 = .ok (.putfield 43, 3) := by decide +kernel
theorem dX1_start_77 : decode cX1_start 77 = .ok (.aload_n 0, 1) := by decide +kernel
theorem dX1_start_78 : decode cX1_start 78 = .ok (.iload 5, 2) := by decide +kernel
theorem dX1_start_80 : decode cX1_start 80 = .ok (.iconst 1, 1) := by decide +kernel
theorem dX1_start_81 : decode cX1_start 81 = .ok (.if_icmp .ge 7, 3) := by decide +kernel
theorem dX1_start_84 : decode cX1_start 84 = .ok (.lconst 0, 1) := by decide +kernel
theorem dX1_start_85 : decode cX1_start 85 = .ok (.goto 15, 3) := by decide +kernel
theorem dX1_start_88 : decode cX1_start 88 = .ok (.aload_n 0, 1) := by decide +kernel
theorem dX1_start_89 : decode cX1_start 89 = .ok (.getfield 43, 3) := by decide +kernel
theorem dX1_start_92 : decode cX1_start 92 = .ok (.iload 4, 2) := by decide +kernel
theorem dX1_start_94 : decode cX1_start 94 = .ok (.i2l, 1) := by decide +kernel
theorem dX1_start_95 : decode cX1_start 95 = .ok (.lmul, 1) := by decide +kernel
theorem dX1_start_96 : decode cX1_start 96 = .ok (.iload 5, 2) := by decide +kernel
theorem dX1_start_98 : decode cX1_start 98 = .ok (.i2l, 1) := by decide +kernel
theorem dX1_start_99 : decode cX1_start 99 = .ok (.ldiv, 1) := by decide +kernel
theorem dX1_start_100 : decode cX1_start 100 = .ok (.putfield 47, 3) := by decide +kernel
theorem dX1_start_103 : decode cX1_start 103 = .ok (.return_, 1) := by decide +kernel
theorem dX1_goOn_0 : decode cX1_goOn 0 = .ok (.ldc2_w 50, 3) := by decide +kernel
theorem dX1_goOn_3 : decode cX1_goOn 3 = .ok (.aload_n 0, 1) := by decide +kernel
theorem dX1_goOn_4 : decode cX1_goOn 4 = .ok (.getfield 15, 3) := by decide +kernel
theorem dX1_goOn_7 : decode cX1_goOn 7 = .ok (.iconst 2, 1) := by decide +kernel
theorem dX1_goOn_8 : decode cX1_goOn 8 = .ok (.iload_n 1, 1) := by decide +kernel
theorem dX1_goOn_9 : decode cX1_goOn 9 = .ok (.imul, 1) := by decide +kernel
theorem dX1_goOn_10 : decode cX1_goOn 10 = .ok (.iaload, 1) := by decide +kernel
theorem dX1_goOn_11 : decode cX1_goOn 11 = .ok (.i2l, 1) := by decide +kernel
theorem dX1_goOn_12 : decode cX1_goOn 12 = .ok (.lmul, 1) := by decide +kernel
theorem dX1_goOn_13 : decode cX1_goOn 13 = .ok (.lstore 4, 2) := by decide +kernel
theorem dX1_goOn_15 : decode cX1_goOn 15 = .ok (.ldc2_w 50, 3) := by decide +kernel
theorem dX1_goOn_18 : decode cX1_goOn 18 = .ok (.aload_n 0, 1) := by decide +kernel
theorem dX1_goOn_19 : decode cX1_goOn 19 = .ok (.getfield 15, 3) := by decide +kernel
theorem dX1_goOn_22 : decode cX1_goOn 22 = .ok (.iconst 2, 1) := by decide +kernel
theorem dX1_goOn_23 : decode cX1_goOn 23 = .ok (.iload_n 1, 1) := by decide +kernel
theorem dX1_goOn_24 : decode cX1_goOn 24 = .ok (.imul, 1) := by decide +kernel
theorem dX1_goOn_25 : decode cX1_goOn 25 = .ok (.iconst 1, 1) := by decide +kernel
theorem dX1_goOn_26 : decode cX1_goOn 26 = .ok (.iadd, 1) := by decide +kernel
theorem dX1_goOn_27 : decode cX1_goOn 27 = .ok (.iaload, 1) := by decide +kernel
theorem dX1_goOn_28 : decode cX1_goOn 28 = .ok (.i2l, 1) := by decide +kernel
theorem dX1_goOn_29 : decode cX1_goOn 29 = .ok (.lmul, 1) := by decide +kernel
theorem dX1_goOn_30 : decode cX1_goOn 30 = .ok (.lstore 6, 2) := by decide +kernel
theorem dX1_goOn_32 : decode cX1_goOn 32 = .ok (.aload_n 0, 1) := by decide +kernel
theorem dX1_goOn_33 : decode cX1_goOn 33 = .ok (.getfield 40, 3) := by decide +kernel
theorem dX1_goOn_36 : decode cX1_goOn 36 = .ok (.iload_n 1, 1) := by decide +kernel
theorem dX1_goOn_37 : decode cX1_goOn 37 = .ok (.ishr, 1) := by decide +kernel
theorem dX1_goOn_38 : decode cX1_goOn 38 = .ok (.iconst 1, 1) := by decide +kernel
theorem dX1_goOn_39 : decode cX1_goOn 39 = .ok (.iand, 1) := by decide +kernel
theorem dX1_goOn_40 : decode cX1_goOn 40 = .ok (.ifCond .eq 7, 3) := by decide +kernel
theorem dX1_goOn_43 : decode cX1_goOn 43 = .ok (.iconst 1, 1) := by decide +kernel
theorem dX1_goOn_44 : decode cX1_goOn 44 = .ok (.goto 4, 3) := by decide +kernel
theorem dX1_goOn_47 : decode cX1_goOn 47 = .ok (.iconst 0, 1) := by decide +kernel
theorem dX1_goOn_48 : decode cX1_goOn 48 = .ok (.istore 8, 2) := by decide +kernel
theorem dX1_goOn_50 : decode cX1_goOn 50 = .ok (.aload_n 0, 1) := by decide +kernel
theorem dX1_goOn_51 : decode cX1_goOn 51 = .ok (.lconst 0, 1) := by decide +kernel
theorem dX1_goOn_52 : decode cX1_goOn 52 = .ok (.putfield 52, 3) := by decide +kernel
theorem dX1_goOn_55 : decode cX1_goOn 55 = .ok (.aload_n 0, 1) := by decide +kernel
theorem dX1_goOn_56 : decode cX1_goOn 56 = .ok (.lconst 0, 1) := by decide +kernel
theorem dX1_goOn_57 : decode cX1_goOn 57 = .ok (.putfield 55, 3) := by decide +kernel
theorem dX1_goOn_60 : decode cX1_goOn 60 = .ok (.iconst 0, 1) := by decide +kernel
theorem dX1_goOn_61 : decode cX1_goOn 61 = .ok (.istore 9, 2) := by decide +kernel
theorem dX1_goOn_63 : decode cX1_goOn 63 = .ok (.iload 9, 2) := by decide +kernel
theorem dX1_goOn_65 : decode cX1_goOn 65 = .ok (.iload_n 3, 1) := by decide +kernel
theorem dX1_goOn_66 : decode cX1_goOn 66 = .ok (.if_icmp .ge 107, 3) := by decide +kernel
theorem dX1_goOn_69 : decode cX1_goOn 69 = .ok (.aload_n 0, 1) := by decide +kernel
theorem dX1_goOn_70 : decode cX1_goOn 70 = .ok (.getfield 47, 3) := by decide +kernel
theorem dX1_goOn_73 : decode cX1_goOn 73 = .ok (.lload 4, 2) := by decide +kernel
theorem dX1_goOn_75 : decode cX1_goOn 75 = .ok (.aload_n 0, 1) := by decide +kernel
theorem dX1_goOn_76 : decode cX1_goOn 76 = .ok (.getfield 55, 3) := by decide +kernel
theorem dX1_goOn_79 : decode cX1_goOn 79 = .ok (.ladd, 1) := by decide +kernel
theorem dX1_goOn_80 : decode cX1_goOn 80 = .ok (.lmul, 1) := by decide +kernel
theorem dX1_goOn_81 : decode cX1_goOn 81 = .ok (.ldc2_w 50, 3) := by decide +kernel
theorem dX1_goOn_84 : decode cX1_goOn 84 = .ok (.aload_n 0, 1) := by decide +kernel
theorem dX1_goOn_85 : decode cX1_goOn 85 = .ok (.getfield 47, 3) := by decide +kernel
theorem dX1_goOn_88 : decode cX1_goOn 88 = .ok (.lsub, 1) := by decide +kernel
theorem dX1_goOn_89 : decode cX1_goOn 89 = .ok (.aload_n 0, 1) := by decide +kernel
theorem dX1_goOn_90 : decode cX1_goOn 90 = .ok (.getfield 52, 3) := by decide +kernel
theorem dX1_goOn_93 : decode cX1_goOn 93 = .ok (.lmul, 1) := by decide +kernel
theorem dX1_goOn_94 : decode cX1_goOn 94 = .ok (.ladd, 1) := by decide +kernel
theorem dX1_goOn_95 : decode cX1_goOn 95 = .ok (.ldc2_w 50, 3) := by decide +kernel
theorem dX1_goOn_98 : decode cX1_goOn 98 = .ok (.ldiv, 1) := by decide +kernel
theorem dX1_goOn_99 : decode cX1_goOn 99 = .ok (.lstore 10, 2) := by decide +kernel
theorem dX1_goOn_101 : decode cX1_goOn 101 = .ok (.aload_n 0, 1) := by decide +kernel
theorem dX1_goOn_102 : decode cX1_goOn 102 = .ok (.getfield 52, 3) := by decide +kernel
theorem dX1_goOn_105 : decode cX1_goOn 105 = .ok (.lload 10, 2) := by decide +kernel
theorem dX1_goOn_107 : decode cX1_goOn 107 = .ok (.invokestatic 58, 3) := by decide +kernel
theorem dX1_goOn_110 : decode cX1_goOn 110 = .ok (.lstore 12, 2) := by decide +kernel
theorem dX1_goOn_112 : decode cX1_goOn 112 = .ok (.iload 8, 2) := by decide +kernel
theorem dX1_goOn_114 : decode cX1_goOn 114 = .ok (.ifCond .eq 37, 3) := by decide +kernel
theorem dX1_goOn_117 : decode cX1_goOn 117 = .ok (.aload_n 0, 1) := by decide +kernel
theorem dX1_goOn_118 : decode cX1_goOn 118 = .ok (.aload_n 0, 1) := by decide +kernel
theorem dX1_goOn_119 : decode cX1_goOn 119 = .ok (.getfield 43, 3) := by decide +kernel
theorem dX1_goOn_122 : decode cX1_goOn 122 = .ok (.aload_n 0, 1) := by decide +kernel
theorem dX1_goOn_123 : decode cX1_goOn 123 = .ok (.getfield 52, 3) := by decide +kernel
theorem dX1_goOn_126 : decode cX1_goOn 126 = .ok (.lload 6, 2) := by decide +kernel
theorem dX1_goOn_128 : decode cX1_goOn 128 = .ok (.lsub, 1) := by decide +kernel
theorem dX1_goOn_129 : decode cX1_goOn 129 = .ok (.lmul, 1) := by decide +kernel
theorem dX1_goOn_130 : decode cX1_goOn 130 = .ok (.ldc2_w 50, 3) := by decide +kernel
theorem dX1_goOn_133 : decode cX1_goOn 133 = .ok (.aload_n 0, 1) := by decide +kernel
theorem dX1_goOn_134 : decode cX1_goOn 134 = .ok (.getfield 43, 3) := by decide +kernel
theorem dX1_goOn_137 : decode cX1_goOn 137 = .ok (.lsub, 1) := by decide +kernel
theorem dX1_goOn_138 : decode cX1_goOn 138 = .ok (.aload_n 0, 1) := by decide +kernel
theorem dX1_goOn_139 : decode cX1_goOn 139 = .ok (.getfield 55, 3) := by decide +kernel
theorem dX1_goOn_142 : decode cX1_goOn 142 = .ok (.lmul, 1) := by decide +kernel
theorem dX1_goOn_143 : decode cX1_goOn 143 = .ok (.ladd, 1) := by decide +kernel
theorem dX1_goOn_144 : decode cX1_goOn 144 = .ok (.ldc2_w 50, 3) := by decide +kernel
theorem dX1_goOn_147 : decode cX1_goOn 147 = .ok (.ldiv, 1) := by decide +kernel
theorem dX1_goOn_148 : decode cX1_goOn 148 = .ok (.putfield 55, 3) := by decide +kernel
theorem dX1_goOn_151 : decode cX1_goOn 151 = .ok (.aload_n 0, 1) := by decide +kernel
theorem dX1_goOn_152 : decode cX1_goOn 152 = .ok (.lload 12, 2) := by decide +kernel
theorem dX1_goOn_154 : decode cX1_goOn 154 = .ok (.lload 12, 2) := by decide +kernel
theorem dX1_goOn_156 : decode cX1_goOn 156 = .ok (.iload_n 2, 1) := by decide +kernel
theorem dX1_goOn_157 : decode cX1_goOn 157 = .ok (.i2l, 1) := by decide +kernel
theorem dX1_goOn_158 : decode cX1_goOn 158 = .ok (.lmul, 1) := by decide +kernel
theorem dX1_goOn_159 : decode cX1_goOn 159 = .ok (.ldc2_w 50, 3) := by decide +kernel
theorem dX1_goOn_162 : decode cX1_goOn 162 = .ok (.ldiv, 1) := by decide +kernel
theorem dX1_goOn_163 : decode cX1_goOn 163 = .ok (.lsub, 1) := by decide +kernel
theorem dX1_goOn_164 : decode cX1_goOn 164 = .ok (.putfield 52, 3) := by decide +kernel
theorem dX1_goOn_167 : decode cX1_goOn 167 = .ok (.iinc 9 1, 3) := by decide +kernel
theorem dX1_goOn_170 : decode cX1_goOn 170 = .ok (.goto (-107), 3) := by decide +kernel
theorem dX1_goOn_173 : decode cX1_goOn 173 = .ok (.return_, 1) := by decide +kernel
theorem dX1_isAtRest_0 : decode cX1_isAtRest 0 = .ok (.iconst 0, 1) := by decide +kernel
theorem dX1_isAtRest_1 : decode cX1_isAtRest 1 = .ok (.istore_n 3, 1) := by decide +kernel
theorem dX1_isAtRest_2 : decode cX1_isAtRest 2 = .ok (.iload_n 3, 1) := by decide +kernel
theorem dX1_isAtRest_3 : decode cX1_isAtRest 3 = .ok (.aload_n 0, 1) := by decide +kernel
theorem dX1_isAtRest_4 : decode cX1_isAtRest 4 = .ok (.getfield 18, 3) := by decide +kernel
theorem dX1_isAtRest_7 : decode cX1_isAtRest 7 = .ok (.if_icmp .ge 74, 3) := by decide +kernel
theorem dX1_isAtRest_10 : decode cX1_isAtRest 10 = .ok (.aload_n 0, 1) := by decide +kernel
theorem dX1_isAtRest_11 : decode cX1_isAtRest 11 = .ok (.iload_n 3, 1) := by decide +kernel
theorem dX1_isAtRest_12 : decode cX1_isAtRest 12 = .ok (.iload_n 1, 1) := by decide +kernel
theorem dX1_isAtRest_13 : decode cX1_isAtRest 13 = .ok (.iload_n 2, 1) := by decide +kernel
theorem dX1_isAtRest_14 : decode cX1_isAtRest 14 = .ok (.invokevirtual 64, 3) := by decide +kernel
theorem dX1_isAtRest_17 : decode cX1_isAtRest 17 = .ok (.aload_n 0, 1) := by decide +kernel
theorem dX1_isAtRest_18 : decode cX1_isAtRest 18 = .ok (.getfield 52, 3) := by decide +kernel
theorem dX1_isAtRest_21 : decode cX1_isAtRest 21 = .ok (.aload_n 0, 1) := by decide +kernel
theorem dX1_isAtRest_22 : decode cX1_isAtRest 22 = .ok (.getfield 55, 3) := by decide +kernel
theorem dX1_isAtRest_25 : decode cX1_isAtRest 25 = .ok (.lsub, 1) := by decide +kernel
theorem dX1_isAtRest_26 : decode cX1_isAtRest 26 = .ok (.ldc2_w 50, 3) := by decide +kernel
theorem dX1_isAtRest_29 : decode cX1_isAtRest 29 = .ok (.aload_n 0, 1) := by decide +kernel
theorem dX1_isAtRest_30 : decode cX1_isAtRest 30 = .ok (.getfield 15, 3) := by decide +kernel
theorem dX1_isAtRest_33 : decode cX1_isAtRest 33 = .ok (.iconst 2, 1) := by decide +kernel
theorem dX1_isAtRest_34 : decode cX1_isAtRest 34 = .ok (.iload_n 3, 1) := by decide +kernel
theorem dX1_isAtRest_35 : decode cX1_isAtRest 35 = .ok (.imul, 1) := by decide +kernel
theorem dX1_isAtRest_36 : decode cX1_isAtRest 36 = .ok (.iconst 1, 1) := by decide +kernel
theorem dX1_isAtRest_37 : decode cX1_isAtRest 37 = .ok (.iadd, 1) := by decide +kernel
theorem dX1_isAtRest_38 : decode cX1_isAtRest 38 = .ok (.iaload, 1) := by decide +kernel
theorem dX1_isAtRest_39 : decode cX1_isAtRest 39 = .ok (.i2l, 1) := by decide +kernel
theorem dX1_isAtRest_40 : decode cX1_isAtRest 40 = .ok (.lmul, 1) := by decide +kernel
theorem dX1_isAtRest_41 : decode cX1_isAtRest 41 = .ok (.lcmp, 1) := by decide +kernel
theorem dX1_isAtRest_42 : decode cX1_isAtRest 42 = .ok (.ifCond .lt 7, 3) := by decide +kernel
theorem dX1_isAtRest_45 : decode cX1_isAtRest 45 = .ok (.iconst 1, 1) := by decide +kernel
theorem dX1_isAtRest_46 : decode cX1_isAtRest 46 = .ok (.goto 4, 3) := by decide +kernel
theorem dX1_isAtRest_49 : decode cX1_isAtRest 49 = .ok (.iconst 0, 1) := by decide +kernel
theorem dX1_isAtRest_50 : decode cX1_isAtRest 50 = .ok (.istore 4, 2) := by decide +kernel
theorem dX1_isAtRest_52 : decode cX1_isAtRest 52 = .ok (.iload 4, 2) := by decide +kernel
theorem dX1_isAtRest_54 : decode cX1_isAtRest 54 = .ok (.aload_n 0, 1) := by decide +kernel
theorem dX1_isAtRest_55 : decode cX1_isAtRest 55 = .ok (.getfield 40, 3) := by decide +kernel
theorem dX1_isAtRest_58 : decode cX1_isAtRest 58 = .ok (.iload_n 3, 1) := by decide +kernel
theorem dX1_isAtRest_59 : decode cX1_isAtRest 59 = .ok (.ishr, 1) := by decide +kernel
theorem dX1_isAtRest_60 : decode cX1_isAtRest 60 = .ok (.iconst 1, 1) := by decide +kernel
theorem dX1_isAtRest_61 : decode cX1_isAtRest 61 = .ok (.iand, 1) := by decide +kernel
theorem dX1_isAtRest_62 : decode cX1_isAtRest 62 = .ok (.ifCond .eq 7, 3) := by decide +kernel
theorem dX1_isAtRest_65 : decode cX1_isAtRest 65 = .ok (.iconst 1, 1) := by decide +kernel
theorem dX1_isAtRest_66 : decode cX1_isAtRest 66 = .ok (.goto 4, 3) := by decide +kernel
theorem dX1_isAtRest_69 : decode cX1_isAtRest 69 = .ok (.iconst 0, 1) := by decide +kernel
theorem dX1_isAtRest_70 : decode cX1_isAtRest 70 = .ok (.if_icmp .eq 5, 3) := by decide +kernel
theorem dX1_isAtRest_73 : decode cX1_isAtRest 73 = .ok (.iconst 0, 1) := by decide +kernel
theorem dX1_isAtRest_74 : decode cX1_isAtRest 74 = .ok (.ireturn, 1) := by decide +kernel
theorem dX1_isAtRest_75 : decode cX1_isAtRest 75 = .ok (.iinc 3 1, 3) := by decide +kernel
theorem dX1_isAtRest_78 : decode cX1_isAtRest 78 = .ok (.goto (-76), 3) := by decide +kernel
theorem dX1_isAtRest_81 : decode cX1_isAtRest 81 = .ok (.iconst 1, 1) := by decide +kernel
theorem dX1_isAtRest_82 : decode cX1_isAtRest 82 = .ok (.ireturn, 1) := by decide +kernel
theorem dX2_init_0 : decode cX2_init 0 = .ok (.aload_n 0, 1) := by decide +kernel
theorem dX2_init_1 : decode cX2_init 1 = .ok (.invokespecial 3, 3) := by decide +kernel
theorem dX2_init_4 : decode cX2_init 4 = .ok (.aload_n 0, 1) := by decide +kernel
theorem dX2_init_5 : decode cX2_init 5 = .ok (.new 9, 3) := by decide +kernel
theorem dX2_init_8 : decode cX2_init 8 = .ok (.dup, 1) := by decide +kernel
theorem dX2_init_9 : decode cX2_init 9 = .ok (.invokespecial 11, 3) := by decide +kernel
theorem dX2_init_12 : decode cX2_init 12 = .ok (.putfield 12, 3) := by decide +kernel
theorem dX2_init_15 : decode cX2_init 15 = .ok (.aload_n 0, 1) := by decide +kernel
theorem dX2_init_16 : decode cX2_init 16 = .ok (.sipush 168, 3) := by decide +kernel
theorem dX2_init_19 : decode cX2_init 19 = .ok (.newarray .long, 2) := by decide +kernel
theorem dX2_init_21 : decode cX2_init 21 = .ok (.putfield 18, 3) := by decide +kernel
theorem dX2_init_24 : decode cX2_init 24 = .ok (.aload_n 0, 1) := by decide +kernel
theorem dX2_init_25 : decode cX2_init 25 = .ok (.bipush 6, 2) := by decide +kernel
theorem dX2_init_27 : decode cX2_init 27 = .ok (.newarray .long, 2) := by decide +kernel
theorem dX2_init_29 : decode cX2_init 29 = .ok (.putfield 22, 3) := by decide +kernel
theorem dX2_init_32 : decode cX2_init 32 = .ok (.aload_n 0, 1) := by decide +kernel
theorem dX2_init_33 : decode cX2_init 33 = .ok (.sipush 366, 3) := by decide +kernel
theorem dX2_init_36 : decode cX2_init 36 = .ok (.newarray .int, 2) := by decide +kernel
theorem dX2_init_38 : decode cX2_init 38 = .ok (.putfield 25, 3) := by decide +kernel
theorem dX2_init_41 : decode cX2_init 41 = .ok (.aload_n 0, 1) := by decide +kernel
theorem dX2_init_42 : decode cX2_init 42 = .ok (.sipush 366, 3) := by decide +kernel
theorem dX2_init_45 : decode cX2_init 45 = .ok (.newarray .int, 2) := by decide +kernel
theorem dX2_init_47 : decode cX2_init 47 = .ok (.putfield 29, 3) := by decide +kernel
theorem dX2_init_50 : decode cX2_init 50 = .ok (.aload_n 0, 1) := by decide +kernel
theorem dX2_init_51 : decode cX2_init 51 = .ok (.aload_n 1, 1) := by decide +kernel
theorem dX2_init_52 : decode cX2_init 52 = .ok (.putfield 32, 3) := by decide +kernel
theorem dX2_init_55 : decode cX2_init 55 = .ok (.return_, 1) := by decide +kernel
theorem dX2_search_0 : decode cX2_search 0 = .ok (.aload_n 0, 1) := by decide +kernel
theorem dX2_search_1 : decode cX2_search 1 = .ok (.getfield 18, 3) := by decide +kernel
theorem dX2_search_4 : decode cX2_search 4 = .ok (.lconst 0, 1) := by decide +kernel
theorem dX2_search_5 : decode cX2_search 5 = .ok (.invokestatic 36, 3) := by decide +kernel
theorem dX2_search_8 : decode cX2_search 8 = .ok (.aload_n 0, 1) := by decide +kernel
theorem dX2_search_9 : decode cX2_search 9 = .ok (.getfield 18, 3) := by decide +kernel
theorem dX2_search_12 : decode cX2_search 12 = .ok (.iload 4, 2) := by decide +kernel
theorem dX2_search_14 : decode cX2_search 14 = .ok (.lconst 1, 1) := by decide +kernel
theorem dX2_search_15 : decode cX2_search 15 = .ok (.iload_n 3, 1) := by decide +kernel
theorem dX2_search_16 : decode cX2_search 16 = .ok (.lshl, 1) := by decide +kernel
theorem dX2_search_17 : decode cX2_search 17 = .ok (.lastore, 1) := by decide +kernel
theorem dX2_search_18 : decode cX2_search 18 = .ok (.iconst 0, 1) := by decide +kernel
theorem dX2_search_19 : decode cX2_search 19 = .ok (.istore 6, 2) := by decide +kernel
theorem dX2_search_21 : decode cX2_search 21 = .ok (.iload 6, 2) := by decide +kernel
theorem dX2_search_23 : decode cX2_search 23 = .ok (.iload 5, 2) := by decide +kernel
theorem dX2_search_25 : decode cX2_search 25 = .ok (.iconst 1, 1) := by decide +kernel
theorem dX2_search_26 : decode cX2_search 26 = .ok (.isub, 1) := by decide +kernel
theorem dX2_search_27 : decode cX2_search 27 = .ok (.if_icmp .ge 75, 3) := by decide +kernel
theorem dX2_search_30 : decode cX2_search 30 = .ok (.iload_n 2, 1) := by decide +kernel
theorem dX2_search_31 : decode cX2_search 31 = .ok (.iload 6, 2) := by decide +kernel
theorem dX2_search_33 : decode cX2_search 33 = .ok (.iadd, 1) := by decide +kernel
theorem dX2_search_34 : decode cX2_search 34 = .ok (.bipush 7, 2) := by decide +kernel
theorem dX2_search_36 : decode cX2_search 36 = .ok (.irem, 1) := by decide +kernel
theorem dX2_search_37 : decode cX2_search 37 = .ok (.istore 7, 2) := by decide +kernel
theorem dX2_search_39 : decode cX2_search 39 = .ok (.aload_n 0, 1) := by decide +kernel
theorem dX2_search_40 : decode cX2_search 40 = .ok (.getfield 12, 3) := by decide +kernel
theorem dX2_search_43 : decode cX2_search 43 = .ok (.aload_n 0, 1) := by decide +kernel
theorem dX2_search_44 : decode cX2_search 44 = .ok (.getfield 32, 3) := by decide +kernel
theorem dX2_search_47 : decode cX2_search 47 = .ok (.iload_n 1, 1) := by decide +kernel
theorem dX2_search_48 : decode cX2_search 48 = .ok (.iload 7, 2) := by decide +kernel
theorem dX2_search_50 : decode cX2_search 50 = .ok (.invokevirtual 42, 3) := by decide +kernel
theorem dX2_search_53 : decode cX2_search 53 = .ok (.aload_n 0, 1) := by decide +kernel
theorem dX2_search_54 : decode cX2_search 54 = .ok (.iload 6, 2) := by decide +kernel
theorem dX2_search_56 : decode cX2_search 56 = .ok (.ifCond .ne 7, 3) := by decide +kernel
theorem dX2_search_59 : decode cX2_search 59 = .ok (.iconst 0, 1) := by decide +kernel
theorem dX2_search_60 : decode cX2_search 60 = .ok (.goto 21, 3) := by decide +kernel
theorem dX2_search_63 : decode cX2_search 63 = .ok (.aload_n 0, 1) := by decide +kernel
theorem dX2_search_64 : decode cX2_search 64 = .ok (.getfield 32, 3) := by decide +kernel
theorem dX2_search_67 : decode cX2_search 67 = .ok (.getfield 46, 3) := by decide +kernel
theorem dX2_search_70 : decode cX2_search 70 = .ok (.getfield 52, 3) := by decide +kernel
theorem dX2_search_73 : decode cX2_search 73 = .ok (.iload_n 1, 1) := by decide +kernel
theorem dX2_search_74 : decode cX2_search 74 = .ok (.bipush 7, 2) := by decide +kernel
theorem dX2_search_76 : decode cX2_search 76 = .ok (.imul, 1) := by decide +kernel
theorem dX2_search_77 : decode cX2_search 77 = .ok (.iload 7, 2) := by decide +kernel
theorem dX2_search_79 : decode cX2_search 79 = .ok (.iadd, 1) := by decide +kernel
theorem dX2_search_80 : decode cX2_search 80 = .ok (.iaload, 1) := by decide +kernel
theorem dX2_search_81 : decode cX2_search 81 = .ok (.iload 6, 2) := by decide +kernel
theorem dX2_search_83 : decode cX2_search 83 = .ok (.invokevirtual 57, 3) := by decide +kernel
theorem dX2_search_86 : decode cX2_search 86 = .ok (.aload_n 0, 1) := by decide +kernel
theorem dX2_search_87 : decode cX2_search 87 = .ok (.iload 7, 2) := by decide +kernel
theorem dX2_search_89 : decode cX2_search 89 = .ok (.iload 6, 2) := by decide +kernel
theorem dX2_search_91 : decode cX2_search 91 = .ok (.iconst 1, 1) := by decide +kernel
theorem dX2_search_92 : decode cX2_search 92 = .ok (.iadd, 1) := by decide +kernel
theorem dX2_search_93 : decode cX2_search 93 = .ok (.invokevirtual 61, 3) := by decide +kernel
theorem dX2_search_96 : decode cX2_search 96 = .ok (.iinc 6 1, 3) := by decide +kernel
theorem dX2_search_99 : decode cX2_search 99 = .ok (.goto (-78), 3) := by decide +kernel
theorem dX2_search_102 : decode cX2_search 102 = .ok (.aload_n 0, 1) := by decide +kernel
theorem dX2_search_103 : decode cX2_search 103 = .ok (.getfield 29, 3) := by decide +kernel
theorem dX2_search_106 : decode cX2_search 106 = .ok (.iconst 0, 1) := by decide +kernel
theorem dX2_search_107 : decode cX2_search 107 = .ok (.invokestatic 64, 3) := by decide +kernel
theorem dX2_search_110 : decode cX2_search 110 = .ok (.aload_n 0, 1) := by decide +kernel
theorem dX2_search_111 : decode cX2_search 111 = .ok (.iconst 0, 1) := by decide +kernel
theorem dX2_search_112 : decode cX2_search 112 = .ok (.putfield 67, 3) := by decide +kernel
theorem dX2_search_115 : decode cX2_search 115 = .ok (.iload 5, 2) := by decide +kernel
theorem dX2_search_117 : decode cX2_search 117 = .ok (.iconst 1, 1) := by decide +kernel
theorem dX2_search_118 : decode cX2_search 118 = .ok (.isub, 1) := by decide +kernel
theorem dX2_search_119 : decode cX2_search 119 = .ok (.istore 6, 2) := by decide +kernel
theorem dX2_search_121 : decode cX2_search 121 = .ok (.iload 6, 2) := by decide +kernel
theorem dX2_search_123 : decode cX2_search 123 = .ok (.ifCond .lt 92, 3) := by decide +kernel
theorem dX2_search_126 : decode cX2_search 126 = .ok (.iload_n 2, 1) := by decide +kernel
theorem dX2_search_127 : decode cX2_search 127 = .ok (.iload 6, 2) := by decide +kernel
theorem dX2_search_129 : decode cX2_search 129 = .ok (.iadd, 1) := by decide +kernel
theorem dX2_search_130 : decode cX2_search 130 = .ok (.bipush 7, 2) := by decide +kernel
theorem dX2_search_132 : decode cX2_search 132 = .ok (.irem, 1) := by decide +kernel
theorem dX2_search_133 : decode cX2_search 133 = .ok (.istore 7, 2) := by decide +kernel
theorem dX2_search_135 : decode cX2_search 135 = .ok (.aload_n 0, 1) := by decide +kernel
theorem dX2_search_136 : decode cX2_search 136 = .ok (.getfield 12, 3) := by decide +kernel
theorem dX2_search_139 : decode cX2_search 139 = .ok (.aload_n 0, 1) := by decide +kernel
theorem dX2_search_140 : decode cX2_search 140 = .ok (.getfield 32, 3) := by decide +kernel
theorem dX2_search_143 : decode cX2_search 143 = .ok (.iload_n 1, 1) := by decide +kernel
theorem dX2_search_144 : decode cX2_search 144 = .ok (.iload 7, 2) := by decide +kernel
theorem dX2_search_146 : decode cX2_search 146 = .ok (.invokevirtual 42, 3) := by decide +kernel
theorem dX2_search_149 : decode cX2_search 149 = .ok (.aload_n 0, 1) := by decide +kernel
theorem dX2_search_150 : decode cX2_search 150 = .ok (.aload_n 0, 1) := by decide +kernel
theorem dX2_search_151 : decode cX2_search 151 = .ok (.iload 6, 2) := by decide +kernel
theorem dX2_search_153 : decode cX2_search 153 = .ok (.ifCond .ne 7, 3) := by decide +kernel
theorem dX2_search_156 : decode cX2_search 156 = .ok (.iconst 0, 1) := by decide +kernel
theorem dX2_search_157 : decode cX2_search 157 = .ok (.goto 21, 3) := by decide +kernel
theorem dX2_search_160 : decode cX2_search 160 = .ok (.aload_n 0, 1) := by decide +kernel
theorem dX2_search_161 : decode cX2_search 161 = .ok (.getfield 32, 3) := by decide +kernel
theorem dX2_search_164 : decode cX2_search 164 = .ok (.getfield 46, 3) := by decide +kernel
theorem dX2_search_167 : decode cX2_search 167 = .ok (.getfield 52, 3) := by decide +kernel
theorem dX2_search_170 : decode cX2_search 170 = .ok (.iload_n 1, 1) := by decide +kernel
theorem dX2_search_171 : decode cX2_search 171 = .ok (.bipush 7, 2) := by decide +kernel
theorem dX2_search_173 : decode cX2_search 173 = .ok (.imul, 1) := by decide +kernel
theorem dX2_search_174 : decode cX2_search 174 = .ok (.iload 7, 2) := by decide +kernel
theorem dX2_search_176 : decode cX2_search 176 = .ok (.iadd, 1) := by decide +kernel
theorem dX2_search_177 : decode cX2_search 177 = .ok (.iaload, 1) := by decide +kernel
theorem dX2_search_178 : decode cX2_search 178 = .ok (.iload_n 1, 1) := by decide +kernel
theorem dX2_search_179 : decode cX2_search 179 = .ok (.iload 7, 2) := by decide +kernel
theorem dX2_search_181 : decode cX2_search 181 = .ok (.iload 6, 2) := by decide +kernel
theorem dX2_search_183 : decode cX2_search 183 = .ok (.invokevirtual 71, 3) := by decide +kernel
theorem dX2_search_186 : decode cX2_search 186 = .ok (.putfield 67, 3) := by decide +kernel
theorem dX2_search_189 : decode cX2_search 189 = .ok (.aload_n 0, 1) := by decide +kernel
theorem dX2_search_190 : decode cX2_search 190 = .ok (.getfield 29, 3) := by decide +kernel
theorem dX2_search_193 : decode cX2_search 193 = .ok (.astore 8, 2) := by decide +kernel
theorem dX2_search_195 : decode cX2_search 195 = .ok (.aload_n 0, 1) := by decide +kernel
theorem dX2_search_196 : decode cX2_search 196 = .ok (.aload_n 0, 1) := by decide +kernel
theorem dX2_search_197 : decode cX2_search 197 = .ok (.getfield 25, 3) := by decide +kernel
theorem dX2_search_200 : decode cX2_search 200 = .ok (.putfield 29, 3) := by decide +kernel
theorem dX2_search_203 : decode cX2_search 203 = .ok (.aload_n 0, 1) := by decide +kernel
theorem dX2_search_204 : decode cX2_search 204 = .ok (.aload 8, 2) := by decide +kernel
theorem dX2_search_206 : decode cX2_search 206 = .ok (.putfield 25, 3) := by decide +kernel
theorem dX2_search_209 : decode cX2_search 209 = .ok (.iinc 6 (-1), 3) := by decide +kernel
theorem dX2_search_212 : decode cX2_search 212 = .ok (.goto (-91), 3) := by decide +kernel
theorem dX2_search_215 : decode cX2_search 215 = .ok (.aload_n 0, 1) := by decide +kernel
theorem dX2_search_216 : decode cX2_search 216 = .ok (.getfield 75, 3) := by decide +kernel
theorem dX2_search_219 : decode cX2_search 219 = .ok (.ireturn, 1) := by decide +kernel
theorem dX2_spread_0 : decode cX2_spread 0 = .ok (.aload_n 0, 1) := by decide +kernel
theorem dX2_spread_1 : decode cX2_spread 1 = .ok (.getfield 22, 3) := by decide +kernel
theorem dX2_spread_4 : decode cX2_spread 4 = .ok (.lconst 0, 1) := by decide +kernel
theorem dX2_spread_5 : decode cX2_spread 5 = .ok (.invokestatic 36, 3) := by decide +kernel
theorem dX2_spread_8 : decode cX2_spread 8 = .ok (.iconst 0, 1) := by decide +kernel
theorem dX2_spread_9 : decode cX2_spread 9 = .ok (.istore_n 3, 1) := by decide +kernel
theorem dX2_spread_10 : decode cX2_spread 10 = .ok (.iload_n 3, 1) := by decide +kernel
theorem dX2_spread_11 : decode cX2_spread 11 = .ok (.bipush 6, 2) := by decide +kernel
theorem dX2_spread_13 : decode cX2_spread 13 = .ok (.if_icmp .ge 48, 3) := by decide +kernel
theorem dX2_spread_16 : decode cX2_spread 16 = .ok (.aload_n 0, 1) := by decide +kernel
theorem dX2_spread_17 : decode cX2_spread 17 = .ok (.getfield 18, 3) := by decide +kernel
theorem dX2_spread_20 : decode cX2_spread 20 = .ok (.iload_n 2, 1) := by decide +kernel
theorem dX2_spread_21 : decode cX2_spread 21 = .ok (.bipush 6, 2) := by decide +kernel
theorem dX2_spread_23 : decode cX2_spread 23 = .ok (.imul, 1) := by decide +kernel
theorem dX2_spread_24 : decode cX2_spread 24 = .ok (.iload_n 3, 1) := by decide +kernel
theorem dX2_spread_25 : decode cX2_spread 25 = .ok (.iadd, 1) := by decide +kernel
theorem dX2_spread_26 : decode cX2_spread 26 = .ok (.laload, 1) := by decide +kernel
theorem dX2_spread_27 : decode cX2_spread 27 = .ok (.lstore 4, 2) := by decide +kernel
theorem dX2_spread_29 : decode cX2_spread 29 = .ok (.lload 4, 2) := by decide +kernel
theorem dX2_spread_31 : decode cX2_spread 31 = .ok (.lconst 0, 1) := by decide +kernel
theorem dX2_spread_32 : decode cX2_spread 32 = .ok (.lcmp, 1) := by decide +kernel
theorem dX2_spread_33 : decode cX2_spread 33 = .ok (.ifCond .eq 22, 3) := by decide +kernel
theorem dX2_spread_36 : decode cX2_spread 36 = .ok (.aload_n 0, 1) := by decide +kernel
theorem dX2_spread_37 : decode cX2_spread 37 = .ok (.lload 4, 2) := by decide +kernel
theorem dX2_spread_39 : decode cX2_spread 39 = .ok (.iload_n 1, 1) := by decide +kernel
theorem dX2_spread_40 : decode cX2_spread 40 = .ok (.invokestatic 78, 3) := by decide +kernel
theorem dX2_spread_43 : decode cX2_spread 43 = .ok (.iload_n 3, 1) := by decide +kernel
theorem dX2_spread_44 : decode cX2_spread 44 = .ok (.aload_n 0, 1) := by decide +kernel
theorem dX2_spread_45 : decode cX2_spread 45 = .ok (.getfield 12, 3) := by decide +kernel
theorem dX2_spread_48 : decode cX2_spread 48 = .ok (.iload_n 3, 1) := by decide +kernel
theorem dX2_spread_49 : decode cX2_spread 49 = .ok (.invokevirtual 82, 3) := by decide +kernel
theorem dX2_spread_52 : decode cX2_spread 52 = .ok (.invokevirtual 86, 3) := by decide +kernel
theorem dX2_spread_55 : decode cX2_spread 55 = .ok (.iinc 3 1, 3) := by decide +kernel
theorem dX2_spread_58 : decode cX2_spread 58 = .ok (.goto (-48), 3) := by decide +kernel
theorem dX2_spread_61 : decode cX2_spread 61 = .ok (.return_, 1) := by decide +kernel
theorem dX2_withEarned_0 : decode cX2_withEarned 0 = .ok (.ldc2_w 90, 3) := by decide +kernel
theorem dX2_withEarned_3 : decode cX2_withEarned 3 = .ok (.lstore_n 3, 1) := by decide +kernel
theorem dX2_withEarned_4 : decode cX2_withEarned 4 = .ok (.lload_n 0, 1) := by decide +kernel
theorem dX2_withEarned_5 : decode cX2_withEarned 5 = .ok (.iload_n 2, 1) := by decide +kernel
theorem dX2_withEarned_6 : decode cX2_withEarned 6 = .ok (.lshl, 1) := by decide +kernel
theorem dX2_withEarned_7 : decode cX2_withEarned 7 = .ok (.lload_n 3, 1) := by decide +kernel
theorem dX2_withEarned_8 : decode cX2_withEarned 8 = .ok (.lconst 1, 1) := by decide +kernel
theorem dX2_withEarned_9 : decode cX2_withEarned 9 = .ok (.lsub, 1) := by decide +kernel
theorem dX2_withEarned_10 : decode cX2_withEarned 10 = .ok (.land, 1) := by decide +kernel
theorem dX2_withEarned_11 : decode cX2_withEarned 11 = .ok (.lstore 5, 2) := by decide +kernel
theorem dX2_withEarned_13 : decode cX2_withEarned 13 = .ok (.lload_n 0, 1) := by decide +kernel
theorem dX2_withEarned_14 : decode cX2_withEarned 14 = .ok (.bipush 60, 2) := by decide +kernel
theorem dX2_withEarned_16 : decode cX2_withEarned 16 = .ok (.iload_n 2, 1) := by decide +kernel
theorem dX2_withEarned_17 : decode cX2_withEarned 17 = .ok (.isub, 1) := by decide +kernel
theorem dX2_withEarned_18 : decode cX2_withEarned 18 = .ok (.lushr, 1) := by decide +kernel
theorem dX2_withEarned_19 : decode cX2_withEarned 19 = .ok (.lconst 0, 1) := by decide +kernel
theorem dX2_withEarned_20 : decode cX2_withEarned 20 = .ok (.lcmp, 1) := by decide +kernel
theorem dX2_withEarned_21 : decode cX2_withEarned 21 = .ok (.ifCond .ne 8, 3) := by decide +kernel
theorem dX2_withEarned_24 : decode cX2_withEarned 24 = .ok (.lload 5, 2) := by decide +kernel
theorem dX2_withEarned_26 : decode cX2_withEarned 26 = .ok (.goto 7, 3) := by decide +kernel
theorem dX2_withEarned_29 : decode cX2_withEarned 29 = .ok (.lload 5, 2) := by decide +kernel
theorem dX2_withEarned_31 : decode cX2_withEarned 31 = .ok (.lload_n 3, 1) := by decide +kernel
theorem dX2_withEarned_32 : decode cX2_withEarned 32 = .ok (.lor, 1) := by decide +kernel
theorem dX2_withEarned_33 : decode cX2_withEarned 33 = .ok (.lreturn, 1) := by decide +kernel
theorem dX2_spend_0 : decode cX2_spend 0 = .ok (.iconst 0, 1) := by decide +kernel
theorem dX2_spend_1 : decode cX2_spend 1 = .ok (.istore 5, 2) := by decide +kernel
theorem dX2_spend_3 : decode cX2_spend 3 = .ok (.iload 5, 2) := by decide +kernel
theorem dX2_spend_5 : decode cX2_spend 5 = .ok (.aload_n 0, 1) := by decide +kernel
theorem dX2_spend_6 : decode cX2_spend 6 = .ok (.getfield 12, 3) := by decide +kernel
theorem dX2_spend_9 : decode cX2_spend 9 = .ok (.getfield 92, 3) := by decide +kernel
theorem dX2_spend_12 : decode cX2_spend 12 = .ok (.if_icmp .gt 116, 3) := by decide +kernel
theorem dX2_spend_15 : decode cX2_spend 15 = .ok (.iconst 0, 1) := by decide +kernel
theorem dX2_spend_16 : decode cX2_spend 16 = .ok (.istore 6, 2) := by decide +kernel
theorem dX2_spend_18 : decode cX2_spend 18 = .ok (.iload 6, 2) := by decide +kernel
theorem dX2_spend_20 : decode cX2_spend 20 = .ok (.iload 4, 2) := by decide +kernel
theorem dX2_spend_22 : decode cX2_spend 22 = .ok (.if_icmp .gt 100, 3) := by decide +kernel
theorem dX2_spend_25 : decode cX2_spend 25 = .ok (.iload_n 3, 1) := by decide +kernel
theorem dX2_spend_26 : decode cX2_spend 26 = .ok (.iload 6, 2) := by decide +kernel
theorem dX2_spend_28 : decode cX2_spend 28 = .ok (.isub, 1) := by decide +kernel
theorem dX2_spend_29 : decode cX2_spend 29 = .ok (.iload 5, 2) := by decide +kernel
theorem dX2_spend_31 : decode cX2_spend 31 = .ok (.iadd, 1) := by decide +kernel
theorem dX2_spend_32 : decode cX2_spend 32 = .ok (.istore 7, 2) := by decide +kernel
theorem dX2_spend_34 : decode cX2_spend 34 = .ok (.aload_n 0, 1) := by decide +kernel
theorem dX2_spend_35 : decode cX2_spend 35 = .ok (.getfield 12, 3) := by decide +kernel
theorem dX2_spend_38 : decode cX2_spend 38 = .ok (.getfield 95, 3) := by decide +kernel
theorem dX2_spend_41 : decode cX2_spend 41 = .ok (.aload_n 0, 1) := by decide +kernel
theorem dX2_spend_42 : decode cX2_spend 42 = .ok (.getfield 12, 3) := by decide +kernel
theorem dX2_spend_45 : decode cX2_spend 45 = .ok (.getfield 98, 3) := by decide +kernel
theorem dX2_spend_48 : decode cX2_spend 48 = .ok (.iload 6, 2) := by decide +kernel
theorem dX2_spend_50 : decode cX2_spend 50 = .ok (.isub, 1) := by decide +kernel
theorem dX2_spend_51 : decode cX2_spend 51 = .ok (.invokestatic 101, 3) := by decide +kernel
theorem dX2_spend_54 : decode cX2_spend 54 = .ok (.istore 8, 2) := by decide +kernel
theorem dX2_spend_56 : decode cX2_spend 56 = .ok (.lload_n 1, 1) := by decide +kernel
theorem dX2_spend_57 : decode cX2_spend 57 = .ok (.iload 5, 2) := by decide +kernel
theorem dX2_spend_59 : decode cX2_spend 59 = .ok (.aload_n 0, 1) := by decide +kernel
theorem dX2_spend_60 : decode cX2_spend 60 = .ok (.getfield 12, 3) := by decide +kernel
theorem dX2_spend_63 : decode cX2_spend 63 = .ok (.getfield 107, 3) := by decide +kernel
theorem dX2_spend_66 : decode cX2_spend 66 = .ok (.imul, 1) := by decide +kernel
theorem dX2_spend_67 : decode cX2_spend 67 = .ok (.lushr, 1) := by decide +kernel
theorem dX2_spend_68 : decode cX2_spend 68 = .ok (.lstore 9, 2) := by decide +kernel
theorem dX2_spend_70 : decode cX2_spend 70 = .ok (.iconst 0, 1) := by decide +kernel
theorem dX2_spend_71 : decode cX2_spend 71 = .ok (.istore 11, 2) := by decide +kernel
theorem dX2_spend_73 : decode cX2_spend 73 = .ok (.iload 7, 2) := by decide +kernel
theorem dX2_spend_75 : decode cX2_spend 75 = .ok (.iconst 5, 1) := by decide +kernel
theorem dX2_spend_76 : decode cX2_spend 76 = .ok (.if_icmp .gt 40, 3) := by decide +kernel
theorem dX2_spend_79 : decode cX2_spend 79 = .ok (.iload 11, 2) := by decide +kernel
theorem dX2_spend_81 : decode cX2_spend 81 = .ok (.iload 8, 2) := by decide +kernel
theorem dX2_spend_83 : decode cX2_spend 83 = .ok (.if_icmp .gt 33, 3) := by decide +kernel
theorem dX2_spend_86 : decode cX2_spend 86 = .ok (.aload_n 0, 1) := by decide +kernel
theorem dX2_spend_87 : decode cX2_spend 87 = .ok (.getfield 22, 3) := by decide +kernel
theorem dX2_spend_90 : decode cX2_spend 90 = .ok (.iload 7, 2) := by decide +kernel
theorem dX2_spend_92 : decode cX2_spend 92 = .ok (.dup2, 1) := by decide +kernel
theorem dX2_spend_93 : decode cX2_spend 93 = .ok (.laload, 1) := by decide +kernel
theorem dX2_spend_94 : decode cX2_spend 94 = .ok (.lload 9, 2) := by decide +kernel
theorem dX2_spend_96 : decode cX2_spend 96 = .ok (.lor, 1) := by decide +kernel
theorem dX2_spend_97 : decode cX2_spend 97 = .ok (.lastore, 1) := by decide +kernel
theorem dX2_spend_98 : decode cX2_spend 98 = .ok (.lload 9, 2) := by decide +kernel
theorem dX2_spend_100 : decode cX2_spend 100 = .ok (.aload_n 0, 1) := by decide +kernel
theorem dX2_spend_101 : decode cX2_spend 101 = .ok (.getfield 12, 3) := by decide +kernel
theorem dX2_spend_104 : decode cX2_spend 104 = .ok (.getfield 110, 3) := by decide +kernel
theorem dX2_spend_107 : decode cX2_spend 107 = .ok (.lushr, 1) := by decide +kernel
theorem dX2_spend_108 : decode cX2_spend 108 = .ok (.lstore 9, 2) := by decide +kernel
theorem dX2_spend_110 : decode cX2_spend 110 = .ok (.iinc 11 1, 3) := by decide +kernel
theorem dX2_spend_113 : decode cX2_spend 113 = .ok (.goto (-40), 3) := by decide +kernel
theorem dX2_spend_116 : decode cX2_spend 116 = .ok (.iinc 6 1, 3) := by decide +kernel
theorem dX2_spend_119 : decode cX2_spend 119 = .ok (.goto (-101), 3) := by decide +kernel
theorem dX2_spend_122 : decode cX2_spend 122 = .ok (.iinc 5 1, 3) := by decide +kernel
theorem dX2_spend_125 : decode cX2_spend 125 = .ok (.goto (-122), 3) := by decide +kernel
theorem dX2_spend_128 : decode cX2_spend 128 = .ok (.return_, 1) := by decide +kernel
theorem dX2_sleep_0 : decode cX2_sleep 0 = .ok (.iconst 0, 1) := by decide +kernel
theorem dX2_sleep_1 : decode cX2_sleep 1 = .ok (.istore_n 3, 1) := by decide +kernel
theorem dX2_sleep_2 : decode cX2_sleep 2 = .ok (.iload_n 3, 1) := by decide +kernel
theorem dX2_sleep_3 : decode cX2_sleep 3 = .ok (.bipush 6, 2) := by decide +kernel
theorem dX2_sleep_5 : decode cX2_sleep 5 = .ok (.if_icmp .ge 94, 3) := by decide +kernel
theorem dX2_sleep_8 : decode cX2_sleep 8 = .ok (.aload_n 0, 1) := by decide +kernel
theorem dX2_sleep_9 : decode cX2_sleep 9 = .ok (.getfield 22, 3) := by decide +kernel
theorem dX2_sleep_12 : decode cX2_sleep 12 = .ok (.iload_n 3, 1) := by decide +kernel
theorem dX2_sleep_13 : decode cX2_sleep 13 = .ok (.laload, 1) := by decide +kernel
theorem dX2_sleep_14 : decode cX2_sleep 14 = .ok (.lstore 4, 2) := by decide +kernel
theorem dX2_sleep_16 : decode cX2_sleep 16 = .ok (.iload_n 2, 1) := by decide +kernel
theorem dX2_sleep_17 : decode cX2_sleep 17 = .ok (.bipush 6, 2) := by decide +kernel
theorem dX2_sleep_19 : decode cX2_sleep 19 = .ok (.imul, 1) := by decide +kernel
theorem dX2_sleep_20 : decode cX2_sleep 20 = .ok (.aload_n 0, 1) := by decide +kernel
theorem dX2_sleep_21 : decode cX2_sleep 21 = .ok (.getfield 32, 3) := by decide +kernel
theorem dX2_sleep_24 : decode cX2_sleep 24 = .ok (.getfield 113, 3) := by decide +kernel
theorem dX2_sleep_27 : decode cX2_sleep 27 = .ok (.iload_n 3, 1) := by decide +kernel
theorem dX2_sleep_28 : decode cX2_sleep 28 = .ok (.iaload, 1) := by decide +kernel
theorem dX2_sleep_29 : decode cX2_sleep 29 = .ok (.iadd, 1) := by decide +kernel
theorem dX2_sleep_30 : decode cX2_sleep 30 = .ok (.istore 6, 2) := by decide +kernel
theorem dX2_sleep_32 : decode cX2_sleep 32 = .ok (.iconst 0, 1) := by decide +kernel
theorem dX2_sleep_33 : decode cX2_sleep 33 = .ok (.istore 7, 2) := by decide +kernel
theorem dX2_sleep_35 : decode cX2_sleep 35 = .ok (.iload 7, 2) := by decide +kernel
theorem dX2_sleep_37 : decode cX2_sleep 37 = .ok (.bipush 61, 2) := by decide +kernel
theorem dX2_sleep_39 : decode cX2_sleep 39 = .ok (.if_icmp .ge 54, 3) := by decide +kernel
theorem dX2_sleep_42 : decode cX2_sleep 42 = .ok (.lload 4, 2) := by decide +kernel
theorem dX2_sleep_44 : decode cX2_sleep 44 = .ok (.iload 7, 2) := by decide +kernel
theorem dX2_sleep_46 : decode cX2_sleep 46 = .ok (.lushr, 1) := by decide +kernel
theorem dX2_sleep_47 : decode cX2_sleep 47 = .ok (.lconst 0, 1) := by decide +kernel
theorem dX2_sleep_48 : decode cX2_sleep 48 = .ok (.lcmp, 1) := by decide +kernel
theorem dX2_sleep_49 : decode cX2_sleep 49 = .ok (.ifCond .eq 44, 3) := by decide +kernel
theorem dX2_sleep_52 : decode cX2_sleep 52 = .ok (.lload 4, 2) := by decide +kernel
theorem dX2_sleep_54 : decode cX2_sleep 54 = .ok (.iload 7, 2) := by decide +kernel
theorem dX2_sleep_56 : decode cX2_sleep 56 = .ok (.lushr, 1) := by decide +kernel
theorem dX2_sleep_57 : decode cX2_sleep 57 = .ok (.lconst 1, 1) := by decide +kernel
theorem dX2_sleep_58 : decode cX2_sleep 58 = .ok (.land, 1) := by decide +kernel
theorem dX2_sleep_59 : decode cX2_sleep 59 = .ok (.lconst 0, 1) := by decide +kernel
theorem dX2_sleep_60 : decode cX2_sleep 60 = .ok (.lcmp, 1) := by decide +kernel
theorem dX2_sleep_61 : decode cX2_sleep 61 = .ok (.ifCond .eq 26, 3) := by decide +kernel
theorem dX2_sleep_64 : decode cX2_sleep 64 = .ok (.aload_n 0, 1) := by decide +kernel
theorem dX2_sleep_65 : decode cX2_sleep 65 = .ok (.getfield 18, 3) := by decide +kernel
theorem dX2_sleep_68 : decode cX2_sleep 68 = .ok (.iload 6, 2) := by decide +kernel
theorem dX2_sleep_70 : decode cX2_sleep 70 = .ok (.dup2, 1) := by decide +kernel
theorem dX2_sleep_71 : decode cX2_sleep 71 = .ok (.laload, 1) := by decide +kernel
theorem dX2_sleep_72 : decode cX2_sleep 72 = .ok (.lconst 1, 1) := by decide +kernel
theorem dX2_sleep_73 : decode cX2_sleep 73 = .ok (.aload_n 0, 1) := by decide +kernel
theorem dX2_sleep_74 : decode cX2_sleep 74 = .ok (.getfield 32, 3) := by decide +kernel
theorem dX2_sleep_77 : decode cX2_sleep 77 = .ok (.iload 7, 2) := by decide +kernel
theorem dX2_sleep_79 : decode cX2_sleep 79 = .ok (.iload_n 3, 1) := by decide +kernel
theorem dX2_sleep_80 : decode cX2_sleep 80 = .ok (.iload_n 1, 1) := by decide +kernel
theorem dX2_sleep_81 : decode cX2_sleep 81 = .ok (.invokevirtual 116, 3) := by decide +kernel
theorem dX2_sleep_84 : decode cX2_sleep 84 = .ok (.lshl, 1) := by decide +kernel
theorem dX2_sleep_85 : decode cX2_sleep 85 = .ok (.lor, 1) := by decide +kernel
theorem dX2_sleep_86 : decode cX2_sleep 86 = .ok (.lastore, 1) := by decide +kernel
theorem dX2_sleep_87 : decode cX2_sleep 87 = .ok (.iinc 7 1, 3) := by decide +kernel
theorem dX2_sleep_90 : decode cX2_sleep 90 = .ok (.goto (-55), 3) := by decide +kernel
theorem dX2_sleep_93 : decode cX2_sleep 93 = .ok (.iinc 3 1, 3) := by decide +kernel
theorem dX2_sleep_96 : decode cX2_sleep 96 = .ok (.goto (-94), 3) := by decide +kernel
theorem dX2_sleep_99 : decode cX2_sleep 99 = .ok (.return_, 1) := by decide +kernel
theorem dX2_weighDay_0 : decode cX2_weighDay 0 = .ok (.aload_n 0, 1) := by decide +kernel
theorem dX2_weighDay_1 : decode cX2_weighDay 1 = .ok (.getfield 32, 3) := by decide +kernel
theorem dX2_weighDay_4 : decode cX2_weighDay 4 = .ok (.getfield 46, 3) := by decide +kernel
theorem dX2_weighDay_7 : decode cX2_weighDay 7 = .ok (.getfield 120, 3) := by decide +kernel
theorem dX2_weighDay_10 : decode cX2_weighDay 10 = .ok (.iload_n 2, 1) := by decide +kernel
theorem dX2_weighDay_11 : decode cX2_weighDay 11 = .ok (.iaload, 1) := by decide +kernel
theorem dX2_weighDay_12 : decode cX2_weighDay 12 = .ok (.istore 5, 2) := by decide +kernel
theorem dX2_weighDay_14 : decode cX2_weighDay 14 = .ok (.iconst 0, 1) := by decide +kernel
theorem dX2_weighDay_15 : decode cX2_weighDay 15 = .ok (.istore 6, 2) := by decide +kernel
theorem dX2_weighDay_17 : decode cX2_weighDay 17 = .ok (.iconst 0, 1) := by decide +kernel
theorem dX2_weighDay_18 : decode cX2_weighDay 18 = .ok (.istore 7, 2) := by decide +kernel
theorem dX2_weighDay_20 : decode cX2_weighDay 20 = .ok (.iload 7, 2) := by decide +kernel
theorem dX2_weighDay_22 : decode cX2_weighDay 22 = .ok (.bipush 6, 2) := by decide +kernel
theorem dX2_weighDay_24 : decode cX2_weighDay 24 = .ok (.if_icmp .ge 122, 3) := by decide +kernel
theorem dX2_weighDay_27 : decode cX2_weighDay 27 = .ok (.aload_n 0, 1) := by decide +kernel
theorem dX2_weighDay_28 : decode cX2_weighDay 28 = .ok (.getfield 18, 3) := by decide +kernel
theorem dX2_weighDay_31 : decode cX2_weighDay 31 = .ok (.iload 4, 2) := by decide +kernel
theorem dX2_weighDay_33 : decode cX2_weighDay 33 = .ok (.bipush 6, 2) := by decide +kernel
theorem dX2_weighDay_35 : decode cX2_weighDay 35 = .ok (.imul, 1) := by decide +kernel
theorem dX2_weighDay_36 : decode cX2_weighDay 36 = .ok (.iload 7, 2) := by decide +kernel
theorem dX2_weighDay_38 : decode cX2_weighDay 38 = .ok (.iadd, 1) := by decide +kernel
theorem dX2_weighDay_39 : decode cX2_weighDay 39 = .ok (.laload, 1) := by decide +kernel
theorem dX2_weighDay_40 : decode cX2_weighDay 40 = .ok (.lstore 8, 2) := by decide +kernel
theorem dX2_weighDay_42 : decode cX2_weighDay 42 = .ok (.iconst 0, 1) := by decide +kernel
theorem dX2_weighDay_43 : decode cX2_weighDay 43 = .ok (.istore 10, 2) := by decide +kernel
theorem dX2_weighDay_45 : decode cX2_weighDay 45 = .ok (.iload 10, 2) := by decide +kernel
theorem dX2_weighDay_47 : decode cX2_weighDay 47 = .ok (.bipush 61, 2) := by decide +kernel
theorem dX2_weighDay_49 : decode cX2_weighDay 49 = .ok (.if_icmp .ge 91, 3) := by decide +kernel
theorem dX2_weighDay_52 : decode cX2_weighDay 52 = .ok (.lload 8, 2) := by decide +kernel
theorem dX2_weighDay_54 : decode cX2_weighDay 54 = .ok (.iload 10, 2) := by decide +kernel
theorem dX2_weighDay_56 : decode cX2_weighDay 56 = .ok (.lushr, 1) := by decide +kernel
theorem dX2_weighDay_57 : decode cX2_weighDay 57 = .ok (.lconst 0, 1) := by decide +kernel
theorem dX2_weighDay_58 : decode cX2_weighDay 58 = .ok (.lcmp, 1) := by decide +kernel
theorem dX2_weighDay_59 : decode cX2_weighDay 59 = .ok (.ifCond .eq 81, 3) := by decide +kernel
theorem dX2_weighDay_62 : decode cX2_weighDay 62 = .ok (.lload 8, 2) := by decide +kernel
theorem dX2_weighDay_64 : decode cX2_weighDay 64 = .ok (.iload 10, 2) := by decide +kernel
theorem dX2_weighDay_66 : decode cX2_weighDay 66 = .ok (.lushr, 1) := by decide +kernel
theorem dX2_weighDay_67 : decode cX2_weighDay 67 = .ok (.lconst 1, 1) := by decide +kernel
theorem dX2_weighDay_68 : decode cX2_weighDay 68 = .ok (.land, 1) := by decide +kernel
theorem dX2_weighDay_69 : decode cX2_weighDay 69 = .ok (.lconst 0, 1) := by decide +kernel
theorem dX2_weighDay_70 : decode cX2_weighDay 70 = .ok (.lcmp, 1) := by decide +kernel
theorem dX2_weighDay_71 : decode cX2_weighDay 71 = .ok (.ifCond .eq 63, 3) := by decide +kernel
theorem dX2_weighDay_74 : decode cX2_weighDay 74 = .ok (.aload_n 0, 1) := by decide +kernel
theorem dX2_weighDay_75 : decode cX2_weighDay 75 = .ok (.bipush 60, 2) := by decide +kernel
theorem dX2_weighDay_77 : decode cX2_weighDay 77 = .ok (.iload 10, 2) := by decide +kernel
theorem dX2_weighDay_79 : decode cX2_weighDay 79 = .ok (.iload_n 1, 1) := by decide +kernel
theorem dX2_weighDay_80 : decode cX2_weighDay 80 = .ok (.iadd, 1) := by decide +kernel
theorem dX2_weighDay_81 : decode cX2_weighDay 81 = .ok (.invokestatic 101, 3) := by decide +kernel
theorem dX2_weighDay_84 : decode cX2_weighDay 84 = .ok (.iload 7, 2) := by decide +kernel
theorem dX2_weighDay_86 : decode cX2_weighDay 86 = .ok (.iload_n 3, 1) := by decide +kernel
theorem dX2_weighDay_87 : decode cX2_weighDay 87 = .ok (.invokevirtual 123, 3) := by decide +kernel
theorem dX2_weighDay_90 : decode cX2_weighDay 90 = .ok (.aload_n 0, 1) := by decide +kernel
theorem dX2_weighDay_91 : decode cX2_weighDay 91 = .ok (.getfield 25, 3) := by decide +kernel
theorem dX2_weighDay_94 : decode cX2_weighDay 94 = .ok (.iload 7, 2) := by decide +kernel
theorem dX2_weighDay_96 : decode cX2_weighDay 96 = .ok (.bipush 61, 2) := by decide +kernel
theorem dX2_weighDay_98 : decode cX2_weighDay 98 = .ok (.imul, 1) := by decide +kernel
theorem dX2_weighDay_99 : decode cX2_weighDay 99 = .ok (.iload 10, 2) := by decide +kernel
theorem dX2_weighDay_101 : decode cX2_weighDay 101 = .ok (.iadd, 1) := by decide +kernel
theorem dX2_weighDay_102 : decode cX2_weighDay 102 = .ok (.aload_n 0, 1) := by decide +kernel
theorem dX2_weighDay_103 : decode cX2_weighDay 103 = .ok (.getfield 127, 3) := by decide +kernel
theorem dX2_weighDay_106 : decode cX2_weighDay 106 = .ok (.iload 5, 2) := by decide +kernel
theorem dX2_weighDay_108 : decode cX2_weighDay 108 = .ok (.imul, 1) := by decide +kernel
theorem dX2_weighDay_109 : decode cX2_weighDay 109 = .ok (.sipush 1000, 3) := by decide +kernel
theorem dX2_weighDay_112 : decode cX2_weighDay 112 = .ok (.idiv, 1) := by decide +kernel
theorem dX2_weighDay_113 : decode cX2_weighDay 113 = .ok (.iastore, 1) := by decide +kernel
theorem dX2_weighDay_114 : decode cX2_weighDay 114 = .ok (.iload 6, 2) := by decide +kernel
theorem dX2_weighDay_116 : decode cX2_weighDay 116 = .ok (.aload_n 0, 1) := by decide +kernel
theorem dX2_weighDay_117 : decode cX2_weighDay 117 = .ok (.getfield 25, 3) := by decide +kernel
theorem dX2_weighDay_120 : decode cX2_weighDay 120 = .ok (.iload 7, 2) := by decide +kernel
theorem dX2_weighDay_122 : decode cX2_weighDay 122 = .ok (.bipush 61, 2) := by decide +kernel
theorem dX2_weighDay_124 : decode cX2_weighDay 124 = .ok (.imul, 1) := by decide +kernel
theorem dX2_weighDay_125 : decode cX2_weighDay 125 = .ok (.iload 10, 2) := by decide +kernel
theorem dX2_weighDay_127 : decode cX2_weighDay 127 = .ok (.iadd, 1) := by decide +kernel
theorem dX2_weighDay_128 : decode cX2_weighDay 128 = .ok (.iaload, 1) := by decide +kernel
theorem dX2_weighDay_129 : decode cX2_weighDay 129 = .ok (.invokestatic 130, 3) := by decide +kernel
theorem dX2_weighDay_132 : decode cX2_weighDay 132 = .ok (.istore 6, 2) := by decide +kernel
theorem dX2_weighDay_134 : decode cX2_weighDay 134 = .ok (.iinc 10 1, 3) := by decide +kernel
theorem dX2_weighDay_137 : decode cX2_weighDay 137 = .ok (.goto (-92), 3) := by decide +kernel
theorem dX2_weighDay_140 : decode cX2_weighDay 140 = .ok (.iinc 7 1, 3) := by decide +kernel
theorem dX2_weighDay_143 : decode cX2_weighDay 143 = .ok (.goto (-123), 3) := by decide +kernel
theorem dX2_weighDay_146 : decode cX2_weighDay 146 = .ok (.iload 6, 2) := by decide +kernel
theorem dX2_weighDay_148 : decode cX2_weighDay 148 = .ok (.ireturn, 1) := by decide +kernel
theorem dX2_weigh_0 : decode cX2_weigh 0 = .ok (.aload_n 0, 1) := by decide +kernel
theorem dX2_weigh_1 : decode cX2_weigh 1 = .ok (.getfield 12, 3) := by decide +kernel
theorem dX2_weigh_4 : decode cX2_weigh 4 = .ok (.iload_n 2, 1) := by decide +kernel
theorem dX2_weigh_5 : decode cX2_weigh 5 = .ok (.invokevirtual 82, 3) := by decide +kernel
theorem dX2_weigh_8 : decode cX2_weigh 8 = .ok (.istore 4, 2) := by decide +kernel
theorem dX2_weigh_10 : decode cX2_weigh 10 = .ok (.aload_n 0, 1) := by decide +kernel
theorem dX2_weigh_11 : decode cX2_weigh 11 = .ok (.iconst (-1), 1) := by decide +kernel
theorem dX2_weigh_12 : decode cX2_weigh 12 = .ok (.putfield 127, 3) := by decide +kernel
theorem dX2_weigh_15 : decode cX2_weigh 15 = .ok (.iconst 0, 1) := by decide +kernel
theorem dX2_weigh_16 : decode cX2_weigh 16 = .ok (.istore 5, 2) := by decide +kernel
theorem dX2_weigh_18 : decode cX2_weigh 18 = .ok (.iload 5, 2) := by decide +kernel
theorem dX2_weigh_20 : decode cX2_weigh 20 = .ok (.aload_n 0, 1) := by decide +kernel
theorem dX2_weigh_21 : decode cX2_weigh 21 = .ok (.getfield 12, 3) := by decide +kernel
theorem dX2_weigh_24 : decode cX2_weigh 24 = .ok (.getfield 92, 3) := by decide +kernel
theorem dX2_weigh_27 : decode cX2_weigh 27 = .ok (.if_icmp .gt 228, 3) := by decide +kernel
theorem dX2_weigh_30 : decode cX2_weigh 30 = .ok (.iconst 0, 1) := by decide +kernel
theorem dX2_weigh_31 : decode cX2_weigh 31 = .ok (.istore 6, 2) := by decide +kernel
theorem dX2_weigh_33 : decode cX2_weigh 33 = .ok (.iload 6, 2) := by decide +kernel
theorem dX2_weigh_35 : decode cX2_weigh 35 = .ok (.iload 4, 2) := by decide +kernel
theorem dX2_weigh_37 : decode cX2_weigh 37 = .ok (.if_icmp .gt 212, 3) := by decide +kernel
theorem dX2_weigh_40 : decode cX2_weigh 40 = .ok (.iload_n 2, 1) := by decide +kernel
theorem dX2_weigh_41 : decode cX2_weigh 41 = .ok (.iload 6, 2) := by decide +kernel
theorem dX2_weigh_43 : decode cX2_weigh 43 = .ok (.isub, 1) := by decide +kernel
theorem dX2_weigh_44 : decode cX2_weigh 44 = .ok (.iload 5, 2) := by decide +kernel
theorem dX2_weigh_46 : decode cX2_weigh 46 = .ok (.iadd, 1) := by decide +kernel
theorem dX2_weigh_47 : decode cX2_weigh 47 = .ok (.istore 7, 2) := by decide +kernel
theorem dX2_weigh_49 : decode cX2_weigh 49 = .ok (.aload_n 0, 1) := by decide +kernel
theorem dX2_weigh_50 : decode cX2_weigh 50 = .ok (.getfield 12, 3) := by decide +kernel
theorem dX2_weigh_53 : decode cX2_weigh 53 = .ok (.getfield 95, 3) := by decide +kernel
theorem dX2_weigh_56 : decode cX2_weigh 56 = .ok (.aload_n 0, 1) := by decide +kernel
theorem dX2_weigh_57 : decode cX2_weigh 57 = .ok (.getfield 12, 3) := by decide +kernel
theorem dX2_weigh_60 : decode cX2_weigh 60 = .ok (.getfield 98, 3) := by decide +kernel
theorem dX2_weigh_63 : decode cX2_weigh 63 = .ok (.iload 6, 2) := by decide +kernel
theorem dX2_weigh_65 : decode cX2_weigh 65 = .ok (.isub, 1) := by decide +kernel
theorem dX2_weigh_66 : decode cX2_weigh 66 = .ok (.invokestatic 101, 3) := by decide +kernel
theorem dX2_weigh_69 : decode cX2_weigh 69 = .ok (.istore 8, 2) := by decide +kernel
theorem dX2_weigh_71 : decode cX2_weigh 71 = .ok (.iload 6, 2) := by decide +kernel
theorem dX2_weigh_73 : decode cX2_weigh 73 = .ok (.iload 8, 2) := by decide +kernel
theorem dX2_weigh_75 : decode cX2_weigh 75 = .ok (.iadd, 1) := by decide +kernel
theorem dX2_weigh_76 : decode cX2_weigh 76 = .ok (.aload_n 0, 1) := by decide +kernel
theorem dX2_weigh_77 : decode cX2_weigh 77 = .ok (.getfield 12, 3) := by decide +kernel
theorem dX2_weigh_80 : decode cX2_weigh 80 = .ok (.getfield 133, 3) := by decide +kernel
theorem dX2_weigh_83 : decode cX2_weigh 83 = .ok (.imul, 1) := by decide +kernel
theorem dX2_weigh_84 : decode cX2_weigh 84 = .ok (.aload_n 0, 1) := by decide +kernel
theorem dX2_weigh_85 : decode cX2_weigh 85 = .ok (.getfield 67, 3) := by decide +kernel
theorem dX2_weigh_88 : decode cX2_weigh 88 = .ok (.iadd, 1) := by decide +kernel
theorem dX2_weigh_89 : decode cX2_weigh 89 = .ok (.istore 9, 2) := by decide +kernel
theorem dX2_weigh_91 : decode cX2_weigh 91 = .ok (.iload 7, 2) := by decide +kernel
theorem dX2_weigh_93 : decode cX2_weigh 93 = .ok (.iconst 5, 1) := by decide +kernel
theorem dX2_weigh_94 : decode cX2_weigh 94 = .ok (.if_icmp .gt 149, 3) := by decide +kernel
theorem dX2_weigh_97 : decode cX2_weigh 97 = .ok (.iload 9, 2) := by decide +kernel
theorem dX2_weigh_99 : decode cX2_weigh 99 = .ok (.aload_n 0, 1) := by decide +kernel
theorem dX2_weigh_100 : decode cX2_weigh 100 = .ok (.getfield 127, 3) := by decide +kernel
theorem dX2_weigh_103 : decode cX2_weigh 103 = .ok (.if_icmp .gt 6, 3) := by decide +kernel
theorem dX2_weigh_106 : decode cX2_weigh 106 = .ok (.goto 137, 3) := by decide +kernel
theorem dX2_weigh_109 : decode cX2_weigh 109 = .ok (.iload_n 1, 1) := by decide +kernel
theorem dX2_weigh_110 : decode cX2_weigh 110 = .ok (.iload 5, 2) := by decide +kernel
theorem dX2_weigh_112 : decode cX2_weigh 112 = .ok (.aload_n 0, 1) := by decide +kernel
theorem dX2_weigh_113 : decode cX2_weigh 113 = .ok (.getfield 12, 3) := by decide +kernel
theorem dX2_weigh_116 : decode cX2_weigh 116 = .ok (.getfield 107, 3) := by decide +kernel
theorem dX2_weigh_119 : decode cX2_weigh 119 = .ok (.imul, 1) := by decide +kernel
theorem dX2_weigh_120 : decode cX2_weigh 120 = .ok (.isub, 1) := by decide +kernel
theorem dX2_weigh_121 : decode cX2_weigh 121 = .ok (.istore 10, 2) := by decide +kernel
theorem dX2_weigh_123 : decode cX2_weigh 123 = .ok (.iconst 0, 1) := by decide +kernel
theorem dX2_weigh_124 : decode cX2_weigh 124 = .ok (.istore 11, 2) := by decide +kernel
theorem dX2_weigh_126 : decode cX2_weigh 126 = .ok (.iload 11, 2) := by decide +kernel
theorem dX2_weigh_128 : decode cX2_weigh 128 = .ok (.iload 8, 2) := by decide +kernel
theorem dX2_weigh_130 : decode cX2_weigh 130 = .ok (.if_icmp .gt 113, 3) := by decide +kernel
theorem dX2_weigh_133 : decode cX2_weigh 133 = .ok (.iload 10, 2) := by decide +kernel
theorem dX2_weigh_135 : decode cX2_weigh 135 = .ok (.ifCond .lt 108, 3) := by decide +kernel
theorem dX2_weigh_138 : decode cX2_weigh 138 = .ok (.aload_n 0, 1) := by decide +kernel
theorem dX2_weigh_139 : decode cX2_weigh 139 = .ok (.getfield 32, 3) := by decide +kernel
theorem dX2_weigh_142 : decode cX2_weigh 142 = .ok (.iload 10, 2) := by decide +kernel
theorem dX2_weigh_144 : decode cX2_weigh 144 = .ok (.iload 7, 2) := by decide +kernel
theorem dX2_weigh_146 : decode cX2_weigh 146 = .ok (.iload_n 3, 1) := by decide +kernel
theorem dX2_weigh_147 : decode cX2_weigh 147 = .ok (.invokevirtual 116, 3) := by decide +kernel
theorem dX2_weigh_150 : decode cX2_weigh 150 = .ok (.istore 12, 2) := by decide +kernel
theorem dX2_weigh_152 : decode cX2_weigh 152 = .ok (.aload_n 0, 1) := by decide +kernel
theorem dX2_weigh_153 : decode cX2_weigh 153 = .ok (.getfield 29, 3) := by decide +kernel
theorem dX2_weigh_156 : decode cX2_weigh 156 = .ok (.aload_n 0, 1) := by decide +kernel
theorem dX2_weigh_157 : decode cX2_weigh 157 = .ok (.getfield 32, 3) := by decide +kernel
theorem dX2_weigh_160 : decode cX2_weigh 160 = .ok (.getfield 113, 3) := by decide +kernel
theorem dX2_weigh_163 : decode cX2_weigh 163 = .ok (.iload 7, 2) := by decide +kernel
theorem dX2_weigh_165 : decode cX2_weigh 165 = .ok (.iaload, 1) := by decide +kernel
theorem dX2_weigh_166 : decode cX2_weigh 166 = .ok (.bipush 61, 2) := by decide +kernel
theorem dX2_weigh_168 : decode cX2_weigh 168 = .ok (.imul, 1) := by decide +kernel
theorem dX2_weigh_169 : decode cX2_weigh 169 = .ok (.iload 12, 2) := by decide +kernel
theorem dX2_weigh_171 : decode cX2_weigh 171 = .ok (.iadd, 1) := by decide +kernel
theorem dX2_weigh_172 : decode cX2_weigh 172 = .ok (.iaload, 1) := by decide +kernel
theorem dX2_weigh_173 : decode cX2_weigh 173 = .ok (.istore 13, 2) := by decide +kernel
theorem dX2_weigh_175 : decode cX2_weigh 175 = .ok (.iload 11, 2) := by decide +kernel
theorem dX2_weigh_177 : decode cX2_weigh 177 = .ok (.iload 6, 2) := by decide +kernel
theorem dX2_weigh_179 : decode cX2_weigh 179 = .ok (.iadd, 1) := by decide +kernel
theorem dX2_weigh_180 : decode cX2_weigh 180 = .ok (.aload_n 0, 1) := by decide +kernel
theorem dX2_weigh_181 : decode cX2_weigh 181 = .ok (.getfield 12, 3) := by decide +kernel
theorem dX2_weigh_184 : decode cX2_weigh 184 = .ok (.getfield 133, 3) := by decide +kernel
theorem dX2_weigh_187 : decode cX2_weigh 187 = .ok (.imul, 1) := by decide +kernel
theorem dX2_weigh_188 : decode cX2_weigh 188 = .ok (.iload 13, 2) := by decide +kernel
theorem dX2_weigh_190 : decode cX2_weigh 190 = .ok (.iadd, 1) := by decide +kernel
theorem dX2_weigh_191 : decode cX2_weigh 191 = .ok (.istore 14, 2) := by decide +kernel
theorem dX2_weigh_193 : decode cX2_weigh 193 = .ok (.iload 14, 2) := by decide +kernel
theorem dX2_weigh_195 : decode cX2_weigh 195 = .ok (.aload_n 0, 1) := by decide +kernel
theorem dX2_weigh_196 : decode cX2_weigh 196 = .ok (.getfield 127, 3) := by decide +kernel
theorem dX2_weigh_199 : decode cX2_weigh 199 = .ok (.if_icmp .le 26, 3) := by decide +kernel
theorem dX2_weigh_202 : decode cX2_weigh 202 = .ok (.aload_n 0, 1) := by decide +kernel
theorem dX2_weigh_203 : decode cX2_weigh 203 = .ok (.iload 14, 2) := by decide +kernel
theorem dX2_weigh_205 : decode cX2_weigh 205 = .ok (.putfield 127, 3) := by decide +kernel
theorem dX2_weigh_208 : decode cX2_weigh 208 = .ok (.aload_n 0, 1) := by decide +kernel
theorem dX2_weigh_209 : decode cX2_weigh 209 = .ok (.bipush 16, 2) := by decide +kernel
theorem dX2_weigh_211 : decode cX2_weigh 211 = .ok (.iload 5, 2) := by decide +kernel
theorem dX2_weigh_213 : decode cX2_weigh 213 = .ok (.imul, 1) := by decide +kernel
theorem dX2_weigh_214 : decode cX2_weigh 214 = .ok (.iconst 4, 1) := by decide +kernel
theorem dX2_weigh_215 : decode cX2_weigh 215 = .ok (.iload 6, 2) := by decide +kernel
theorem dX2_weigh_217 : decode cX2_weigh 217 = .ok (.imul, 1) := by decide +kernel
theorem dX2_weigh_218 : decode cX2_weigh 218 = .ok (.iadd, 1) := by decide +kernel
theorem dX2_weigh_219 : decode cX2_weigh 219 = .ok (.iload 11, 2) := by decide +kernel
theorem dX2_weigh_221 : decode cX2_weigh 221 = .ok (.iadd, 1) := by decide +kernel
theorem dX2_weigh_222 : decode cX2_weigh 222 = .ok (.putfield 75, 3) := by decide +kernel
theorem dX2_weigh_225 : decode cX2_weigh 225 = .ok (.iload 10, 2) := by decide +kernel
theorem dX2_weigh_227 : decode cX2_weigh 227 = .ok (.aload_n 0, 1) := by decide +kernel
theorem dX2_weigh_228 : decode cX2_weigh 228 = .ok (.getfield 12, 3) := by decide +kernel
theorem dX2_weigh_231 : decode cX2_weigh 231 = .ok (.getfield 110, 3) := by decide +kernel
theorem dX2_weigh_234 : decode cX2_weigh 234 = .ok (.isub, 1) := by decide +kernel
theorem dX2_weigh_235 : decode cX2_weigh 235 = .ok (.istore 10, 2) := by decide +kernel
theorem dX2_weigh_237 : decode cX2_weigh 237 = .ok (.iinc 11 1, 3) := by decide +kernel
theorem dX2_weigh_240 : decode cX2_weigh 240 = .ok (.goto (-114), 3) := by decide +kernel
theorem dX2_weigh_243 : decode cX2_weigh 243 = .ok (.iinc 6 1, 3) := by decide +kernel
theorem dX2_weigh_246 : decode cX2_weigh 246 = .ok (.goto (-213), 3) := by decide +kernel
theorem dX2_weigh_249 : decode cX2_weigh 249 = .ok (.iinc 5 1, 3) := by decide +kernel
theorem dX2_weigh_252 : decode cX2_weigh 252 = .ok (.goto (-234), 3) := by decide +kernel
theorem dX2_weigh_255 : decode cX2_weigh 255 = .ok (.return_, 1) := by decide +kernel
theorem dX3_init_0 : decode cX3_init 0 = .ok (.aload_n 0, 1) := by decide +kernel
theorem dX3_init_1 : decode cX3_init 1 = .ok (.invokespecial 3, 3) := by decide +kernel
theorem dX3_init_4 : decode cX3_init 4 = .ok (.aload_n 0, 1) := by decide +kernel
theorem dX3_init_5 : decode cX3_init 5 = .ok (.iconst 5, 1) := by decide +kernel
theorem dX3_init_6 : decode cX3_init 6 = .ok (.newarray .int, 2) := by decide +kernel
theorem dX3_init_8 : decode cX3_init 8 = .ok (.putfield 9, 3) := by decide +kernel
theorem dX3_init_11 : decode cX3_init 11 = .ok (.aload_n 0, 1) := by decide +kernel
theorem dX3_init_12 : decode cX3_init 12 = .ok (.aload_n 1, 1) := by decide +kernel
theorem dX3_init_13 : decode cX3_init 13 = .ok (.putfield 15, 3) := by decide +kernel
theorem dX3_init_16 : decode cX3_init 16 = .ok (.aload_n 0, 1) := by decide +kernel
theorem dX3_init_17 : decode cX3_init 17 = .ok (.iconst 0, 1) := by decide +kernel
theorem dX3_init_18 : decode cX3_init 18 = .ok (.putfield 19, 3) := by decide +kernel
theorem dX3_init_21 : decode cX3_init 21 = .ok (.aload_n 0, 1) := by decide +kernel
theorem dX3_init_22 : decode cX3_init 22 = .ok (.iconst (-1), 1) := by decide +kernel
theorem dX3_init_23 : decode cX3_init 23 = .ok (.putfield 23, 3) := by decide +kernel
theorem dX3_init_26 : decode cX3_init 26 = .ok (.return_, 1) := by decide +kernel
theorem dX3_readTown_0 : decode cX3_readTown 0 = .ok (.aload_n 1, 1) := by decide +kernel
theorem dX3_readTown_1 : decode cX3_readTown 1 = .ok (.invokevirtual 26, 3) := by decide +kernel
theorem dX3_readTown_4 : decode cX3_readTown 4 = .ok (.aload_n 0, 1) := by decide +kernel
theorem dX3_readTown_5 : decode cX3_readTown 5 = .ok (.iconst 0, 1) := by decide +kernel
theorem dX3_readTown_6 : decode cX3_readTown 6 = .ok (.invokevirtual 31, 3) := by decide +kernel
theorem dX3_readTown_9 : decode cX3_readTown 9 = .ok (.aload_n 0, 1) := by decide +kernel
theorem dX3_readTown_10 : decode cX3_readTown 10 = .ok (.getfield 15, 3) := by decide +kernel
theorem dX3_readTown_13 : decode cX3_readTown 13 = .ok (.invokevirtual 35, 3) := by decide +kernel
theorem dX3_readTown_16 : decode cX3_readTown 16 = .ok (.iconst 0, 1) := by decide +kernel
theorem dX3_readTown_17 : decode cX3_readTown 17 = .ok (.istore_n 2, 1) := by decide +kernel
theorem dX3_readTown_18 : decode cX3_readTown 18 = .ok (.iload_n 2, 1) := by decide +kernel
theorem dX3_readTown_19 : decode cX3_readTown 19 = .ok (.sipush 900, 3) := by decide +kernel
theorem dX3_readTown_22 : decode cX3_readTown 22 = .ok (.if_icmp .gt 92, 3) := by decide +kernel
theorem dX3_readTown_25 : decode cX3_readTown 25 = .ok (.aload_n 0, 1) := by decide +kernel
theorem dX3_readTown_26 : decode cX3_readTown 26 = .ok (.getfield 15, 3) := by decide +kernel
theorem dX3_readTown_29 : decode cX3_readTown 29 = .ok (.invokevirtual 40, 3) := by decide +kernel
theorem dX3_readTown_32 : decode cX3_readTown 32 = .ok (.aload_n 0, 1) := by decide +kernel
theorem dX3_readTown_33 : decode cX3_readTown 33 = .ok (.getfield 15, 3) := by decide +kernel
theorem dX3_readTown_36 : decode cX3_readTown 36 = .ok (.getfield 43, 3) := by decide +kernel
theorem dX3_readTown_39 : decode cX3_readTown 39 = .ok (.ifCond .ne 6, 3) := by decide +kernel
theorem dX3_readTown_42 : decode cX3_readTown 42 = .ok (.goto 72, 3) := by decide +kernel
theorem dX3_readTown_45 : decode cX3_readTown 45 = .ok (.aload_n 0, 1) := by decide +kernel
theorem dX3_readTown_46 : decode cX3_readTown 46 = .ok (.invokevirtual 46, 3) := by decide +kernel
theorem dX3_readTown_49 : decode cX3_readTown 49 = .ok (.istore_n 3, 1) := by decide +kernel
theorem dX3_readTown_50 : decode cX3_readTown 50 = .ok (.iload_n 3, 1) := by decide +kernel
theorem dX3_readTown_51 : decode cX3_readTown 51 = .ok (.iconst (-1), 1) := by decide +kernel
theorem dX3_readTown_52 : decode cX3_readTown 52 = .ok (.if_icmp .ne 7, 3) := by decide +kernel
theorem dX3_readTown_55 : decode cX3_readTown 55 = .ok (.iconst 1, 1) := by decide +kernel
theorem dX3_readTown_56 : decode cX3_readTown 56 = .ok (.goto 8, 3) := by decide +kernel
theorem dX3_readTown_59 : decode cX3_readTown 59 = .ok (.aload_n 1, 1) := by decide +kernel
theorem dX3_readTown_60 : decode cX3_readTown 60 = .ok (.iload_n 3, 1) := by decide +kernel
theorem dX3_readTown_61 : decode cX3_readTown 61 = .ok (.invokevirtual 50, 3) := by decide +kernel
theorem dX3_readTown_64 : decode cX3_readTown 64 = .ok (.istore 4, 2) := by decide +kernel
theorem dX3_readTown_66 : decode cX3_readTown 66 = .ok (.iload 4, 2) := by decide +kernel
theorem dX3_readTown_68 : decode cX3_readTown 68 = .ok (.ifCond .ne 18, 3) := by decide +kernel
theorem dX3_readTown_71 : decode cX3_readTown 71 = .ok (.aload_n 0, 1) := by decide +kernel
theorem dX3_readTown_72 : decode cX3_readTown 72 = .ok (.getfield 15, 3) := by decide +kernel
theorem dX3_readTown_75 : decode cX3_readTown 75 = .ok (.invokevirtual 40, 3) := by decide +kernel
theorem dX3_readTown_78 : decode cX3_readTown 78 = .ok (.aload_n 0, 1) := by decide +kernel
theorem dX3_readTown_79 : decode cX3_readTown 79 = .ok (.iload_n 3, 1) := by decide +kernel
theorem dX3_readTown_80 : decode cX3_readTown 80 = .ok (.aload_n 1, 1) := by decide +kernel
theorem dX3_readTown_81 : decode cX3_readTown 81 = .ok (.invokevirtual 54, 3) := by decide +kernel
theorem dX3_readTown_84 : decode cX3_readTown 84 = .ok (.istore 4, 2) := by decide +kernel
theorem dX3_readTown_86 : decode cX3_readTown 86 = .ok (.iload 4, 2) := by decide +kernel
theorem dX3_readTown_88 : decode cX3_readTown 88 = .ok (.ifCond .eq 11, 3) := by decide +kernel
theorem dX3_readTown_91 : decode cX3_readTown 91 = .ok (.aload_n 0, 1) := by decide +kernel
theorem dX3_readTown_92 : decode cX3_readTown 92 = .ok (.iload 4, 2) := by decide +kernel
theorem dX3_readTown_94 : decode cX3_readTown 94 = .ok (.invokevirtual 31, 3) := by decide +kernel
theorem dX3_readTown_97 : decode cX3_readTown 97 = .ok (.iconst 0, 1) := by decide +kernel
theorem dX3_readTown_98 : decode cX3_readTown 98 = .ok (.ireturn, 1) := by decide +kernel
theorem dX3_readTown_99 : decode cX3_readTown 99 = .ok (.aload_n 1, 1) := by decide +kernel
theorem dX3_readTown_100 : decode cX3_readTown 100 = .ok (.iload_n 3, 1) := by decide +kernel
theorem dX3_readTown_101 : decode cX3_readTown 101 = .ok (.aload_n 0, 1) := by decide +kernel
theorem dX3_readTown_102 : decode cX3_readTown 102 = .ok (.getfield 9, 3) := by decide +kernel
theorem dX3_readTown_105 : decode cX3_readTown 105 = .ok (.invokevirtual 58, 3) := by decide +kernel
theorem dX3_readTown_108 : decode cX3_readTown 108 = .ok (.iinc 2 1, 3) := by decide +kernel
theorem dX3_readTown_111 : decode cX3_readTown 111 = .ok (.goto (-93), 3) := by decide +kernel
theorem dX3_readTown_114 : decode cX3_readTown 114 = .ok (.iconst 1, 1) := by decide +kernel
theorem dX3_readTown_115 : decode cX3_readTown 115 = .ok (.ireturn, 1) := by decide +kernel
theorem dX3_readBook_0 : decode cX3_readBook 0 = .ok (.bipush (-3), 2) := by decide +kernel
theorem dX3_readBook_2 : decode cX3_readBook 2 = .ok (.istore_n 2, 1) := by decide +kernel
theorem dX3_readBook_3 : decode cX3_readBook 3 = .ok (.aload_n 0, 1) := by decide +kernel
theorem dX3_readBook_4 : decode cX3_readBook 4 = .ok (.iconst 0, 1) := by decide +kernel
theorem dX3_readBook_5 : decode cX3_readBook 5 = .ok (.invokevirtual 31, 3) := by decide +kernel
theorem dX3_readBook_8 : decode cX3_readBook 8 = .ok (.aload_n 0, 1) := by decide +kernel
theorem dX3_readBook_9 : decode cX3_readBook 9 = .ok (.getfield 15, 3) := by decide +kernel
theorem dX3_readBook_12 : decode cX3_readBook 12 = .ok (.invokevirtual 35, 3) := by decide +kernel
theorem dX3_readBook_15 : decode cX3_readBook 15 = .ok (.iconst 0, 1) := by decide +kernel
theorem dX3_readBook_16 : decode cX3_readBook 16 = .ok (.istore_n 3, 1) := by decide +kernel
theorem dX3_readBook_17 : decode cX3_readBook 17 = .ok (.iload_n 3, 1) := by decide +kernel
theorem dX3_readBook_18 : decode cX3_readBook 18 = .ok (.sipush 900, 3) := by decide +kernel
theorem dX3_readBook_21 : decode cX3_readBook 21 = .ok (.if_icmp .gt 70, 3) := by decide +kernel
theorem dX3_readBook_24 : decode cX3_readBook 24 = .ok (.aload_n 0, 1) := by decide +kernel
theorem dX3_readBook_25 : decode cX3_readBook 25 = .ok (.getfield 15, 3) := by decide +kernel
theorem dX3_readBook_28 : decode cX3_readBook 28 = .ok (.invokevirtual 40, 3) := by decide +kernel
theorem dX3_readBook_31 : decode cX3_readBook 31 = .ok (.aload_n 0, 1) := by decide +kernel
theorem dX3_readBook_32 : decode cX3_readBook 32 = .ok (.getfield 15, 3) := by decide +kernel
theorem dX3_readBook_35 : decode cX3_readBook 35 = .ok (.getfield 43, 3) := by decide +kernel
theorem dX3_readBook_38 : decode cX3_readBook 38 = .ok (.ifCond .ne 6, 3) := by decide +kernel
theorem dX3_readBook_41 : decode cX3_readBook 41 = .ok (.goto 50, 3) := by decide +kernel
theorem dX3_readBook_44 : decode cX3_readBook 44 = .ok (.aload_n 0, 1) := by decide +kernel
theorem dX3_readBook_45 : decode cX3_readBook 45 = .ok (.bipush 10, 2) := by decide +kernel
theorem dX3_readBook_47 : decode cX3_readBook 47 = .ok (.aload_n 1, 1) := by decide +kernel
theorem dX3_readBook_48 : decode cX3_readBook 48 = .ok (.invokevirtual 54, 3) := by decide +kernel
theorem dX3_readBook_51 : decode cX3_readBook 51 = .ok (.istore 4, 2) := by decide +kernel
theorem dX3_readBook_53 : decode cX3_readBook 53 = .ok (.iload 4, 2) := by decide +kernel
theorem dX3_readBook_55 : decode cX3_readBook 55 = .ok (.ifCond .eq 11, 3) := by decide +kernel
theorem dX3_readBook_58 : decode cX3_readBook 58 = .ok (.aload_n 0, 1) := by decide +kernel
theorem dX3_readBook_59 : decode cX3_readBook 59 = .ok (.iload 4, 2) := by decide +kernel
theorem dX3_readBook_61 : decode cX3_readBook 61 = .ok (.invokevirtual 31, 3) := by decide +kernel
theorem dX3_readBook_64 : decode cX3_readBook 64 = .ok (.iconst (-1), 1) := by decide +kernel
theorem dX3_readBook_65 : decode cX3_readBook 65 = .ok (.ireturn, 1) := by decide +kernel
theorem dX3_readBook_66 : decode cX3_readBook 66 = .ok (.iload_n 2, 1) := by decide +kernel
theorem dX3_readBook_67 : decode cX3_readBook 67 = .ok (.bipush (-3), 2) := by decide +kernel
theorem dX3_readBook_69 : decode cX3_readBook 69 = .ok (.if_icmp .ne 16, 3) := by decide +kernel
theorem dX3_readBook_72 : decode cX3_readBook 72 = .ok (.aload_n 1, 1) := by decide +kernel
theorem dX3_readBook_73 : decode cX3_readBook 73 = .ok (.aload_n 0, 1) := by decide +kernel
theorem dX3_readBook_74 : decode cX3_readBook 74 = .ok (.getfield 9, 3) := by decide +kernel
theorem dX3_readBook_77 : decode cX3_readBook 77 = .ok (.invokevirtual 62, 3) := by decide +kernel
theorem dX3_readBook_80 : decode cX3_readBook 80 = .ok (.ifCond .eq 5, 3) := by decide +kernel
theorem dX3_readBook_83 : decode cX3_readBook 83 = .ok (.iload_n 3, 1) := by decide +kernel
theorem dX3_readBook_84 : decode cX3_readBook 84 = .ok (.istore_n 2, 1) := by decide +kernel
theorem dX3_readBook_85 : decode cX3_readBook 85 = .ok (.iinc 3 1, 3) := by decide +kernel
theorem dX3_readBook_88 : decode cX3_readBook 88 = .ok (.goto (-71), 3) := by decide +kernel
theorem dX3_readBook_91 : decode cX3_readBook 91 = .ok (.iload_n 2, 1) := by decide +kernel
theorem dX3_readBook_92 : decode cX3_readBook 92 = .ok (.ireturn, 1) := by decide +kernel
theorem dX3_readValues_0 : decode cX3_readValues 0 = .ok (.aload_n 0, 1) := by decide +kernel
theorem dX3_readValues_1 : decode cX3_readValues 1 = .ok (.getfield 15, 3) := by decide +kernel
theorem dX3_readValues_4 : decode cX3_readValues 4 = .ok (.invokevirtual 35, 3) := by decide +kernel
theorem dX3_readValues_7 : decode cX3_readValues 7 = .ok (.iconst 0, 1) := by decide +kernel
theorem dX3_readValues_8 : decode cX3_readValues 8 = .ok (.istore_n 3, 1) := by decide +kernel
theorem dX3_readValues_9 : decode cX3_readValues 9 = .ok (.iload_n 3, 1) := by decide +kernel
theorem dX3_readValues_10 : decode cX3_readValues 10 = .ok (.aload_n 1, 1) := by decide +kernel
theorem dX3_readValues_11 : decode cX3_readValues 11 = .ok (.getfield 66, 3) := by decide +kernel
theorem dX3_readValues_14 : decode cX3_readValues 14 = .ok (.if_icmp .ge 62, 3) := by decide +kernel
theorem dX3_readValues_17 : decode cX3_readValues 17 = .ok (.aload_n 0, 1) := by decide +kernel
theorem dX3_readValues_18 : decode cX3_readValues 18 = .ok (.getfield 15, 3) := by decide +kernel
theorem dX3_readValues_21 : decode cX3_readValues 21 = .ok (.invokevirtual 40, 3) := by decide +kernel
theorem dX3_readValues_24 : decode cX3_readValues 24 = .ok (.aload_n 0, 1) := by decide +kernel
theorem dX3_readValues_25 : decode cX3_readValues 25 = .ok (.bipush 11, 2) := by decide +kernel
theorem dX3_readValues_27 : decode cX3_readValues 27 = .ok (.aload_n 1, 1) := by decide +kernel
theorem dX3_readValues_28 : decode cX3_readValues 28 = .ok (.invokevirtual 54, 3) := by decide +kernel
theorem dX3_readValues_31 : decode cX3_readValues 31 = .ok (.ifCond .ne 13, 3) := by decide +kernel
theorem dX3_readValues_34 : decode cX3_readValues 34 = .ok (.iconst 2, 1) := by decide +kernel
theorem dX3_readValues_35 : decode cX3_readValues 35 = .ok (.iload_n 3, 1) := by decide +kernel
theorem dX3_readValues_36 : decode cX3_readValues 36 = .ok (.imul, 1) := by decide +kernel
theorem dX3_readValues_37 : decode cX3_readValues 37 = .ok (.iconst 1, 1) := by decide +kernel
theorem dX3_readValues_38 : decode cX3_readValues 38 = .ok (.iadd, 1) := by decide +kernel
theorem dX3_readValues_39 : decode cX3_readValues 39 = .ok (.aload_n 2, 1) := by decide +kernel
theorem dX3_readValues_40 : decode cX3_readValues 40 = .ok (.arraylength, 1) := by decide +kernel
theorem dX3_readValues_41 : decode cX3_readValues 41 = .ok (.if_icmp .lt 5, 3) := by decide +kernel
theorem dX3_readValues_44 : decode cX3_readValues 44 = .ok (.iconst 0, 1) := by decide +kernel
theorem dX3_readValues_45 : decode cX3_readValues 45 = .ok (.ireturn, 1) := by decide +kernel
theorem dX3_readValues_46 : decode cX3_readValues 46 = .ok (.aload_n 2, 1) := by decide +kernel
theorem dX3_readValues_47 : decode cX3_readValues 47 = .ok (.iconst 2, 1) := by decide +kernel
theorem dX3_readValues_48 : decode cX3_readValues 48 = .ok (.iload_n 3, 1) := by decide +kernel
theorem dX3_readValues_49 : decode cX3_readValues 49 = .ok (.imul, 1) := by decide +kernel
theorem dX3_readValues_50 : decode cX3_readValues 50 = .ok (.aload_n 0, 1) := by decide +kernel
theorem dX3_readValues_51 : decode cX3_readValues 51 = .ok (.getfield 9, 3) := by decide +kernel
theorem dX3_readValues_54 : decode cX3_readValues 54 = .ok (.iconst 0, 1) := by decide +kernel
theorem dX3_readValues_55 : decode cX3_readValues 55 = .ok (.iaload, 1) := by decide +kernel
theorem dX3_readValues_56 : decode cX3_readValues 56 = .ok (.iastore, 1) := by decide +kernel
theorem dX3_readValues_57 : decode cX3_readValues 57 = .ok (.aload_n 2, 1) := by decide +kernel
theorem dX3_readValues_58 : decode cX3_readValues 58 = .ok (.iconst 2, 1) := by decide +kernel
theorem dX3_readValues_59 : decode cX3_readValues 59 = .ok (.iload_n 3, 1) := by decide +kernel
theorem dX3_readValues_60 : decode cX3_readValues 60 = .ok (.imul, 1) := by decide +kernel
theorem dX3_readValues_61 : decode cX3_readValues 61 = .ok (.iconst 1, 1) := by decide +kernel
theorem dX3_readValues_62 : decode cX3_readValues 62 = .ok (.iadd, 1) := by decide +kernel
theorem dX3_readValues_63 : decode cX3_readValues 63 = .ok (.aload_n 0, 1) := by decide +kernel
theorem dX3_readValues_64 : decode cX3_readValues 64 = .ok (.getfield 9, 3) := by decide +kernel
theorem dX3_readValues_67 : decode cX3_readValues 67 = .ok (.iconst 1, 1) := by decide +kernel
theorem dX3_readValues_68 : decode cX3_readValues 68 = .ok (.iaload, 1) := by decide +kernel
theorem dX3_readValues_69 : decode cX3_readValues 69 = .ok (.iastore, 1) := by decide +kernel
theorem dX3_readValues_70 : decode cX3_readValues 70 = .ok (.iinc 3 1, 3) := by decide +kernel
theorem dX3_readValues_73 : decode cX3_readValues 73 = .ok (.goto (-64), 3) := by decide +kernel
theorem dX3_readValues_76 : decode cX3_readValues 76 = .ok (.aload_n 0, 1) := by decide +kernel
theorem dX3_readValues_77 : decode cX3_readValues 77 = .ok (.getfield 15, 3) := by decide +kernel
theorem dX3_readValues_80 : decode cX3_readValues 80 = .ok (.invokevirtual 40, 3) := by decide +kernel
theorem dX3_readValues_83 : decode cX3_readValues 83 = .ok (.aload_n 0, 1) := by decide +kernel
theorem dX3_readValues_84 : decode cX3_readValues 84 = .ok (.getfield 15, 3) := by decide +kernel
theorem dX3_readValues_87 : decode cX3_readValues 87 = .ok (.getfield 43, 3) := by decide +kernel
theorem dX3_readValues_90 : decode cX3_readValues 90 = .ok (.ifCond .ne 7, 3) := by decide +kernel
theorem dX3_readValues_93 : decode cX3_readValues 93 = .ok (.iconst 1, 1) := by decide +kernel
theorem dX3_readValues_94 : decode cX3_readValues 94 = .ok (.goto 4, 3) := by decide +kernel
theorem dX3_readValues_97 : decode cX3_readValues 97 = .ok (.iconst 0, 1) := by decide +kernel
theorem dX3_readValues_98 : decode cX3_readValues 98 = .ok (.ireturn, 1) := by decide +kernel
theorem dX3_note_0 : decode cX3_note 0 = .ok (.aload_n 0, 1) := by decide +kernel
theorem dX3_note_1 : decode cX3_note 1 = .ok (.iload_n 1, 1) := by decide +kernel
theorem dX3_note_2 : decode cX3_note 2 = .ok (.putfield 19, 3) := by decide +kernel
theorem dX3_note_5 : decode cX3_note 5 = .ok (.aload_n 0, 1) := by decide +kernel
theorem dX3_note_6 : decode cX3_note 6 = .ok (.iload_n 1, 1) := by decide +kernel
theorem dX3_note_7 : decode cX3_note 7 = .ok (.ifCond .ne 7, 3) := by decide +kernel
theorem dX3_note_10 : decode cX3_note 10 = .ok (.iconst (-1), 1) := by decide +kernel
theorem dX3_note_11 : decode cX3_note 11 = .ok (.goto 10, 3) := by decide +kernel
theorem dX3_note_14 : decode cX3_note 14 = .ok (.aload_n 0, 1) := by decide +kernel
theorem dX3_note_15 : decode cX3_note 15 = .ok (.getfield 15, 3) := by decide +kernel
theorem dX3_note_18 : decode cX3_note 18 = .ok (.getfield 69, 3) := by decide +kernel
theorem dX3_note_21 : decode cX3_note 21 = .ok (.putfield 23, 3) := by decide +kernel
theorem dX3_note_24 : decode cX3_note 24 = .ok (.return_, 1) := by decide +kernel
theorem dX3_clauseAtHand_0 : decode cX3_clauseAtHand 0 = .ok (.iconst 0, 1) := by decide +kernel
theorem dX3_clauseAtHand_1 : decode cX3_clauseAtHand 1 = .ok (.istore_n 1, 1) := by decide +kernel
theorem dX3_clauseAtHand_2 : decode cX3_clauseAtHand 2 = .ok (.aload_n 0, 1) := by decide +kernel
theorem dX3_clauseAtHand_3 : decode cX3_clauseAtHand 3 = .ok (.getfield 15, 3) := by decide +kernel
theorem dX3_clauseAtHand_6 : decode cX3_clauseAtHand 6 = .ok (.getfield 43, 3) := by decide +kernel
theorem dX3_clauseAtHand_9 : decode cX3_clauseAtHand 9 = .ok (.iconst 1, 1) := by decide +kernel
theorem dX3_clauseAtHand_10 : decode cX3_clauseAtHand 10 = .ok (.if_icmp .ne 35, 3) := by decide +kernel
theorem dX3_clauseAtHand_13 : decode cX3_clauseAtHand 13 = .ok (.iload_n 1, 1) := by decide +kernel
theorem dX3_clauseAtHand_14 : decode cX3_clauseAtHand 14 = .ok (.bipush 10, 2) := by decide +kernel
theorem dX3_clauseAtHand_16 : decode cX3_clauseAtHand 16 = .ok (.if_icmp .ge 29, 3) := by decide +kernel
theorem dX3_clauseAtHand_19 : decode cX3_clauseAtHand 19 = .ok (.iload_n 1, 1) := by decide +kernel
theorem dX3_clauseAtHand_20 : decode cX3_clauseAtHand 20 = .ok (.invokestatic 72, 3) := by decide +kernel
theorem dX3_clauseAtHand_23 : decode cX3_clauseAtHand 23 = .ok (.invokestatic 76, 3) := by decide +kernel
theorem dX3_clauseAtHand_26 : decode cX3_clauseAtHand 26 = .ok (.aload_n 0, 1) := by decide +kernel
theorem dX3_clauseAtHand_27 : decode cX3_clauseAtHand 27 = .ok (.getfield 15, 3) := by decide +kernel
theorem dX3_clauseAtHand_30 : decode cX3_clauseAtHand 30 = .ok (.getfield 80, 3) := by decide +kernel
theorem dX3_clauseAtHand_33 : decode cX3_clauseAtHand 33 = .ok (.lcmp, 1) := by decide +kernel
theorem dX3_clauseAtHand_34 : decode cX3_clauseAtHand 34 = .ok (.ifCond .ne 5, 3) := by decide +kernel
theorem dX3_clauseAtHand_37 : decode cX3_clauseAtHand 37 = .ok (.iload_n 1, 1) := by decide +kernel
theorem dX3_clauseAtHand_38 : decode cX3_clauseAtHand 38 = .ok (.ireturn, 1) := by decide +kernel
theorem dX3_clauseAtHand_39 : decode cX3_clauseAtHand 39 = .ok (.iinc 1 1, 3) := by decide +kernel
theorem dX3_clauseAtHand_42 : decode cX3_clauseAtHand 42 = .ok (.goto (-40), 3) := by decide +kernel
theorem dX3_clauseAtHand_45 : decode cX3_clauseAtHand 45 = .ok (.iconst (-1), 1) := by decide +kernel
theorem dX3_clauseAtHand_46 : decode cX3_clauseAtHand 46 = .ok (.ireturn, 1) := by decide +kernel
theorem dX3_faultInParts_0 : decode cX3_faultInParts 0 = .ok (.iload_n 1, 1) := by decide +kernel
theorem dX3_faultInParts_1 : decode cX3_faultInParts 1 = .ok (.invokestatic 84, 3) := by decide +kernel
theorem dX3_faultInParts_4 : decode cX3_faultInParts 4 = .ok (.astore_n 3, 1) := by decide +kernel
theorem dX3_faultInParts_5 : decode cX3_faultInParts 5 = .ok (.iconst 0, 1) := by decide +kernel
theorem dX3_faultInParts_6 : decode cX3_faultInParts 6 = .ok (.istore 4, 2) := by decide +kernel
theorem dX3_faultInParts_8 : decode cX3_faultInParts 8 = .ok (.iload 4, 2) := by decide +kernel
theorem dX3_faultInParts_10 : decode cX3_faultInParts 10 = .ok (.aload_n 3, 1) := by decide +kernel
theorem dX3_faultInParts_11 : decode cX3_faultInParts 11 = .ok (.invokevirtual 87, 3) := by decide +kernel
theorem dX3_faultInParts_14 : decode cX3_faultInParts 14 = .ok (.if_icmp .ge 111, 3) := by decide +kernel
theorem dX3_faultInParts_17 : decode cX3_faultInParts 17 = .ok (.iload 4, 2) := by decide +kernel
theorem dX3_faultInParts_19 : decode cX3_faultInParts 19 = .ok (.iconst 5, 1) := by decide +kernel
theorem dX3_faultInParts_20 : decode cX3_faultInParts 20 = .ok (.if_icmp .ge 105, 3) := by decide +kernel
theorem dX3_faultInParts_23 : decode cX3_faultInParts 23 = .ok (.aload_n 3, 1) := by decide +kernel
theorem dX3_faultInParts_24 : decode cX3_faultInParts 24 = .ok (.iload 4, 2) := by decide +kernel
theorem dX3_faultInParts_26 : decode cX3_faultInParts 26 = .ok (.invokevirtual 92, 3) := by decide +kernel
theorem dX3_faultInParts_29 : decode cX3_faultInParts 29 = .ok (.istore 5, 2) := by decide +kernel
theorem dX3_faultInParts_31 : decode cX3_faultInParts 31 = .ok (.iload 5, 2) := by decide +kernel
theorem dX3_faultInParts_33 : decode cX3_faultInParts 33 = .ok (.bipush 97, 2) := by decide +kernel
theorem dX3_faultInParts_35 : decode cX3_faultInParts 35 = .ok (.if_icmp .lt 14, 3) := by decide +kernel
theorem dX3_faultInParts_38 : decode cX3_faultInParts 38 = .ok (.iload 5, 2) := by decide +kernel
theorem dX3_faultInParts_40 : decode cX3_faultInParts 40 = .ok (.bipush 122, 2) := by decide +kernel
theorem dX3_faultInParts_42 : decode cX3_faultInParts 42 = .ok (.if_icmp .gt 7, 3) := by decide +kernel
theorem dX3_faultInParts_45 : decode cX3_faultInParts 45 = .ok (.iconst 1, 1) := by decide +kernel
theorem dX3_faultInParts_46 : decode cX3_faultInParts 46 = .ok (.goto 4, 3) := by decide +kernel
theorem dX3_faultInParts_49 : decode cX3_faultInParts 49 = .ok (.iconst 0, 1) := by decide +kernel
theorem dX3_faultInParts_50 : decode cX3_faultInParts 50 = .ok (.istore 6, 2) := by decide +kernel
theorem dX3_faultInParts_52 : decode cX3_faultInParts 52 = .ok (.aload_n 0, 1) := by decide +kernel
theorem dX3_faultInParts_53 : decode cX3_faultInParts 53 = .ok (.getfield 15, 3) := by decide +kernel
theorem dX3_faultInParts_56 : decode cX3_faultInParts 56 = .ok (.getfield 43, 3) := by decide +kernel
theorem dX3_faultInParts_59 : decode cX3_faultInParts 59 = .ok (.iload 6, 2) := by decide +kernel
theorem dX3_faultInParts_61 : decode cX3_faultInParts 61 = .ok (.ifCond .eq 7, 3) := by decide +kernel
theorem dX3_faultInParts_64 : decode cX3_faultInParts 64 = .ok (.iconst 1, 1) := by decide +kernel
theorem dX3_faultInParts_65 : decode cX3_faultInParts 65 = .ok (.goto 4, 3) := by decide +kernel
theorem dX3_faultInParts_68 : decode cX3_faultInParts 68 = .ok (.iconst 2, 1) := by decide +kernel
theorem dX3_faultInParts_69 : decode cX3_faultInParts 69 = .ok (.if_icmp .eq 5, 3) := by decide +kernel
theorem dX3_faultInParts_72 : decode cX3_faultInParts 72 = .ok (.iconst 1, 1) := by decide +kernel
theorem dX3_faultInParts_73 : decode cX3_faultInParts 73 = .ok (.ireturn, 1) := by decide +kernel
theorem dX3_faultInParts_74 : decode cX3_faultInParts 74 = .ok (.iload 6, 2) := by decide +kernel
theorem dX3_faultInParts_76 : decode cX3_faultInParts 76 = .ok (.ifCond .eq 16, 3) := by decide +kernel
theorem dX3_faultInParts_79 : decode cX3_faultInParts 79 = .ok (.aload_n 0, 1) := by decide +kernel
theorem dX3_faultInParts_80 : decode cX3_faultInParts 80 = .ok (.iload 5, 2) := by decide +kernel
theorem dX3_faultInParts_82 : decode cX3_faultInParts 82 = .ok (.iload_n 1, 1) := by decide +kernel
theorem dX3_faultInParts_83 : decode cX3_faultInParts 83 = .ok (.iload 4, 2) := by decide +kernel
theorem dX3_faultInParts_85 : decode cX3_faultInParts 85 = .ok (.aload_n 2, 1) := by decide +kernel
theorem dX3_faultInParts_86 : decode cX3_faultInParts 86 = .ok (.invokevirtual 96, 3) := by decide +kernel
theorem dX3_faultInParts_89 : decode cX3_faultInParts 89 = .ok (.goto 13, 3) := by decide +kernel
theorem dX3_faultInParts_92 : decode cX3_faultInParts 92 = .ok (.aload_n 0, 1) := by decide +kernel
theorem dX3_faultInParts_93 : decode cX3_faultInParts 93 = .ok (.iload 5, 2) := by decide +kernel
theorem dX3_faultInParts_95 : decode cX3_faultInParts 95 = .ok (.iload_n 1, 1) := by decide +kernel
theorem dX3_faultInParts_96 : decode cX3_faultInParts 96 = .ok (.iload 4, 2) := by decide +kernel
theorem dX3_faultInParts_98 : decode cX3_faultInParts 98 = .ok (.aload_n 2, 1) := by decide +kernel
theorem dX3_faultInParts_99 : decode cX3_faultInParts 99 = .ok (.invokevirtual 100, 3) := by decide +kernel
theorem dX3_faultInParts_102 : decode cX3_faultInParts 102 = .ok (.istore 7, 2) := by decide +kernel
theorem dX3_faultInParts_104 : decode cX3_faultInParts 104 = .ok (.iload 7, 2) := by decide +kernel
theorem dX3_faultInParts_106 : decode cX3_faultInParts 106 = .ok (.ifCond .eq 6, 3) := by decide +kernel
theorem dX3_faultInParts_109 : decode cX3_faultInParts 109 = .ok (.iload 7, 2) := by decide +kernel
theorem dX3_faultInParts_111 : decode cX3_faultInParts 111 = .ok (.ireturn, 1) := by decide +kernel
theorem dX3_faultInParts_112 : decode cX3_faultInParts 112 = .ok (.aload_n 0, 1) := by decide +kernel
theorem dX3_faultInParts_113 : decode cX3_faultInParts 113 = .ok (.getfield 15, 3) := by decide +kernel
theorem dX3_faultInParts_116 : decode cX3_faultInParts 116 = .ok (.invokevirtual 40, 3) := by decide +kernel
theorem dX3_faultInParts_119 : decode cX3_faultInParts 119 = .ok (.iinc 4 1, 3) := by decide +kernel
theorem dX3_faultInParts_122 : decode cX3_faultInParts 122 = .ok (.goto (-114), 3) := by decide +kernel
theorem dX3_faultInParts_125 : decode cX3_faultInParts 125 = .ok (.aload_n 0, 1) := by decide +kernel
theorem dX3_faultInParts_126 : decode cX3_faultInParts 126 = .ok (.getfield 15, 3) := by decide +kernel
theorem dX3_faultInParts_129 : decode cX3_faultInParts 129 = .ok (.getfield 43, 3) := by decide +kernel
theorem dX3_faultInParts_132 : decode cX3_faultInParts 132 = .ok (.iconst 3, 1) := by decide +kernel
theorem dX3_faultInParts_133 : decode cX3_faultInParts 133 = .ok (.if_icmp .ne 7, 3) := by decide +kernel
theorem dX3_faultInParts_136 : decode cX3_faultInParts 136 = .ok (.iconst 0, 1) := by decide +kernel
theorem dX3_faultInParts_137 : decode cX3_faultInParts 137 = .ok (.goto 4, 3) := by decide +kernel
theorem dX3_faultInParts_140 : decode cX3_faultInParts 140 = .ok (.iconst 1, 1) := by decide +kernel
theorem dX3_faultInParts_141 : decode cX3_faultInParts 141 = .ok (.ireturn, 1) := by decide +kernel
theorem dX3_faultOfName_0 : decode cX3_faultOfName 0 = .ok (.iload_n 1, 1) := by decide +kernel
theorem dX3_faultOfName_1 : decode cX3_faultOfName 1 = .ok (.bipush 115, 2) := by decide +kernel
theorem dX3_faultOfName_3 : decode cX3_faultOfName 3 = .ok (.if_icmp .eq 9, 3) := by decide +kernel
theorem dX3_faultOfName_6 : decode cX3_faultOfName 6 = .ok (.iload_n 1, 1) := by decide +kernel
theorem dX3_faultOfName_7 : decode cX3_faultOfName 7 = .ok (.bipush 110, 2) := by decide +kernel
theorem dX3_faultOfName_9 : decode cX3_faultOfName 9 = .ok (.if_icmp .ne 7, 3) := by decide +kernel
theorem dX3_faultOfName_12 : decode cX3_faultOfName 12 = .ok (.iconst 1, 1) := by decide +kernel
theorem dX3_faultOfName_13 : decode cX3_faultOfName 13 = .ok (.goto 4, 3) := by decide +kernel
theorem dX3_faultOfName_16 : decode cX3_faultOfName 16 = .ok (.iconst 0, 1) := by decide +kernel
theorem dX3_faultOfName_17 : decode cX3_faultOfName 17 = .ok (.istore 5, 2) := by decide +kernel
theorem dX3_faultOfName_19 : decode cX3_faultOfName 19 = .ok (.iload 5, 2) := by decide +kernel
theorem dX3_faultOfName_21 : decode cX3_faultOfName 21 = .ok (.ifCond .eq 18, 3) := by decide +kernel
theorem dX3_faultOfName_24 : decode cX3_faultOfName 24 = .ok (.aload 4, 2) := by decide +kernel
theorem dX3_faultOfName_26 : decode cX3_faultOfName 26 = .ok (.aload_n 0, 1) := by decide +kernel
theorem dX3_faultOfName_27 : decode cX3_faultOfName 27 = .ok (.getfield 15, 3) := by decide +kernel
theorem dX3_faultOfName_30 : decode cX3_faultOfName 30 = .ok (.getfield 80, 3) := by decide +kernel
theorem dX3_faultOfName_33 : decode cX3_faultOfName 33 = .ok (.invokevirtual 103, 3) := by decide +kernel
theorem dX3_faultOfName_36 : decode cX3_faultOfName 36 = .ok (.goto 15, 3) := by decide +kernel
theorem dX3_faultOfName_39 : decode cX3_faultOfName 39 = .ok (.aload 4, 2) := by decide +kernel
theorem dX3_faultOfName_41 : decode cX3_faultOfName 41 = .ok (.aload_n 0, 1) := by decide +kernel
theorem dX3_faultOfName_42 : decode cX3_faultOfName 42 = .ok (.getfield 15, 3) := by decide +kernel
theorem dX3_faultOfName_45 : decode cX3_faultOfName 45 = .ok (.getfield 80, 3) := by decide +kernel
theorem dX3_faultOfName_48 : decode cX3_faultOfName 48 = .ok (.invokevirtual 107, 3) := by decide +kernel
theorem dX3_faultOfName_51 : decode cX3_faultOfName 51 = .ok (.istore 6, 2) := by decide +kernel
theorem dX3_faultOfName_53 : decode cX3_faultOfName 53 = .ok (.iload_n 1, 1) := by decide +kernel
theorem dX3_faultOfName_54 : decode cX3_faultOfName 54 = .ok (.bipush 110, 2) := by decide +kernel
theorem dX3_faultOfName_56 : decode cX3_faultOfName 56 = .ok (.if_icmp .eq 9, 3) := by decide +kernel
theorem dX3_faultOfName_59 : decode cX3_faultOfName 59 = .ok (.iload_n 1, 1) := by decide +kernel
theorem dX3_faultOfName_60 : decode cX3_faultOfName 60 = .ok (.bipush 109, 2) := by decide +kernel
theorem dX3_faultOfName_62 : decode cX3_faultOfName 62 = .ok (.if_icmp .ne 36, 3) := by decide +kernel
theorem dX3_faultOfName_65 : decode cX3_faultOfName 65 = .ok (.iload 6, 2) := by decide +kernel
theorem dX3_faultOfName_67 : decode cX3_faultOfName 67 = .ok (.iconst (-1), 1) := by decide +kernel
theorem dX3_faultOfName_68 : decode cX3_faultOfName 68 = .ok (.if_icmp .eq 5, 3) := by decide +kernel
theorem dX3_faultOfName_71 : decode cX3_faultOfName 71 = .ok (.iconst 3, 1) := by decide +kernel
theorem dX3_faultOfName_72 : decode cX3_faultOfName 72 = .ok (.ireturn, 1) := by decide +kernel
theorem dX3_faultOfName_73 : decode cX3_faultOfName 73 = .ok (.aload 4, 2) := by decide +kernel
theorem dX3_faultOfName_75 : decode cX3_faultOfName 75 = .ok (.iload_n 1, 1) := by decide +kernel
theorem dX3_faultOfName_76 : decode cX3_faultOfName 76 = .ok (.bipush 110, 2) := by decide +kernel
theorem dX3_faultOfName_78 : decode cX3_faultOfName 78 = .ok (.if_icmp .ne 7, 3) := by decide +kernel
theorem dX3_faultOfName_81 : decode cX3_faultOfName 81 = .ok (.iconst 1, 1) := by decide +kernel
theorem dX3_faultOfName_82 : decode cX3_faultOfName 82 = .ok (.goto 4, 3) := by decide +kernel
theorem dX3_faultOfName_85 : decode cX3_faultOfName 85 = .ok (.iconst 0, 1) := by decide +kernel
theorem dX3_faultOfName_86 : decode cX3_faultOfName 86 = .ok (.aload_n 0, 1) := by decide +kernel
theorem dX3_faultOfName_87 : decode cX3_faultOfName 87 = .ok (.getfield 15, 3) := by decide +kernel
theorem dX3_faultOfName_90 : decode cX3_faultOfName 90 = .ok (.getfield 80, 3) := by decide +kernel
theorem dX3_faultOfName_93 : decode cX3_faultOfName 93 = .ok (.invokevirtual 110, 3) := by decide +kernel
theorem dX3_faultOfName_96 : decode cX3_faultOfName 96 = .ok (.iconst 0, 1) := by decide +kernel
theorem dX3_faultOfName_97 : decode cX3_faultOfName 97 = .ok (.ireturn, 1) := by decide +kernel
theorem dX3_faultOfName_98 : decode cX3_faultOfName 98 = .ok (.iload 6, 2) := by decide +kernel
theorem dX3_faultOfName_100 : decode cX3_faultOfName 100 = .ok (.iconst (-1), 1) := by decide +kernel
theorem dX3_faultOfName_101 : decode cX3_faultOfName 101 = .ok (.if_icmp .ne 5, 3) := by decide +kernel
theorem dX3_faultOfName_104 : decode cX3_faultOfName 104 = .ok (.iconst 5, 1) := by decide +kernel
theorem dX3_faultOfName_105 : decode cX3_faultOfName 105 = .ok (.ireturn, 1) := by decide +kernel
theorem dX3_faultOfName_106 : decode cX3_faultOfName 106 = .ok (.aload_n 0, 1) := by decide +kernel
theorem dX3_faultOfName_107 : decode cX3_faultOfName 107 = .ok (.getfield 9, 3) := by decide +kernel
theorem dX3_faultOfName_110 : decode cX3_faultOfName 110 = .ok (.iload_n 3, 1) := by decide +kernel
theorem dX3_faultOfName_111 : decode cX3_faultOfName 111 = .ok (.iload 6, 2) := by decide +kernel
theorem dX3_faultOfName_113 : decode cX3_faultOfName 113 = .ok (.iastore, 1) := by decide +kernel
theorem dX3_faultOfName_114 : decode cX3_faultOfName 114 = .ok (.iload_n 2, 1) := by decide +kernel
theorem dX3_faultOfName_115 : decode cX3_faultOfName 115 = .ok (.bipush 7, 2) := by decide +kernel
theorem dX3_faultOfName_117 : decode cX3_faultOfName 117 = .ok (.if_icmp .ne 20, 3) := by decide +kernel
theorem dX3_faultOfName_120 : decode cX3_faultOfName 120 = .ok (.aload 4, 2) := by decide +kernel
theorem dX3_faultOfName_122 : decode cX3_faultOfName 122 = .ok (.bipush 7, 2) := by decide +kernel
theorem dX3_faultOfName_124 : decode cX3_faultOfName 124 = .ok (.iload 6, 2) := by decide +kernel
theorem dX3_faultOfName_126 : decode cX3_faultOfName 126 = .ok (.iconst 0, 1) := by decide +kernel
theorem dX3_faultOfName_127 : decode cX3_faultOfName 127 = .ok (.invokevirtual 114, 3) := by decide +kernel
theorem dX3_faultOfName_130 : decode cX3_faultOfName 130 = .ok (.ifCond .eq 7, 3) := by decide +kernel
theorem dX3_faultOfName_133 : decode cX3_faultOfName 133 = .ok (.iconst 3, 1) := by decide +kernel
theorem dX3_faultOfName_134 : decode cX3_faultOfName 134 = .ok (.goto 4, 3) := by decide +kernel
theorem dX3_faultOfName_137 : decode cX3_faultOfName 137 = .ok (.iconst 0, 1) := by decide +kernel
theorem dX3_faultOfName_138 : decode cX3_faultOfName 138 = .ok (.ireturn, 1) := by decide +kernel
theorem dX3_faultOfNumber_0 : decode cX3_faultOfNumber 0 = .ok (.aload_n 0, 1) := by decide +kernel
theorem dX3_faultOfNumber_1 : decode cX3_faultOfNumber 1 = .ok (.getfield 15, 3) := by decide +kernel
theorem dX3_faultOfNumber_4 : decode cX3_faultOfNumber 4 = .ok (.getfield 118, 3) := by decide +kernel
theorem dX3_faultOfNumber_7 : decode cX3_faultOfNumber 7 = .ok (.istore 5, 2) := by decide +kernel
theorem dX3_faultOfNumber_9 : decode cX3_faultOfNumber 9 = .ok (.iload 5, 2) := by decide +kernel
theorem dX3_faultOfNumber_11 : decode cX3_faultOfNumber 11 = .ok (.iload_n 1, 1) := by decide +kernel
theorem dX3_faultOfNumber_12 : decode cX3_faultOfNumber 12 = .ok (.invokestatic 121, 3) := by decide +kernel
theorem dX3_faultOfNumber_15 : decode cX3_faultOfNumber 15 = .ok (.if_icmp .lt 12, 3) := by decide +kernel
theorem dX3_faultOfNumber_18 : decode cX3_faultOfNumber 18 = .ok (.iload 5, 2) := by decide +kernel
theorem dX3_faultOfNumber_20 : decode cX3_faultOfNumber 20 = .ok (.iload_n 1, 1) := by decide +kernel
theorem dX3_faultOfNumber_21 : decode cX3_faultOfNumber 21 = .ok (.invokestatic 125, 3) := by decide +kernel
theorem dX3_faultOfNumber_24 : decode cX3_faultOfNumber 24 = .ok (.if_icmp .le 5, 3) := by decide +kernel
theorem dX3_faultOfNumber_27 : decode cX3_faultOfNumber 27 = .ok (.iconst 2, 1) := by decide +kernel
theorem dX3_faultOfNumber_28 : decode cX3_faultOfNumber 28 = .ok (.ireturn, 1) := by decide +kernel
theorem dX3_faultOfNumber_29 : decode cX3_faultOfNumber 29 = .ok (.aload_n 0, 1) := by decide +kernel
theorem dX3_faultOfNumber_30 : decode cX3_faultOfNumber 30 = .ok (.getfield 9, 3) := by decide +kernel
theorem dX3_faultOfNumber_33 : decode cX3_faultOfNumber 33 = .ok (.iload_n 3, 1) := by decide +kernel
theorem dX3_faultOfNumber_34 : decode cX3_faultOfNumber 34 = .ok (.iload 5, 2) := by decide +kernel
theorem dX3_faultOfNumber_36 : decode cX3_faultOfNumber 36 = .ok (.iastore, 1) := by decide +kernel
theorem dX3_faultOfNumber_37 : decode cX3_faultOfNumber 37 = .ok (.iload_n 1, 1) := by decide +kernel
theorem dX3_faultOfNumber_38 : decode cX3_faultOfNumber 38 = .ok (.bipush 68, 2) := by decide +kernel
theorem dX3_faultOfNumber_40 : decode cX3_faultOfNumber 40 = .ok (.if_icmp .eq 5, 3) := by decide +kernel
theorem dX3_faultOfNumber_43 : decode cX3_faultOfNumber 43 = .ok (.iconst 0, 1) := by decide +kernel
theorem dX3_faultOfNumber_44 : decode cX3_faultOfNumber 44 = .ok (.ireturn, 1) := by decide +kernel
theorem dX3_faultOfNumber_45 : decode cX3_faultOfNumber 45 = .ok (.aload 4, 2) := by decide +kernel
theorem dX3_faultOfNumber_47 : decode cX3_faultOfNumber 47 = .ok (.iload_n 2, 1) := by decide +kernel
theorem dX3_faultOfNumber_48 : decode cX3_faultOfNumber 48 = .ok (.iload_n 2, 1) := by decide +kernel
theorem dX3_faultOfNumber_49 : decode cX3_faultOfNumber 49 = .ok (.ifCond .ne 7, 3) := by decide +kernel
theorem dX3_faultOfNumber_52 : decode cX3_faultOfNumber 52 = .ok (.iconst 0, 1) := by decide +kernel
theorem dX3_faultOfNumber_53 : decode cX3_faultOfNumber 53 = .ok (.goto 9, 3) := by decide +kernel
theorem dX3_faultOfNumber_56 : decode cX3_faultOfNumber 56 = .ok (.aload_n 0, 1) := by decide +kernel
theorem dX3_faultOfNumber_57 : decode cX3_faultOfNumber 57 = .ok (.getfield 9, 3) := by decide +kernel
theorem dX3_faultOfNumber_60 : decode cX3_faultOfNumber 60 = .ok (.iconst 0, 1) := by decide +kernel
theorem dX3_faultOfNumber_61 : decode cX3_faultOfNumber 61 = .ok (.iaload, 1) := by decide +kernel
theorem dX3_faultOfNumber_62 : decode cX3_faultOfNumber 62 = .ok (.iload 5, 2) := by decide +kernel
theorem dX3_faultOfNumber_64 : decode cX3_faultOfNumber 64 = .ok (.invokevirtual 114, 3) := by decide +kernel
theorem dX3_faultOfNumber_67 : decode cX3_faultOfNumber 67 = .ok (.ifCond .eq 7, 3) := by decide +kernel
theorem dX3_faultOfNumber_70 : decode cX3_faultOfNumber 70 = .ok (.iconst 3, 1) := by decide +kernel
theorem dX3_faultOfNumber_71 : decode cX3_faultOfNumber 71 = .ok (.goto 4, 3) := by decide +kernel
theorem dX3_faultOfNumber_74 : decode cX3_faultOfNumber 74 = .ok (.iconst 0, 1) := by decide +kernel
theorem dX3_faultOfNumber_75 : decode cX3_faultOfNumber 75 = .ok (.ireturn, 1) := by decide +kernel
theorem dX3_lettersOf_0 : decode cX3_lettersOf 0 = .ok (.lconst 0, 1) := by decide +kernel
theorem dX3_lettersOf_1 : decode cX3_lettersOf 1 = .ok (.lstore_n 1, 1) := by decide +kernel
theorem dX3_lettersOf_2 : decode cX3_lettersOf 2 = .ok (.iconst 0, 1) := by decide +kernel
theorem dX3_lettersOf_3 : decode cX3_lettersOf 3 = .ok (.istore_n 3, 1) := by decide +kernel
theorem dX3_lettersOf_4 : decode cX3_lettersOf 4 = .ok (.iload_n 3, 1) := by decide +kernel
theorem dX3_lettersOf_5 : decode cX3_lettersOf 5 = .ok (.aload_n 0, 1) := by decide +kernel
theorem dX3_lettersOf_6 : decode cX3_lettersOf 6 = .ok (.invokevirtual 87, 3) := by decide +kernel
theorem dX3_lettersOf_9 : decode cX3_lettersOf 9 = .ok (.if_icmp .ge 21, 3) := by decide +kernel
theorem dX3_lettersOf_12 : decode cX3_lettersOf 12 = .ok (.lload_n 1, 1) := by decide +kernel
theorem dX3_lettersOf_13 : decode cX3_lettersOf 13 = .ok (.bipush 8, 2) := by decide +kernel
theorem dX3_lettersOf_15 : decode cX3_lettersOf 15 = .ok (.lshl, 1) := by decide +kernel
theorem dX3_lettersOf_16 : decode cX3_lettersOf 16 = .ok (.aload_n 0, 1) := by decide +kernel
theorem dX3_lettersOf_17 : decode cX3_lettersOf 17 = .ok (.iload_n 3, 1) := by decide +kernel
theorem dX3_lettersOf_18 : decode cX3_lettersOf 18 = .ok (.invokevirtual 92, 3) := by decide +kernel
theorem dX3_lettersOf_21 : decode cX3_lettersOf 21 = .ok (.i2l, 1) := by decide +kernel
theorem dX3_lettersOf_22 : decode cX3_lettersOf 22 = .ok (.lor, 1) := by decide +kernel
theorem dX3_lettersOf_23 : decode cX3_lettersOf 23 = .ok (.lstore_n 1, 1) := by decide +kernel
theorem dX3_lettersOf_24 : decode cX3_lettersOf 24 = .ok (.iinc 3 1, 3) := by decide +kernel
theorem dX3_lettersOf_27 : decode cX3_lettersOf 27 = .ok (.goto (-23), 3) := by decide +kernel
theorem dX3_lettersOf_30 : decode cX3_lettersOf 30 = .ok (.lload_n 1, 1) := by decide +kernel
theorem dX3_lettersOf_31 : decode cX3_lettersOf 31 = .ok (.lreturn, 1) := by decide +kernel
theorem dX3_wordOf_0 : decode cX3_wordOf 0 = .ok (.iload_n 0, 1) := by decide +kernel
theorem dX3_wordOf_1 : decode cX3_wordOf 1 = .ok (.tableswitch 78 0 8 #[51, 54, 57, 60, 63, 66, 69, 72, 75], 51) := by decide +kernel
theorem dX3_wordOf_52 : decode cX3_wordOf 52 = .ok (.ldc 128, 2) := by decide +kernel
theorem dX3_wordOf_54 : decode cX3_wordOf 54 = .ok (.areturn, 1) := by decide +kernel
theorem dX3_wordOf_55 : decode cX3_wordOf 55 = .ok (.ldc 130, 2) := by decide +kernel
theorem dX3_wordOf_57 : decode cX3_wordOf 57 = .ok (.areturn, 1) := by decide +kernel
theorem dX3_wordOf_58 : decode cX3_wordOf 58 = .ok (.ldc 132, 2) := by decide +kernel
theorem dX3_wordOf_60 : decode cX3_wordOf 60 = .ok (.areturn, 1) := by decide +kernel
theorem dX3_wordOf_61 : decode cX3_wordOf 61 = .ok (.ldc 134, 2) := by decide +kernel
theorem dX3_wordOf_63 : decode cX3_wordOf 63 = .ok (.areturn, 1) := by decide +kernel
theorem dX3_wordOf_64 : decode cX3_wordOf 64 = .ok (.ldc 136, 2) := by decide +kernel
theorem dX3_wordOf_66 : decode cX3_wordOf 66 = .ok (.areturn, 1) := by decide +kernel
theorem dX3_wordOf_67 : decode cX3_wordOf 67 = .ok (.ldc 138, 2) := by decide +kernel
theorem dX3_wordOf_69 : decode cX3_wordOf 69 = .ok (.areturn, 1) := by decide +kernel
theorem dX3_wordOf_70 : decode cX3_wordOf 70 = .ok (.ldc 140, 2) := by decide +kernel
theorem dX3_wordOf_72 : decode cX3_wordOf 72 = .ok (.areturn, 1) := by decide +kernel
theorem dX3_wordOf_73 : decode cX3_wordOf 73 = .ok (.ldc 142, 2) := by decide +kernel
theorem dX3_wordOf_75 : decode cX3_wordOf 75 = .ok (.areturn, 1) := by decide +kernel
theorem dX3_wordOf_76 : decode cX3_wordOf 76 = .ok (.ldc 144, 2) := by decide +kernel
theorem dX3_wordOf_78 : decode cX3_wordOf 78 = .ok (.areturn, 1) := by decide +kernel
theorem dX3_wordOf_79 : decode cX3_wordOf 79 = .ok (.ldc 146, 2) := by decide +kernel
theorem dX3_wordOf_81 : decode cX3_wordOf 81 = .ok (.areturn, 1) := by decide +kernel
theorem dX3_shapeOf_0 : decode cX3_shapeOf 0 = .ok (.iload_n 0, 1) := by decide +kernel
theorem dX3_shapeOf_1 : decode cX3_shapeOf 1 = .ok (.tableswitch 92 0 10 #[59, 62, 65, 68, 71, 74, 77, 80, 83, 86, 89], 59) := by decide +kernel
theorem dX3_shapeOf_60 : decode cX3_shapeOf 60 = .ok (.ldc 148, 2) := by decide +kernel
theorem dX3_shapeOf_62 : decode cX3_shapeOf 62 = .ok (.areturn, 1) := by decide +kernel
theorem dX3_shapeOf_63 : decode cX3_shapeOf 63 = .ok (.ldc 150, 2) := by decide +kernel
theorem dX3_shapeOf_65 : decode cX3_shapeOf 65 = .ok (.areturn, 1) := by decide +kernel
theorem dX3_shapeOf_66 : decode cX3_shapeOf 66 = .ok (.ldc 152, 2) := by decide +kernel
theorem dX3_shapeOf_68 : decode cX3_shapeOf 68 = .ok (.areturn, 1) := by decide +kernel
theorem dX3_shapeOf_69 : decode cX3_shapeOf 69 = .ok (.ldc 154, 2) := by decide +kernel
theorem dX3_shapeOf_71 : decode cX3_shapeOf 71 = .ok (.areturn, 1) := by decide +kernel
theorem dX3_shapeOf_72 : decode cX3_shapeOf 72 = .ok (.ldc 156, 2) := by decide +kernel
theorem dX3_shapeOf_74 : decode cX3_shapeOf 74 = .ok (.areturn, 1) := by decide +kernel
theorem dX3_shapeOf_75 : decode cX3_shapeOf 75 = .ok (.ldc 158, 2) := by decide +kernel
theorem dX3_shapeOf_77 : decode cX3_shapeOf 77 = .ok (.areturn, 1) := by decide +kernel
theorem dX3_shapeOf_78 : decode cX3_shapeOf 78 = .ok (.ldc 160, 2) := by decide +kernel
theorem dX3_shapeOf_80 : decode cX3_shapeOf 80 = .ok (.areturn, 1) := by decide +kernel
theorem dX3_shapeOf_81 : decode cX3_shapeOf 81 = .ok (.ldc 162, 2) := by decide +kernel
theorem dX3_shapeOf_83 : decode cX3_shapeOf 83 = .ok (.areturn, 1) := by decide +kernel
theorem dX3_shapeOf_84 : decode cX3_shapeOf 84 = .ok (.ldc 164, 2) := by decide +kernel
theorem dX3_shapeOf_86 : decode cX3_shapeOf 86 = .ok (.areturn, 1) := by decide +kernel
theorem dX3_shapeOf_87 : decode cX3_shapeOf 87 = .ok (.ldc 166, 2) := by decide +kernel
theorem dX3_shapeOf_89 : decode cX3_shapeOf 89 = .ok (.areturn, 1) := by decide +kernel
theorem dX3_shapeOf_90 : decode cX3_shapeOf 90 = .ok (.ldc 168, 2) := by decide +kernel
theorem dX3_shapeOf_92 : decode cX3_shapeOf 92 = .ok (.areturn, 1) := by decide +kernel
theorem dX3_shapeOf_93 : decode cX3_shapeOf 93 = .ok (.ldc 170, 2) := by decide +kernel
theorem dX3_shapeOf_95 : decode cX3_shapeOf 95 = .ok (.areturn, 1) := by decide +kernel
theorem dX3_leastOf_0 : decode cX3_leastOf 0 = .ok (.iload_n 0, 1) := by decide +kernel
theorem dX3_leastOf_1 : decode cX3_leastOf 1 = .ok (.bipush 80, 2) := by decide +kernel
theorem dX3_leastOf_3 : decode cX3_leastOf 3 = .ok (.if_icmp .eq 21, 3) := by decide +kernel
theorem dX3_leastOf_6 : decode cX3_leastOf 6 = .ok (.iload_n 0, 1) := by decide +kernel
theorem dX3_leastOf_7 : decode cX3_leastOf 7 = .ok (.bipush 69, 2) := by decide +kernel
theorem dX3_leastOf_9 : decode cX3_leastOf 9 = .ok (.if_icmp .eq 15, 3) := by decide +kernel
theorem dX3_leastOf_12 : decode cX3_leastOf 12 = .ok (.iload_n 0, 1) := by decide +kernel
theorem dX3_leastOf_13 : decode cX3_leastOf 13 = .ok (.bipush 85, 2) := by decide +kernel
theorem dX3_leastOf_15 : decode cX3_leastOf 15 = .ok (.if_icmp .eq 9, 3) := by decide +kernel
theorem dX3_leastOf_18 : decode cX3_leastOf 18 = .ok (.iload_n 0, 1) := by decide +kernel
theorem dX3_leastOf_19 : decode cX3_leastOf 19 = .ok (.bipush 73, 2) := by decide +kernel
theorem dX3_leastOf_21 : decode cX3_leastOf 21 = .ok (.if_icmp .ne 7, 3) := by decide +kernel
theorem dX3_leastOf_24 : decode cX3_leastOf 24 = .ok (.iconst 1, 1) := by decide +kernel
theorem dX3_leastOf_25 : decode cX3_leastOf 25 = .ok (.goto 4, 3) := by decide +kernel
theorem dX3_leastOf_28 : decode cX3_leastOf 28 = .ok (.iconst 0, 1) := by decide +kernel
theorem dX3_leastOf_29 : decode cX3_leastOf 29 = .ok (.ireturn, 1) := by decide +kernel
theorem dX3_mostOf_0 : decode cX3_mostOf 0 = .ok (.iload_n 0, 1) := by decide +kernel
theorem dX3_mostOf_1 : decode cX3_mostOf 1 = .ok (.tableswitch 123 67 85 #[105, 91, 111, 123, 108, 101, 120, 123, 123, 94, 114, 123, 123, 98, 123, 123, 123, 123, 118], 91) := by decide +kernel
theorem dX3_mostOf_92 : decode cX3_mostOf 92 = .ok (.bipush 6, 2) := by decide +kernel
theorem dX3_mostOf_94 : decode cX3_mostOf 94 = .ok (.ireturn, 1) := by decide +kernel
theorem dX3_mostOf_95 : decode cX3_mostOf 95 = .ok (.sipush 900, 3) := by decide +kernel
theorem dX3_mostOf_98 : decode cX3_mostOf 98 = .ok (.ireturn, 1) := by decide +kernel
theorem dX3_mostOf_99 : decode cX3_mostOf 99 = .ok (.bipush 99, 2) := by decide +kernel
theorem dX3_mostOf_101 : decode cX3_mostOf 101 = .ok (.ireturn, 1) := by decide +kernel
theorem dX3_mostOf_102 : decode cX3_mostOf 102 = .ok (.sipush 1000, 3) := by decide +kernel
theorem dX3_mostOf_105 : decode cX3_mostOf 105 = .ok (.ireturn, 1) := by decide +kernel
theorem dX3_mostOf_106 : decode cX3_mostOf 106 = .ok (.bipush 60, 2) := by decide +kernel
theorem dX3_mostOf_108 : decode cX3_mostOf 108 = .ok (.ireturn, 1) := by decide +kernel
theorem dX3_mostOf_109 : decode cX3_mostOf 109 = .ok (.bipush 9, 2) := by decide +kernel
theorem dX3_mostOf_111 : decode cX3_mostOf 111 = .ok (.ireturn, 1) := by decide +kernel
theorem dX3_mostOf_112 : decode cX3_mostOf 112 = .ok (.bipush 20, 2) := by decide +kernel
theorem dX3_mostOf_114 : decode cX3_mostOf 114 = .ok (.ireturn, 1) := by decide +kernel
theorem dX3_mostOf_115 : decode cX3_mostOf 115 = .ok (.sipush 999, 3) := by decide +kernel
theorem dX3_mostOf_118 : decode cX3_mostOf 118 = .ok (.ireturn, 1) := by decide +kernel
theorem dX3_mostOf_119 : decode cX3_mostOf 119 = .ok (.iconst 3, 1) := by decide +kernel
theorem dX3_mostOf_120 : decode cX3_mostOf 120 = .ok (.ireturn, 1) := by decide +kernel
theorem dX3_mostOf_121 : decode cX3_mostOf 121 = .ok (.bipush 127, 2) := by decide +kernel
theorem dX3_mostOf_123 : decode cX3_mostOf 123 = .ok (.ireturn, 1) := by decide +kernel
theorem dX3_mostOf_124 : decode cX3_mostOf 124 = .ok (.bipush 99, 2) := by decide +kernel
theorem dX3_mostOf_126 : decode cX3_mostOf 126 = .ok (.ireturn, 1) := by decide +kernel
theorem dX4_init_0 : decode cX4_init 0 = .ok (.aload_n 0, 1) := by decide +kernel
theorem dX4_init_1 : decode cX4_init 1 = .ok (.invokespecial 3, 3) := by decide +kernel
theorem dX4_init_4 : decode cX4_init 4 = .ok (.aload_n 0, 1) := by decide +kernel
theorem dX4_init_5 : decode cX4_init 5 = .ok (.iconst 4, 1) := by decide +kernel
theorem dX4_init_6 : decode cX4_init 6 = .ok (.newarray .int, 2) := by decide +kernel
theorem dX4_init_8 : decode cX4_init 8 = .ok (.putfield 9, 3) := by decide +kernel
theorem dX4_init_11 : decode cX4_init 11 = .ok (.aload_n 0, 1) := by decide +kernel
theorem dX4_init_12 : decode cX4_init 12 = .ok (.bipush 28, 2) := by decide +kernel
theorem dX4_init_14 : decode cX4_init 14 = .ok (.newarray .int, 2) := by decide +kernel
theorem dX4_init_16 : decode cX4_init 16 = .ok (.putfield 15, 3) := by decide +kernel
theorem dX4_init_19 : decode cX4_init 19 = .ok (.aload_n 0, 1) := by decide +kernel
theorem dX4_init_20 : decode cX4_init 20 = .ok (.iconst (-1), 1) := by decide +kernel
theorem dX4_init_21 : decode cX4_init 21 = .ok (.putfield 18, 3) := by decide +kernel
theorem dX4_init_24 : decode cX4_init 24 = .ok (.return_, 1) := by decide +kernel
theorem dX4_begin_0 : decode cX4_begin 0 = .ok (.aload_n 0, 1) := by decide +kernel
theorem dX4_begin_1 : decode cX4_begin 1 = .ok (.iconst 0, 1) := by decide +kernel
theorem dX4_begin_2 : decode cX4_begin 2 = .ok (.putfield 18, 3) := by decide +kernel
theorem dX4_begin_5 : decode cX4_begin 5 = .ok (.aload_n 0, 1) := by decide +kernel
theorem dX4_begin_6 : decode cX4_begin 6 = .ok (.iconst 0, 1) := by decide +kernel
theorem dX4_begin_7 : decode cX4_begin 7 = .ok (.putfield 22, 3) := by decide +kernel
theorem dX4_begin_10 : decode cX4_begin 10 = .ok (.aload_n 0, 1) := by decide +kernel
theorem dX4_begin_11 : decode cX4_begin 11 = .ok (.iconst 0, 1) := by decide +kernel
theorem dX4_begin_12 : decode cX4_begin 12 = .ok (.putfield 25, 3) := by decide +kernel
theorem dX4_begin_15 : decode cX4_begin 15 = .ok (.aload_n 0, 1) := by decide +kernel
theorem dX4_begin_16 : decode cX4_begin 16 = .ok (.lconst 0, 1) := by decide +kernel
theorem dX4_begin_17 : decode cX4_begin 17 = .ok (.putfield 28, 3) := by decide +kernel
theorem dX4_begin_20 : decode cX4_begin 20 = .ok (.aload_n 0, 1) := by decide +kernel
theorem dX4_begin_21 : decode cX4_begin 21 = .ok (.getfield 15, 3) := by decide +kernel
theorem dX4_begin_24 : decode cX4_begin 24 = .ok (.iconst 0, 1) := by decide +kernel
theorem dX4_begin_25 : decode cX4_begin 25 = .ok (.invokestatic 32, 3) := by decide +kernel
theorem dX4_begin_28 : decode cX4_begin 28 = .ok (.iconst 0, 1) := by decide +kernel
theorem dX4_begin_29 : decode cX4_begin 29 = .ok (.istore_n 2, 1) := by decide +kernel
theorem dX4_begin_30 : decode cX4_begin 30 = .ok (.iload_n 2, 1) := by decide +kernel
theorem dX4_begin_31 : decode cX4_begin 31 = .ok (.aload_n 1, 1) := by decide +kernel
theorem dX4_begin_32 : decode cX4_begin 32 = .ok (.getfield 38, 3) := by decide +kernel
theorem dX4_begin_35 : decode cX4_begin 35 = .ok (.if_icmp .ge 26, 3) := by decide +kernel
theorem dX4_begin_38 : decode cX4_begin 38 = .ok (.aload_n 0, 1) := by decide +kernel
theorem dX4_begin_39 : decode cX4_begin 39 = .ok (.getfield 15, 3) := by decide +kernel
theorem dX4_begin_42 : decode cX4_begin 42 = .ok (.iload_n 2, 1) := by decide +kernel
theorem dX4_begin_43 : decode cX4_begin 43 = .ok (.bipush 7, 2) := by decide +kernel
theorem dX4_begin_45 : decode cX4_begin 45 = .ok (.imul, 1) := by decide +kernel
theorem dX4_begin_46 : decode cX4_begin 46 = .ok (.iconst 0, 1) := by decide +kernel
theorem dX4_begin_47 : decode cX4_begin 47 = .ok (.iadd, 1) := by decide +kernel
theorem dX4_begin_48 : decode cX4_begin 48 = .ok (.aload_n 1, 1) := by decide +kernel
theorem dX4_begin_49 : decode cX4_begin 49 = .ok (.getfield 43, 3) := by decide +kernel
theorem dX4_begin_52 : decode cX4_begin 52 = .ok (.iload_n 2, 1) := by decide +kernel
theorem dX4_begin_53 : decode cX4_begin 53 = .ok (.iaload, 1) := by decide +kernel
theorem dX4_begin_54 : decode cX4_begin 54 = .ok (.iastore, 1) := by decide +kernel
theorem dX4_begin_55 : decode cX4_begin 55 = .ok (.iinc 2 1, 3) := by decide +kernel
theorem dX4_begin_58 : decode cX4_begin 58 = .ok (.goto (-28), 3) := by decide +kernel
theorem dX4_begin_61 : decode cX4_begin 61 = .ok (.return_, 1) := by decide +kernel
theorem dX4_become_0 : decode cX4_become 0 = .ok (.aload_n 0, 1) := by decide +kernel
theorem dX4_become_1 : decode cX4_become 1 = .ok (.aload_n 1, 1) := by decide +kernel
theorem dX4_become_2 : decode cX4_become 2 = .ok (.getfield 18, 3) := by decide +kernel
theorem dX4_become_5 : decode cX4_become 5 = .ok (.putfield 18, 3) := by decide +kernel
theorem dX4_become_8 : decode cX4_become 8 = .ok (.aload_n 0, 1) := by decide +kernel
theorem dX4_become_9 : decode cX4_become 9 = .ok (.aload_n 1, 1) := by decide +kernel
theorem dX4_become_10 : decode cX4_become 10 = .ok (.getfield 22, 3) := by decide +kernel
theorem dX4_become_13 : decode cX4_become 13 = .ok (.putfield 22, 3) := by decide +kernel
theorem dX4_become_16 : decode cX4_become 16 = .ok (.aload_n 0, 1) := by decide +kernel
theorem dX4_become_17 : decode cX4_become 17 = .ok (.aload_n 1, 1) := by decide +kernel
theorem dX4_become_18 : decode cX4_become 18 = .ok (.getfield 25, 3) := by decide +kernel
theorem dX4_become_21 : decode cX4_become 21 = .ok (.putfield 25, 3) := by decide +kernel
theorem dX4_become_24 : decode cX4_become 24 = .ok (.aload_n 0, 1) := by decide +kernel
theorem dX4_become_25 : decode cX4_become 25 = .ok (.aload_n 1, 1) := by decide +kernel
theorem dX4_become_26 : decode cX4_become 26 = .ok (.getfield 28, 3) := by decide +kernel
theorem dX4_become_29 : decode cX4_become 29 = .ok (.putfield 28, 3) := by decide +kernel
theorem dX4_become_32 : decode cX4_become 32 = .ok (.aload_n 1, 1) := by decide +kernel
theorem dX4_become_33 : decode cX4_become 33 = .ok (.getfield 9, 3) := by decide +kernel
theorem dX4_become_36 : decode cX4_become 36 = .ok (.iconst 0, 1) := by decide +kernel
theorem dX4_become_37 : decode cX4_become 37 = .ok (.aload_n 0, 1) := by decide +kernel
theorem dX4_become_38 : decode cX4_become 38 = .ok (.getfield 9, 3) := by decide +kernel
theorem dX4_become_41 : decode cX4_become 41 = .ok (.iconst 0, 1) := by decide +kernel
theorem dX4_become_42 : decode cX4_become 42 = .ok (.aload_n 0, 1) := by decide +kernel
theorem dX4_become_43 : decode cX4_become 43 = .ok (.getfield 9, 3) := by decide +kernel
theorem dX4_become_46 : decode cX4_become 46 = .ok (.arraylength, 1) := by decide +kernel
theorem dX4_become_47 : decode cX4_become 47 = .ok (.invokestatic 46, 3) := by decide +kernel
theorem dX4_become_50 : decode cX4_become 50 = .ok (.aload_n 1, 1) := by decide +kernel
theorem dX4_become_51 : decode cX4_become 51 = .ok (.getfield 15, 3) := by decide +kernel
theorem dX4_become_54 : decode cX4_become 54 = .ok (.iconst 0, 1) := by decide +kernel
theorem dX4_become_55 : decode cX4_become 55 = .ok (.aload_n 0, 1) := by decide +kernel
theorem dX4_become_56 : decode cX4_become 56 = .ok (.getfield 15, 3) := by decide +kernel
theorem dX4_become_59 : decode cX4_become 59 = .ok (.iconst 0, 1) := by decide +kernel
theorem dX4_become_60 : decode cX4_become 60 = .ok (.aload_n 0, 1) := by decide +kernel
theorem dX4_become_61 : decode cX4_become 61 = .ok (.getfield 15, 3) := by decide +kernel
theorem dX4_become_64 : decode cX4_become 64 = .ok (.arraylength, 1) := by decide +kernel
theorem dX4_become_65 : decode cX4_become 65 = .ok (.invokestatic 46, 3) := by decide +kernel
theorem dX4_become_68 : decode cX4_become 68 = .ok (.return_, 1) := by decide +kernel
theorem dX4_sum_0 : decode cX4_sum 0 = .ok (.iconst 0, 1) := by decide +kernel
theorem dX4_sum_1 : decode cX4_sum 1 = .ok (.istore_n 2, 1) := by decide +kernel
theorem dX4_sum_2 : decode cX4_sum 2 = .ok (.iconst 0, 1) := by decide +kernel
theorem dX4_sum_3 : decode cX4_sum 3 = .ok (.istore_n 3, 1) := by decide +kernel
theorem dX4_sum_4 : decode cX4_sum 4 = .ok (.iload_n 3, 1) := by decide +kernel
theorem dX4_sum_5 : decode cX4_sum 5 = .ok (.iconst 4, 1) := by decide +kernel
theorem dX4_sum_6 : decode cX4_sum 6 = .ok (.if_icmp .ge 23, 3) := by decide +kernel
theorem dX4_sum_9 : decode cX4_sum 9 = .ok (.iload_n 2, 1) := by decide +kernel
theorem dX4_sum_10 : decode cX4_sum 10 = .ok (.aload_n 0, 1) := by decide +kernel
theorem dX4_sum_11 : decode cX4_sum 11 = .ok (.getfield 15, 3) := by decide +kernel
theorem dX4_sum_14 : decode cX4_sum 14 = .ok (.iload_n 3, 1) := by decide +kernel
theorem dX4_sum_15 : decode cX4_sum 15 = .ok (.bipush 7, 2) := by decide +kernel
theorem dX4_sum_17 : decode cX4_sum 17 = .ok (.imul, 1) := by decide +kernel
theorem dX4_sum_18 : decode cX4_sum 18 = .ok (.iload_n 1, 1) := by decide +kernel
theorem dX4_sum_19 : decode cX4_sum 19 = .ok (.iadd, 1) := by decide +kernel
theorem dX4_sum_20 : decode cX4_sum 20 = .ok (.iaload, 1) := by decide +kernel
theorem dX4_sum_21 : decode cX4_sum 21 = .ok (.iadd, 1) := by decide +kernel
theorem dX4_sum_22 : decode cX4_sum 22 = .ok (.istore_n 2, 1) := by decide +kernel
theorem dX4_sum_23 : decode cX4_sum 23 = .ok (.iinc 3 1, 3) := by decide +kernel
theorem dX4_sum_26 : decode cX4_sum 26 = .ok (.goto (-22), 3) := by decide +kernel
theorem dX4_sum_29 : decode cX4_sum 29 = .ok (.iload_n 2, 1) := by decide +kernel
theorem dX4_sum_30 : decode cX4_sum 30 = .ok (.ireturn, 1) := by decide +kernel
theorem dX4_round_0 : decode cX4_round 0 = .ok (.aload_n 0, 1) := by decide +kernel
theorem dX4_round_1 : decode cX4_round 1 = .ok (.getfield 28, 3) := by decide +kernel
theorem dX4_round_4 : decode cX4_round 4 = .ok (.lconst 0, 1) := by decide +kernel
theorem dX4_round_5 : decode cX4_round 5 = .ok (.lcmp, 1) := by decide +kernel
theorem dX4_round_6 : decode cX4_round 6 = .ok (.ifCond .ne 5, 3) := by decide +kernel
theorem dX4_round_9 : decode cX4_round 9 = .ok (.iconst (-1), 1) := by decide +kernel
theorem dX4_round_10 : decode cX4_round 10 = .ok (.ireturn, 1) := by decide +kernel
theorem dX4_round_11 : decode cX4_round 11 = .ok (.ldc2_w 52, 3) := by decide +kernel
theorem dX4_round_14 : decode cX4_round 14 = .ok (.ldc2_w 54, 3) := by decide +kernel
theorem dX4_round_17 : decode cX4_round 17 = .ok (.aload_n 0, 1) := by decide +kernel
theorem dX4_round_18 : decode cX4_round 18 = .ok (.iconst 2, 1) := by decide +kernel
theorem dX4_round_19 : decode cX4_round 19 = .ok (.invokevirtual 56, 3) := by decide +kernel
theorem dX4_round_22 : decode cX4_round 22 = .ok (.i2l, 1) := by decide +kernel
theorem dX4_round_23 : decode cX4_round 23 = .ok (.lmul, 1) := by decide +kernel
theorem dX4_round_24 : decode cX4_round 24 = .ok (.aload_n 0, 1) := by decide +kernel
theorem dX4_round_25 : decode cX4_round 25 = .ok (.getfield 28, 3) := by decide +kernel
theorem dX4_round_28 : decode cX4_round 28 = .ok (.ldiv, 1) := by decide +kernel
theorem dX4_round_29 : decode cX4_round 29 = .ok (.invokestatic 60, 3) := by decide +kernel
theorem dX4_round_32 : decode cX4_round 32 = .ok (.l2i, 1) := by decide +kernel
theorem dX4_round_33 : decode cX4_round 33 = .ok (.ireturn, 1) := by decide +kernel
theorem dX5_init_0 : decode cX5_init 0 = .ok (.aload_n 0, 1) := by decide +kernel
theorem dX5_init_1 : decode cX5_init 1 = .ok (.invokespecial 3, 3) := by decide +kernel
theorem dX5_init_4 : decode cX5_init 4 = .ok (.aload_n 0, 1) := by decide +kernel
theorem dX5_init_5 : decode cX5_init 5 = .ok (.sipush 900, 3) := by decide +kernel
theorem dX5_init_8 : decode cX5_init 8 = .ok (.newarray .byte, 2) := by decide +kernel
theorem dX5_init_10 : decode cX5_init 10 = .ok (.putfield 9, 3) := by decide +kernel
theorem dX5_init_13 : decode cX5_init 13 = .ok (.aload_n 0, 1) := by decide +kernel
theorem dX5_init_14 : decode cX5_init 14 = .ok (.iconst 0, 1) := by decide +kernel
theorem dX5_init_15 : decode cX5_init 15 = .ok (.putfield 15, 3) := by decide +kernel
theorem dX5_init_18 : decode cX5_init 18 = .ok (.return_, 1) := by decide +kernel
theorem dX5_put_0 : decode cX5_put 0 = .ok (.bipush 24, 2) := by decide +kernel
theorem dX5_put_2 : decode cX5_put 2 = .ok (.istore_n 2, 1) := by decide +kernel
theorem dX5_put_3 : decode cX5_put 3 = .ok (.iload_n 2, 1) := by decide +kernel
theorem dX5_put_4 : decode cX5_put 4 = .ok (.ifCond .lt 42, 3) := by decide +kernel
theorem dX5_put_7 : decode cX5_put 7 = .ok (.aload_n 0, 1) := by decide +kernel
theorem dX5_put_8 : decode cX5_put 8 = .ok (.getfield 15, 3) := by decide +kernel
theorem dX5_put_11 : decode cX5_put 11 = .ok (.sipush 900, 3) := by decide +kernel
theorem dX5_put_14 : decode cX5_put 14 = .ok (.if_icmp .ge 26, 3) := by decide +kernel
theorem dX5_put_17 : decode cX5_put 17 = .ok (.aload_n 0, 1) := by decide +kernel
theorem dX5_put_18 : decode cX5_put 18 = .ok (.getfield 9, 3) := by decide +kernel
theorem dX5_put_21 : decode cX5_put 21 = .ok (.aload_n 0, 1) := by decide +kernel
theorem dX5_put_22 : decode cX5_put 22 = .ok (.getfield 15, 3) := by decide +kernel
theorem dX5_put_25 : decode cX5_put 25 = .ok (.iload_n 1, 1) := by decide +kernel
theorem dX5_put_26 : decode cX5_put 26 = .ok (.iload_n 2, 1) := by decide +kernel
theorem dX5_put_27 : decode cX5_put 27 = .ok (.ishr, 1) := by decide +kernel
theorem dX5_put_28 : decode cX5_put 28 = .ok (.i2b, 1) := by decide +kernel
theorem dX5_put_29 : decode cX5_put 29 = .ok (.bastore, 1) := by decide +kernel
theorem dX5_put_30 : decode cX5_put 30 = .ok (.aload_n 0, 1) := by decide +kernel
theorem dX5_put_31 : decode cX5_put 31 = .ok (.dup, 1) := by decide +kernel
theorem dX5_put_32 : decode cX5_put 32 = .ok (.getfield 15, 3) := by decide +kernel
theorem dX5_put_35 : decode cX5_put 35 = .ok (.iconst 1, 1) := by decide +kernel
theorem dX5_put_36 : decode cX5_put 36 = .ok (.iadd, 1) := by decide +kernel
theorem dX5_put_37 : decode cX5_put 37 = .ok (.putfield 15, 3) := by decide +kernel
theorem dX5_put_40 : decode cX5_put 40 = .ok (.iinc 2 (-8), 3) := by decide +kernel
theorem dX5_put_43 : decode cX5_put 43 = .ok (.goto (-40), 3) := by decide +kernel
theorem dX5_put_46 : decode cX5_put 46 = .ok (.return_, 1) := by decide +kernel
theorem dX5_rewind_0 : decode cX5_rewind 0 = .ok (.aload_n 0, 1) := by decide +kernel
theorem dX5_rewind_1 : decode cX5_rewind 1 = .ok (.iconst 0, 1) := by decide +kernel
theorem dX5_rewind_2 : decode cX5_rewind 2 = .ok (.putfield 19, 3) := by decide +kernel
